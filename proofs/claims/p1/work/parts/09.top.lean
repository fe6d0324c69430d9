theorem dX10_garden_0 : decode cX10_garden 0 = .ok (.iload_n 1, 1) := by decide +kernel
theorem dX10_garden_1 : decode cX10_garden 1 = .ok (.iconst 2, 1) := by decide +kernel
theorem dX10_garden_2 : decode cX10_garden 2 = .ok (.bipush 6, 2) := by decide +kernel
set_option maxRecDepth 20000 in
theorem ggX10_garden_X10_isWithin : GoodIn wsX10_garden wsX10_isWithin := goodIn_r _ [5] (by decide +kernel) (by decide +kernel)
set_option maxRecDepth 20000 in
theorem gX10_garden_X10_isWithin : GoodIn wsX10_garden (va_wsS RX10 48 yX10_isWithin wsX10_isWithin) := goodIn_app (goodIn_of _ (by decide +kernel)) ggX10_garden_X10_isWithin
theorem dX10_garden_4 : decode cX10_garden 4 = .ok (.invokestatic 48, 3) := by decide +kernel
theorem dX10_garden_7 : decode cX10_garden 7 = .ok (.ifCond .eq 13, 3) := by decide +kernel
theorem dX10_garden_10 : decode cX10_garden 10 = .ok (.iload_n 2, 1) := by decide +kernel
theorem dX10_garden_11 : decode cX10_garden 11 = .ok (.iconst 2, 1) := by decide +kernel
theorem dX10_garden_12 : decode cX10_garden 12 = .ok (.bipush 6, 2) := by decide +kernel
theorem dX10_garden_14 : decode cX10_garden 14 = .ok (.invokestatic 48, 3) := by decide +kernel
theorem dX10_garden_17 : decode cX10_garden 17 = .ok (.ifCond .ne 10, 3) := by decide +kernel
theorem dX10_garden_27 : decode cX10_garden 27 = .ok (.aload_n 0, 1) := by decide +kernel
theorem dX10_garden_28 : decode cX10_garden 28 = .ok (.getfield 10, 3) := by decide +kernel
theorem dX10_garden_31 : decode cX10_garden 31 = .ok (.iload_n 1, 1) := by decide +kernel
theorem dX10_garden_32 : decode cX10_garden 32 = .ok (.iload_n 2, 1) := by decide +kernel
set_option maxRecDepth 20000 in
theorem ggX10_garden_X3_layOut : GoodIn wsX10_garden wsX3_layOut := goodIn_r _ [15, 16, 17, 18, 19, 20, 21, 22, 23, 24, 38, 39, 40, 41, 42, 43, 44, 45, 46, 47, 48, 49, 50, 51, 52, 53] (by decide +kernel) (by decide +kernel)
set_option maxRecDepth 20000 in
theorem gX10_garden_X3_layOut : GoodIn wsX10_garden (wsV RX10 56 RX3 yX3_layOut wsX3_layOut) := goodIn_app (goodIn_of _ (by decide +kernel)) ggX10_garden_X3_layOut
theorem dX10_garden_33 : decode cX10_garden 33 = .ok (.invokevirtual 56, 3) := by decide +kernel
theorem dX10_garden_36 : decode cX10_garden 36 = .ok (.aload_n 0, 1) := by decide +kernel
theorem dX10_garden_37 : decode cX10_garden 37 = .ok (.getfield 10, 3) := by decide +kernel
set_option maxRecDepth 20000 in
theorem ggX10_garden_X3_squareCount : GoodIn wsX10_garden wsX3_squareCount := goodIn_r _ [28, 16, 17, 38, 39, 40, 41, 42, 43, 44, 45, 46, 47, 48, 49, 50, 51, 52, 53] (by decide +kernel) (by decide +kernel)
set_option maxRecDepth 20000 in
theorem gX10_garden_X3_squareCount : GoodIn wsX10_garden (wsV RX10 60 RX3 yX3_squareCount wsX3_squareCount) := goodIn_app (goodIn_of _ (by decide +kernel)) ggX10_garden_X3_squareCount
theorem dX10_garden_40 : decode cX10_garden 40 = .ok (.invokevirtual 60, 3) := by decide +kernel
theorem dX10_garden_43 : decode cX10_garden 43 = .ok (.ireturn, 1) := by decide +kernel
theorem dX10_garden_20 : decode cX10_garden 20 = .ok (.aload_n 0, 1) := by decide +kernel
theorem dX10_garden_21 : decode cX10_garden 21 = .ok (.bipush (-2), 2) := by decide +kernel
set_option maxRecDepth 20000 in
theorem ggX10_garden_X10_refuseBad : GoodIn wsX10_garden wsX10_refuseBad := goodIn_r _ [9, 10, 29, 30, 31, 32, 33, 34, 35, 36, 37] (by decide +kernel) (by decide +kernel)
set_option maxRecDepth 20000 in
theorem gX10_garden_X10_refuseBad : GoodIn wsX10_garden (wsV RX10 52 RX10 yX10_refuseBad wsX10_refuseBad) := goodIn_app (goodIn_of _ (by decide +kernel)) ggX10_garden_X10_refuseBad
theorem dX10_garden_23 : decode cX10_garden 23 = .ok (.invokevirtual 52, 3) := by decide +kernel
theorem dX10_garden_26 : decode cX10_garden 26 = .ok (.ireturn, 1) := by decide +kernel
theorem dX10_set_0 : decode cX10_set 0 = .ok (.iload_n 1, 1) := by decide +kernel
theorem dX10_set_1 : decode cX10_set 1 = .ok (.iconst 0, 1) := by decide +kernel
theorem dX10_set_2 : decode cX10_set 2 = .ok (.iconst 1, 1) := by decide +kernel
set_option maxRecDepth 20000 in
theorem ggX10_set_X10_isWithin : GoodIn wsX10_set wsX10_isWithin := goodIn_r _ [5] (by decide +kernel) (by decide +kernel)
set_option maxRecDepth 20000 in
theorem gX10_set_X10_isWithin : GoodIn wsX10_set (va_wsS RX10 48 yX10_isWithin wsX10_isWithin) := goodIn_app (goodIn_of _ (by decide +kernel)) ggX10_set_X10_isWithin
theorem dX10_set_3 : decode cX10_set 3 = .ok (.invokestatic 48, 3) := by decide +kernel
theorem dX10_set_6 : decode cX10_set 6 = .ok (.ifCond .eq 14, 3) := by decide +kernel
theorem dX10_set_9 : decode cX10_set 9 = .ok (.aload_n 0, 1) := by decide +kernel
theorem dX10_set_10 : decode cX10_set 10 = .ok (.getfield 10, 3) := by decide +kernel
theorem dX10_set_13 : decode cX10_set 13 = .ok (.iload_n 2, 1) := by decide +kernel
set_option maxRecDepth 20000 in
theorem ggX10_set_X3_isSquare : GoodIn wsX10_set wsX3_isSquare := goodIn_r _ [10, 11, 12, 13, 9, 14, 15, 16, 54, 55, 56, 57, 58, 59, 60, 61, 62, 63, 64, 65, 66, 67, 68, 69] (by decide +kernel) (by decide +kernel)
set_option maxRecDepth 20000 in
theorem gX10_set_X3_isSquare : GoodIn wsX10_set (wsV RX10 64 RX3 yX3_isSquare wsX3_isSquare) := goodIn_app (goodIn_of _ (by decide +kernel)) ggX10_set_X3_isSquare
theorem dX10_set_14 : decode cX10_set 14 = .ok (.invokevirtual 64, 3) := by decide +kernel
theorem dX10_set_17 : decode cX10_set 17 = .ok (.ifCond .ne 10, 3) := by decide +kernel
theorem dX10_set_27 : decode cX10_set 27 = .ok (.aload_n 0, 1) := by decide +kernel
theorem dX10_set_28 : decode cX10_set 28 = .ok (.getfield 10, 3) := by decide +kernel
theorem dX10_set_31 : decode cX10_set 31 = .ok (.iload_n 1, 1) := by decide +kernel
theorem dX10_set_32 : decode cX10_set 32 = .ok (.iload_n 2, 1) := by decide +kernel
set_option maxRecDepth 20000 in
theorem ggX10_set_X3_has : GoodIn wsX10_set wsX3_has := goodIn_r _ [25, 26, 27, 28, 4, 29, 54, 55, 56, 57, 58, 59, 60, 61, 62, 63, 64, 65, 66, 67, 68, 69] (by decide +kernel) (by decide +kernel)
set_option maxRecDepth 20000 in
theorem gX10_set_X3_has : GoodIn wsX10_set (wsV RX10 68 RX3 yX3_has wsX3_has) := goodIn_app (goodIn_of _ (by decide +kernel)) ggX10_set_X3_has
theorem dX10_set_33 : decode cX10_set 33 = .ok (.invokevirtual 68, 3) := by decide +kernel
theorem dX10_set_36 : decode cX10_set 36 = .ok (.iload_n 3, 1) := by decide +kernel
theorem dX10_set_37 : decode cX10_set 37 = .ok (.if_icmp .ne 10, 3) := by decide +kernel
theorem dX10_set_47 : decode cX10_set 47 = .ok (.iload_n 1, 1) := by decide +kernel
theorem dX10_set_48 : decode cX10_set 48 = .ok (.ifCond .ne 25, 3) := by decide +kernel
theorem dX10_set_73 : decode cX10_set 73 = .ok (.aload_n 0, 1) := by decide +kernel
theorem dX10_set_74 : decode cX10_set 74 = .ok (.getfield 10, 3) := by decide +kernel
theorem dX10_set_77 : decode cX10_set 77 = .ok (.iload_n 1, 1) := by decide +kernel
theorem dX10_set_78 : decode cX10_set 78 = .ok (.iload_n 2, 1) := by decide +kernel
set_option maxRecDepth 20000 in
theorem ggX10_set_X3_turn : GoodIn wsX10_set wsX3_turn := goodIn_r _ [44, 26, 27, 54, 55, 56, 57, 58, 59, 60, 61, 62, 63, 64, 65, 66, 67, 68, 69] (by decide +kernel) (by decide +kernel)
set_option maxRecDepth 20000 in
theorem gX10_set_X3_turn : GoodIn wsX10_set (wsV RX10 78 RX3 yX3_turn wsX3_turn) := goodIn_app (goodIn_of _ (by decide +kernel)) ggX10_set_X3_turn
theorem dX10_set_79 : decode cX10_set 79 = .ok (.invokevirtual 78, 3) := by decide +kernel
theorem dX10_set_82 : decode cX10_set 82 = .ok (.iconst 1, 1) := by decide +kernel
theorem dX10_set_83 : decode cX10_set 83 = .ok (.ireturn, 1) := by decide +kernel
theorem dX10_set_51 : decode cX10_set 51 = .ok (.iload_n 3, 1) := by decide +kernel
theorem dX10_set_52 : decode cX10_set 52 = .ok (.ifCond .eq 21, 3) := by decide +kernel
theorem dX10_set_55 : decode cX10_set 55 = .ok (.aload_n 0, 1) := by decide +kernel
theorem dX10_set_56 : decode cX10_set 56 = .ok (.getfield 10, 3) := by decide +kernel
theorem dX10_set_59 : decode cX10_set 59 = .ok (.iload_n 2, 1) := by decide +kernel
set_option maxRecDepth 20000 in
theorem ggX10_set_X3_isTaken : GoodIn wsX10_set wsX3_isTaken := goodIn_r _ [38, 39, 40, 54, 55, 56, 57, 58, 59, 60, 61, 62, 63, 64, 65, 66, 67, 68, 69] (by decide +kernel) (by decide +kernel)
set_option maxRecDepth 20000 in
theorem gX10_set_X3_isTaken : GoodIn wsX10_set (wsV RX10 75 RX3 yX3_isTaken wsX3_isTaken) := goodIn_app (goodIn_of _ (by decide +kernel)) ggX10_set_X3_isTaken
theorem dX10_set_60 : decode cX10_set 60 = .ok (.invokevirtual 75, 3) := by decide +kernel
theorem dX10_set_63 : decode cX10_set 63 = .ok (.ifCond .eq 10, 3) := by decide +kernel
theorem dX10_set_40 : decode cX10_set 40 = .ok (.aload_n 0, 1) := by decide +kernel
theorem dX10_set_41 : decode cX10_set 41 = .ok (.bipush (-3), 2) := by decide +kernel
set_option maxRecDepth 20000 in
theorem ggX10_set_X10_refuseNo : GoodIn wsX10_set wsX10_refuseNo := goodIn_r _ [33, 34, 45, 46, 47, 48, 49, 50, 51, 52, 53] (by decide +kernel) (by decide +kernel)
set_option maxRecDepth 20000 in
theorem gX10_set_X10_refuseNo : GoodIn wsX10_set (wsV RX10 72 RX10 yX10_refuseNo wsX10_refuseNo) := goodIn_app (goodIn_of _ (by decide +kernel)) ggX10_set_X10_refuseNo
theorem dX10_set_43 : decode cX10_set 43 = .ok (.invokevirtual 72, 3) := by decide +kernel
theorem dX10_set_46 : decode cX10_set 46 = .ok (.ireturn, 1) := by decide +kernel
theorem dX10_set_20 : decode cX10_set 20 = .ok (.aload_n 0, 1) := by decide +kernel
theorem dX10_set_21 : decode cX10_set 21 = .ok (.bipush (-2), 2) := by decide +kernel
set_option maxRecDepth 20000 in
theorem ggX10_set_X10_refuseBad : GoodIn wsX10_set wsX10_refuseBad := goodIn_r _ [20, 21, 45, 46, 47, 48, 49, 50, 51, 52, 53] (by decide +kernel) (by decide +kernel)
set_option maxRecDepth 20000 in
theorem gX10_set_X10_refuseBad : GoodIn wsX10_set (wsV RX10 52 RX10 yX10_refuseBad wsX10_refuseBad) := goodIn_app (goodIn_of _ (by decide +kernel)) ggX10_set_X10_refuseBad
theorem dX10_set_23 : decode cX10_set 23 = .ok (.invokevirtual 52, 3) := by decide +kernel
theorem dX10_set_26 : decode cX10_set 26 = .ok (.ireturn, 1) := by decide +kernel
theorem dX10_put_0 : decode cX10_put 0 = .ok (.iload_n 1, 1) := by decide +kernel
theorem dX10_put_1 : decode cX10_put 1 = .ok (.ifCond .ne 30, 3) := by decide +kernel
theorem dX10_put_31 : decode cX10_put 31 = .ok (.iload_n 1, 1) := by decide +kernel
theorem dX10_put_32 : decode cX10_put 32 = .ok (.iconst 1, 1) := by decide +kernel
theorem dX10_put_33 : decode cX10_put 33 = .ok (.if_icmp .ne 30, 3) := by decide +kernel
theorem dX10_put_63 : decode cX10_put 63 = .ok (.aload_n 0, 1) := by decide +kernel
theorem dX10_put_64 : decode cX10_put 64 = .ok (.bipush (-10), 2) := by decide +kernel
set_option maxRecDepth 20000 in
theorem ggX10_put_X10_refuseBad : GoodIn wsX10_put wsX10_refuseBad := goodIn_r _ [11, 12, 13, 14, 15, 16, 17, 18, 19, 20, 21] (by decide +kernel) (by decide +kernel)
set_option maxRecDepth 20000 in
theorem gX10_put_X10_refuseBad : GoodIn wsX10_put (wsV RX10 52 RX10 yX10_refuseBad wsX10_refuseBad) := goodIn_app (goodIn_of _ (by decide +kernel)) ggX10_put_X10_refuseBad
theorem dX10_put_66 : decode cX10_put 66 = .ok (.invokevirtual 52, 3) := by decide +kernel
theorem dX10_put_69 : decode cX10_put 69 = .ok (.ireturn, 1) := by decide +kernel
theorem dX10_put_36 : decode cX10_put 36 = .ok (.iload_n 2, 1) := by decide +kernel
theorem dX10_put_37 : decode cX10_put 37 = .ok (.iconst (-1), 1) := by decide +kernel
theorem dX10_put_38 : decode cX10_put 38 = .ok (.iconst 1, 1) := by decide +kernel
set_option maxRecDepth 20000 in
theorem ggX10_put_X10_isWithin : GoodIn wsX10_put wsX10_isWithin := goodIn_r _ [7] (by decide +kernel) (by decide +kernel)
set_option maxRecDepth 20000 in
theorem gX10_put_X10_isWithin : GoodIn wsX10_put (va_wsS RX10 48 yX10_isWithin wsX10_isWithin) := goodIn_app (goodIn_of _ (by decide +kernel)) ggX10_put_X10_isWithin
theorem dX10_put_39 : decode cX10_put 39 = .ok (.invokestatic 48, 3) := by decide +kernel
theorem dX10_put_42 : decode cX10_put 42 = .ok (.ifCond .eq 21, 3) := by decide +kernel
theorem dX10_put_45 : decode cX10_put 45 = .ok (.aload_n 0, 1) := by decide +kernel
theorem dX10_put_46 : decode cX10_put 46 = .ok (.getfield 10, 3) := by decide +kernel
theorem dX10_put_49 : decode cX10_put 49 = .ok (.getfield 85, 3) := by decide +kernel
theorem dX10_put_52 : decode cX10_put 52 = .ok (.istore_n 3, 1) := by decide +kernel
theorem dX10_put_53 : decode cX10_put 53 = .ok (.aload_n 0, 1) := by decide +kernel
theorem dX10_put_54 : decode cX10_put 54 = .ok (.getfield 10, 3) := by decide +kernel
theorem dX10_put_57 : decode cX10_put 57 = .ok (.iload_n 2, 1) := by decide +kernel
theorem dX10_put_58 : decode cX10_put 58 = .ok (.putfield 85, 3) := by decide +kernel
theorem dX10_put_61 : decode cX10_put 61 = .ok (.iload_n 3, 1) := by decide +kernel
theorem dX10_put_62 : decode cX10_put 62 = .ok (.ireturn, 1) := by decide +kernel
theorem dX10_put_4 : decode cX10_put 4 = .ok (.iload_n 2, 1) := by decide +kernel
theorem dX10_put_5 : decode cX10_put 5 = .ok (.iconst 0, 1) := by decide +kernel
theorem dX10_put_6 : decode cX10_put 6 = .ok (.iconst 4, 1) := by decide +kernel
theorem dX10_put_7 : decode cX10_put 7 = .ok (.invokestatic 48, 3) := by decide +kernel
theorem dX10_put_10 : decode cX10_put 10 = .ok (.ifCond .eq 21, 3) := by decide +kernel
theorem dX10_put_13 : decode cX10_put 13 = .ok (.aload_n 0, 1) := by decide +kernel
theorem dX10_put_14 : decode cX10_put 14 = .ok (.getfield 10, 3) := by decide +kernel
theorem dX10_put_17 : decode cX10_put 17 = .ok (.getfield 81, 3) := by decide +kernel
theorem dX10_put_20 : decode cX10_put 20 = .ok (.istore_n 3, 1) := by decide +kernel
theorem dX10_put_21 : decode cX10_put 21 = .ok (.aload_n 0, 1) := by decide +kernel
theorem dX10_put_22 : decode cX10_put 22 = .ok (.getfield 10, 3) := by decide +kernel
theorem dX10_put_25 : decode cX10_put 25 = .ok (.iload_n 2, 1) := by decide +kernel
theorem dX10_put_26 : decode cX10_put 26 = .ok (.putfield 81, 3) := by decide +kernel
theorem dX10_put_29 : decode cX10_put 29 = .ok (.iload_n 3, 1) := by decide +kernel
theorem dX10_put_30 : decode cX10_put 30 = .ok (.ireturn, 1) := by decide +kernel
theorem dX10_person_0 : decode cX10_person 0 = .ok (.iload_n 1, 1) := by decide +kernel
theorem dX10_person_1 : decode cX10_person 1 = .ok (.iconst 0, 1) := by decide +kernel
theorem dX10_person_2 : decode cX10_person 2 = .ok (.iconst 5, 1) := by decide +kernel
set_option maxRecDepth 20000 in
theorem ggX10_person_X10_isWithin : GoodIn wsX10_person wsX10_isWithin := goodIn_r _ [5] (by decide +kernel) (by decide +kernel)
set_option maxRecDepth 20000 in
theorem gX10_person_X10_isWithin : GoodIn wsX10_person (va_wsS RX10 48 yX10_isWithin wsX10_isWithin) := goodIn_app (goodIn_of _ (by decide +kernel)) ggX10_person_X10_isWithin
theorem dX10_person_3 : decode cX10_person 3 = .ok (.invokestatic 48, 3) := by decide +kernel
theorem dX10_person_6 : decode cX10_person 6 = .ok (.ifCond .eq 24, 3) := by decide +kernel
theorem dX10_person_9 : decode cX10_person 9 = .ok (.aload_n 0, 1) := by decide +kernel
theorem dX10_person_10 : decode cX10_person 10 = .ok (.getfield 10, 3) := by decide +kernel
theorem dX10_person_13 : decode cX10_person 13 = .ok (.iload_n 2, 1) := by decide +kernel
set_option maxRecDepth 20000 in
theorem ggX10_person_X3_isSquare : GoodIn wsX10_person wsX3_isSquare := goodIn_r _ [10, 11, 12, 13, 9, 14, 15, 16, 65, 66, 67, 68, 69, 70, 71, 72, 73, 74, 75, 76, 77, 78, 79, 80] (by decide +kernel) (by decide +kernel)
set_option maxRecDepth 20000 in
theorem gX10_person_X3_isSquare : GoodIn wsX10_person (wsV RX10 64 RX3 yX3_isSquare wsX3_isSquare) := goodIn_app (goodIn_of _ (by decide +kernel)) ggX10_person_X3_isSquare
theorem dX10_person_14 : decode cX10_person 14 = .ok (.invokevirtual 64, 3) := by decide +kernel
theorem dX10_person_17 : decode cX10_person 17 = .ok (.ifCond .eq 13, 3) := by decide +kernel
theorem dX10_person_20 : decode cX10_person 20 = .ok (.iload_n 3, 1) := by decide +kernel
theorem dX10_person_21 : decode cX10_person 21 = .ok (.iconst 0, 1) := by decide +kernel
theorem dX10_person_22 : decode cX10_person 22 = .ok (.bipush 9, 2) := by decide +kernel
theorem dX10_person_24 : decode cX10_person 24 = .ok (.invokestatic 48, 3) := by decide +kernel
theorem dX10_person_27 : decode cX10_person 27 = .ok (.ifCond .ne 10, 3) := by decide +kernel
theorem dX10_person_37 : decode cX10_person 37 = .ok (.aload_n 0, 1) := by decide +kernel
theorem dX10_person_38 : decode cX10_person 38 = .ok (.getfield 10, 3) := by decide +kernel
theorem dX10_person_41 : decode cX10_person 41 = .ok (.iload_n 2, 1) := by decide +kernel
set_option maxRecDepth 20000 in
theorem ggX10_person_X3_isFree : GoodIn wsX10_person wsX3_isFree := goodIn_r _ [25, 26, 27, 28, 9, 29, 30, 31, 32, 4, 33, 34, 35, 36, 37, 38, 39, 65, 66, 67, 68, 69, 70, 71, 72, 73, 74, 75, 76, 77, 78, 79, 80] (by decide +kernel) (by decide +kernel)
set_option maxRecDepth 20000 in
theorem gX10_person_X3_isFree : GoodIn wsX10_person (wsV RX10 88 RX3 yX3_isFree wsX3_isFree) := goodIn_app (goodIn_of _ (by decide +kernel)) ggX10_person_X3_isFree
theorem dX10_person_42 : decode cX10_person 42 = .ok (.invokevirtual 88, 3) := by decide +kernel
theorem dX10_person_45 : decode cX10_person 45 = .ok (.ifCond .ne 10, 3) := by decide +kernel
theorem dX10_person_55 : decode cX10_person 55 = .ok (.aload_n 0, 1) := by decide +kernel
theorem dX10_person_56 : decode cX10_person 56 = .ok (.getfield 10, 3) := by decide +kernel
theorem dX10_person_59 : decode cX10_person 59 = .ok (.iload_n 1, 1) := by decide +kernel
theorem dX10_person_60 : decode cX10_person 60 = .ok (.iload_n 2, 1) := by decide +kernel
theorem dX10_person_61 : decode cX10_person 61 = .ok (.iload_n 3, 1) := by decide +kernel
set_option maxRecDepth 20000 in
theorem ggX10_person_X3_addPerson : GoodIn wsX10_person wsX3_addPerson := goodIn_r _ [48, 38, 49, 39, 50, 65, 66, 67, 68, 69, 70, 71, 72, 73, 74, 75, 76, 77, 78, 79, 80] (by decide +kernel) (by decide +kernel)
set_option maxRecDepth 20000 in
theorem gX10_person_X3_addPerson : GoodIn wsX10_person (wsV RX10 91 RX3 yX3_addPerson wsX3_addPerson) := goodIn_app (goodIn_of _ (by decide +kernel)) ggX10_person_X3_addPerson
theorem dX10_person_62 : decode cX10_person 62 = .ok (.invokevirtual 91, 3) := by decide +kernel
theorem dX10_person_65 : decode cX10_person 65 = .ok (.istore 4, 2) := by decide +kernel
theorem dX10_person_67 : decode cX10_person 67 = .ok (.iload 4, 2) := by decide +kernel
theorem dX10_person_69 : decode cX10_person 69 = .ok (.iconst (-1), 1) := by decide +kernel
theorem dX10_person_70 : decode cX10_person 70 = .ok (.if_icmp .ne 10, 3) := by decide +kernel
theorem dX10_person_80 : decode cX10_person 80 = .ok (.iload 4, 2) := by decide +kernel
theorem dX10_person_82 : decode cX10_person 82 = .ok (.ireturn, 1) := by decide +kernel
theorem dX10_person_30 : decode cX10_person 30 = .ok (.aload_n 0, 1) := by decide +kernel
theorem dX10_person_31 : decode cX10_person 31 = .ok (.bipush (-2), 2) := by decide +kernel
set_option maxRecDepth 20000 in
theorem ggX10_person_X10_refuseBad : GoodIn wsX10_person wsX10_refuseBad := goodIn_r _ [20, 21, 56, 57, 58, 59, 60, 61, 62, 63, 64] (by decide +kernel) (by decide +kernel)
set_option maxRecDepth 20000 in
theorem gX10_person_X10_refuseBad : GoodIn wsX10_person (wsV RX10 52 RX10 yX10_refuseBad wsX10_refuseBad) := goodIn_app (goodIn_of _ (by decide +kernel)) ggX10_person_X10_refuseBad
theorem dX10_person_33 : decode cX10_person 33 = .ok (.invokevirtual 52, 3) := by decide +kernel
theorem dX10_person_36 : decode cX10_person 36 = .ok (.ireturn, 1) := by decide +kernel
theorem dX10_move_0 : decode cX10_move 0 = .ok (.aload_n 0, 1) := by decide +kernel
theorem dX10_move_1 : decode cX10_move 1 = .ok (.getfield 10, 3) := by decide +kernel
theorem dX10_move_4 : decode cX10_move 4 = .ok (.iload_n 1, 1) := by decide +kernel
set_option maxRecDepth 20000 in
theorem ggX10_move_X3_isPerson : GoodIn wsX10_move wsX3_isPerson := goodIn_r _ [6, 7, 64, 65, 66, 67, 68, 69, 70, 71, 72, 73, 74, 75, 76, 77, 78, 79] (by decide +kernel) (by decide +kernel)
set_option maxRecDepth 20000 in
theorem gX10_move_X3_isPerson : GoodIn wsX10_move (wsV RX10 98 RX3 yX3_isPerson wsX3_isPerson) := goodIn_app (goodIn_of _ (by decide +kernel)) ggX10_move_X3_isPerson
theorem dX10_move_5 : decode cX10_move 5 = .ok (.invokevirtual 98, 3) := by decide +kernel
theorem dX10_move_8 : decode cX10_move 8 = .ok (.ifCond .eq 14, 3) := by decide +kernel
theorem dX10_move_22 : decode cX10_move 22 = .ok (.aload_n 0, 1) := by decide +kernel
theorem dX10_move_23 : decode cX10_move 23 = .ok (.bipush (-10), 2) := by decide +kernel
set_option maxRecDepth 20000 in
theorem ggX10_move_X10_refuseBad : GoodIn wsX10_move wsX10_refuseBad := goodIn_r _ [22, 23, 55, 56, 57, 58, 59, 60, 61, 62, 63] (by decide +kernel) (by decide +kernel)
set_option maxRecDepth 20000 in
theorem gX10_move_X10_refuseBad : GoodIn wsX10_move (wsV RX10 52 RX10 yX10_refuseBad wsX10_refuseBad) := goodIn_app (goodIn_of _ (by decide +kernel)) ggX10_move_X10_refuseBad
theorem dX10_move_25 : decode cX10_move 25 = .ok (.invokevirtual 52, 3) := by decide +kernel
theorem dX10_move_28 : decode cX10_move 28 = .ok (.ireturn, 1) := by decide +kernel
theorem dX10_tell_0 : decode cX10_tell 0 = .ok (.aload_n 0, 1) := by decide +kernel
theorem dX10_tell_1 : decode cX10_tell 1 = .ok (.iload_n 1, 1) := by decide +kernel
theorem dX10_tell_2 : decode cX10_tell 2 = .ok (.iload_n 2, 1) := by decide +kernel
set_option maxRecDepth 20000 in
theorem ggX10_tell_X10_isPairOfTwo : GoodIn wsX10_tell wsX10_isPairOfTwo := goodIn_r _ [6, 1, 7, 8, 9, 10, 11, 12, 30, 31, 32, 33, 34, 35, 36, 37, 38, 39, 40, 41, 42, 43, 44, 45, 46, 47, 48, 49, 50, 51, 52, 53, 54] (by decide +kernel) (by decide +kernel)
set_option maxRecDepth 20000 in
theorem gX10_tell_X10_isPairOfTwo : GoodIn wsX10_tell (wsV RX10 107 RX10 yX10_isPairOfTwo wsX10_isPairOfTwo) := goodIn_app (goodIn_of _ (by decide +kernel)) ggX10_tell_X10_isPairOfTwo
theorem dX10_tell_3 : decode cX10_tell 3 = .ok (.invokevirtual 107, 3) := by decide +kernel
theorem dX10_tell_6 : decode cX10_tell 6 = .ok (.ifCond .ne 10, 3) := by decide +kernel
theorem dX10_tell_9 : decode cX10_tell 9 = .ok (.aload_n 0, 1) := by decide +kernel
theorem dX10_tell_10 : decode cX10_tell 10 = .ok (.bipush (-2), 2) := by decide +kernel
set_option maxRecDepth 20000 in
theorem ggX10_tell_X10_refuseBad : GoodIn wsX10_tell wsX10_refuseBad := goodIn_r _ [16, 17, 30, 31, 32, 33, 34, 35, 36, 37, 38] (by decide +kernel) (by decide +kernel)
set_option maxRecDepth 20000 in
theorem gX10_tell_X10_refuseBad : GoodIn wsX10_tell (wsV RX10 52 RX10 yX10_refuseBad wsX10_refuseBad) := goodIn_app (goodIn_of _ (by decide +kernel)) ggX10_tell_X10_refuseBad
theorem dX10_tell_12 : decode cX10_tell 12 = .ok (.invokevirtual 52, 3) := by decide +kernel
theorem dX10_tell_15 : decode cX10_tell 15 = .ok (.ireturn, 1) := by decide +kernel
theorem dX10_report_0 : decode cX10_report 0 = .ok (.aload_n 0, 1) := by decide +kernel
theorem dX10_report_1 : decode cX10_report 1 = .ok (.getfield 10, 3) := by decide +kernel
theorem dX10_report_4 : decode cX10_report 4 = .ok (.iload_n 1, 1) := by decide +kernel
set_option maxRecDepth 20000 in
theorem ggX10_report_X3_isPerson : GoodIn wsX10_report wsX3_isPerson := goodIn_r _ [6, 7, 38, 39, 40, 41, 42, 43, 44, 45, 46, 47, 48, 49, 50, 51, 52, 53] (by decide +kernel) (by decide +kernel)
set_option maxRecDepth 20000 in
theorem gX10_report_X3_isPerson : GoodIn wsX10_report (wsV RX10 98 RX3 yX3_isPerson wsX3_isPerson) := goodIn_app (goodIn_of _ (by decide +kernel)) ggX10_report_X3_isPerson
theorem dX10_report_5 : decode cX10_report 5 = .ok (.invokevirtual 98, 3) := by decide +kernel
theorem dX10_report_8 : decode cX10_report 8 = .ok (.ifCond .eq 12, 3) := by decide +kernel
theorem dX10_report_20 : decode cX10_report 20 = .ok (.aload_n 0, 1) := by decide +kernel
theorem dX10_report_21 : decode cX10_report 21 = .ok (.bipush (-2), 2) := by decide +kernel
set_option maxRecDepth 20000 in
theorem ggX10_report_X10_refuseBad : GoodIn wsX10_report wsX10_refuseBad := goodIn_r _ [15, 16, 29, 30, 31, 32, 33, 34, 35, 36, 37] (by decide +kernel) (by decide +kernel)
set_option maxRecDepth 20000 in
theorem gX10_report_X10_refuseBad : GoodIn wsX10_report (wsV RX10 52 RX10 yX10_refuseBad wsX10_refuseBad) := goodIn_app (goodIn_of _ (by decide +kernel)) ggX10_report_X10_refuseBad
theorem dX10_report_23 : decode cX10_report 23 = .ok (.invokevirtual 52, 3) := by decide +kernel
theorem dX10_report_26 : decode cX10_report 26 = .ok (.ireturn, 1) := by decide +kernel
theorem dX10_clears_0 : decode cX10_clears 0 = .ok (.iload_n 1, 1) := by decide +kernel
theorem dX10_clears_1 : decode cX10_clears 1 = .ok (.ifCond .ne 21, 3) := by decide +kernel
theorem dX10_clears_22 : decode cX10_clears 22 = .ok (.iload_n 1, 1) := by decide +kernel
theorem dX10_clears_23 : decode cX10_clears 23 = .ok (.iconst 1, 1) := by decide +kernel
theorem dX10_clears_24 : decode cX10_clears 24 = .ok (.if_icmp .ne 21, 3) := by decide +kernel
theorem dX10_clears_45 : decode cX10_clears 45 = .ok (.aload_n 0, 1) := by decide +kernel
theorem dX10_clears_46 : decode cX10_clears 46 = .ok (.bipush (-2), 2) := by decide +kernel
set_option maxRecDepth 20000 in
theorem ggX10_clears_X10_refuseBad : GoodIn wsX10_clears wsX10_refuseBad := goodIn_r _ [8, 9, 10, 11, 12, 13, 14, 15, 16, 17, 18] (by decide +kernel) (by decide +kernel)
set_option maxRecDepth 20000 in
theorem gX10_clears_X10_refuseBad : GoodIn wsX10_clears (wsV RX10 52 RX10 yX10_refuseBad wsX10_refuseBad) := goodIn_app (goodIn_of _ (by decide +kernel)) ggX10_clears_X10_refuseBad
theorem dX10_clears_48 : decode cX10_clears 48 = .ok (.invokevirtual 52, 3) := by decide +kernel
theorem dX10_clears_51 : decode cX10_clears 51 = .ok (.ireturn, 1) := by decide +kernel
theorem dX10_clears_27 : decode cX10_clears 27 = .ok (.aload_n 0, 1) := by decide +kernel
theorem dX10_clears_28 : decode cX10_clears 28 = .ok (.getfield 10, 3) := by decide +kernel
theorem dX10_clears_31 : decode cX10_clears 31 = .ok (.getfield 120, 3) := by decide +kernel
theorem dX10_clears_34 : decode cX10_clears 34 = .ok (.istore_n 2, 1) := by decide +kernel
theorem dX10_clears_35 : decode cX10_clears 35 = .ok (.aload_n 0, 1) := by decide +kernel
theorem dX10_clears_36 : decode cX10_clears 36 = .ok (.getfield 10, 3) := by decide +kernel
theorem dX10_clears_39 : decode cX10_clears 39 = .ok (.iconst 0, 1) := by decide +kernel
theorem dX10_clears_40 : decode cX10_clears 40 = .ok (.putfield 120, 3) := by decide +kernel
theorem dX10_clears_43 : decode cX10_clears 43 = .ok (.iload_n 2, 1) := by decide +kernel
theorem dX10_clears_44 : decode cX10_clears 44 = .ok (.ireturn, 1) := by decide +kernel
theorem dX10_clears_4 : decode cX10_clears 4 = .ok (.aload_n 0, 1) := by decide +kernel
theorem dX10_clears_5 : decode cX10_clears 5 = .ok (.getfield 10, 3) := by decide +kernel
theorem dX10_clears_8 : decode cX10_clears 8 = .ok (.getfield 117, 3) := by decide +kernel
theorem dX10_clears_11 : decode cX10_clears 11 = .ok (.istore_n 2, 1) := by decide +kernel
theorem dX10_clears_12 : decode cX10_clears 12 = .ok (.aload_n 0, 1) := by decide +kernel
theorem dX10_clears_13 : decode cX10_clears 13 = .ok (.getfield 10, 3) := by decide +kernel
theorem dX10_clears_16 : decode cX10_clears 16 = .ok (.iconst 0, 1) := by decide +kernel
theorem dX10_clears_17 : decode cX10_clears 17 = .ok (.putfield 117, 3) := by decide +kernel
theorem dX10_clears_20 : decode cX10_clears 20 = .ok (.iload_n 2, 1) := by decide +kernel
theorem dX10_clears_21 : decode cX10_clears 21 = .ok (.ireturn, 1) := by decide +kernel
theorem dX10_type_0 : decode cX10_type 0 = .ok (.iload_n 3, 1) := by decide +kernel
theorem dX10_type_1 : decode cX10_type 1 = .ok (.iconst 1, 1) := by decide +kernel
theorem dX10_type_2 : decode cX10_type 2 = .ok (.bipush 8, 2) := by decide +kernel
set_option maxRecDepth 20000 in
theorem ggX10_type_X10_isWithin : GoodIn wsX10_type wsX10_isWithin := goodIn_r _ [6] (by decide +kernel) (by decide +kernel)
set_option maxRecDepth 20000 in
theorem gX10_type_X10_isWithin : GoodIn wsX10_type (va_wsS RX10 48 yX10_isWithin wsX10_isWithin) := goodIn_app (goodIn_of _ (by decide +kernel)) ggX10_type_X10_isWithin
theorem dX10_type_4 : decode cX10_type 4 = .ok (.invokestatic 48, 3) := by decide +kernel
theorem dX10_type_7 : decode cX10_type 7 = .ok (.ifCond .ne 10, 3) := by decide +kernel
theorem dX10_type_17 : decode cX10_type 17 = .ok (.aload_n 0, 1) := by decide +kernel
theorem dX10_type_18 : decode cX10_type 18 = .ok (.getfield 26, 3) := by decide +kernel
theorem dX10_type_21 : decode cX10_type 21 = .ok (.lload_n 1, 1) := by decide +kernel
theorem dX10_type_22 : decode cX10_type 22 = .ok (.iload_n 3, 1) := by decide +kernel
set_option maxRecDepth 20000 in
theorem ggX10_type_X8_append : GoodIn wsX10_type wsX8_append := goodIn_r _ [16, 17, 18, 33, 34, 35, 36, 37, 38, 39] (by decide +kernel) (by decide +kernel)
set_option maxRecDepth 20000 in
theorem gX10_type_X8_append : GoodIn wsX10_type (wsV RX10 123 RX8 yX8_append wsX8_append) := goodIn_app (goodIn_of _ (by decide +kernel)) ggX10_type_X8_append
theorem dX10_type_23 : decode cX10_type 23 = .ok (.invokevirtual 123, 3) := by decide +kernel
theorem dX10_type_26 : decode cX10_type 26 = .ok (.ifCond .eq 13, 3) := by decide +kernel
theorem dX10_type_29 : decode cX10_type 29 = .ok (.aload_n 0, 1) := by decide +kernel
theorem dX10_type_30 : decode cX10_type 30 = .ok (.getfield 26, 3) := by decide +kernel
theorem dX10_type_33 : decode cX10_type 33 = .ok (.getfield 127, 3) := by decide +kernel
theorem dX10_type_36 : decode cX10_type 36 = .ok (.goto 7, 3) := by decide +kernel
theorem dX10_type_43 : decode cX10_type 43 = .ok (.ireturn, 1) := by decide +kernel
theorem dX10_type_10 : decode cX10_type 10 = .ok (.aload_n 0, 1) := by decide +kernel
theorem dX10_type_11 : decode cX10_type 11 = .ok (.bipush (-2), 2) := by decide +kernel
set_option maxRecDepth 20000 in
theorem ggX10_type_X10_refuseBad : GoodIn wsX10_type wsX10_refuseBad := goodIn_r _ [10, 11, 24, 25, 26, 27, 28, 29, 30, 31, 32] (by decide +kernel) (by decide +kernel)
set_option maxRecDepth 20000 in
theorem gX10_type_X10_refuseBad : GoodIn wsX10_type (wsV RX10 52 RX10 yX10_refuseBad wsX10_refuseBad) := goodIn_app (goodIn_of _ (by decide +kernel)) ggX10_type_X10_refuseBad
theorem dX10_type_13 : decode cX10_type 13 = .ok (.invokevirtual 52, 3) := by decide +kernel
theorem dX10_type_16 : decode cX10_type 16 = .ok (.ireturn, 1) := by decide +kernel
theorem z_nn1 {q : Int32} (h1 : 1 ≤ q) (h2 : q ≤ 8) : ∃ j : Nat, 1 ≤ j ∧ j ≤ 8 ∧ q = nI j := by
  have a := Int32.le_iff_toInt_le.mp h1
  have b := Int32.le_iff_toInt_le.mp h2
  have c : (1 : Int32).toInt = 1 := by decide
  have d : (8 : Int32).toInt = 8 := by decide
  refine ⟨q.toInt.toNat, by omega, by omega, ?_⟩
  apply Int32.toInt_inj.mp
  rw [nI_toInt (by omega)]
  omega
theorem z_in2 {q : Int32} (h1 : 0 ≤ q) (h2 : q ≤ 1) : vp_in q 2 := by
  have a := Int32.le_iff_toInt_le.mp h1
  have b := Int32.le_iff_toInt_le.mp h2
  have c : (0 : Int32).toInt = 0 := by decide
  have d : (1 : Int32).toInt = 1 := by decide
  rw [vp_in_iff]
  omega
def sp_garden (w h : Int32) : Int32 := if 2 ≤ w ∧ w ≤ 6 then (if 2 ≤ h ∧ h ≤ 6 then w * h else -2) else -2
def sp_set (a q i : Int32) : Int32 := if 0 ≤ a ∧ a ≤ 1 then (if 0 ≤ q ∧ q < 36 then (if i = 0 then -3 else 1) else -2) else -2
def sp_put (a v : Int32) : Int32 := if a = 0 then (if 0 ≤ v ∧ v ≤ 4 then 1 else -10) else if a = 1 then (if -1 ≤ v ∧ v ≤ 1 then 0 else -10) else -10
def sp_person (k q v : Int32) : Int32 := if 0 ≤ k ∧ k ≤ 5 then (if 0 ≤ q ∧ q < 36 then (if 0 ≤ v ∧ v ≤ 9 then 0 else -2) else -2) else -2
def sp_clears (a : Int32) : Int32 := if a = 0 then 0 else if a = 1 then 0 else -2
def sp_type (n : Int32) : Int32 := if 1 ≤ n ∧ n ≤ 8 then n else -2
def sp_clear (x y : Int32) : Int32 := if 0 ≤ x ∧ x < 36 then (if 0 ≤ y ∧ y < 36 then 1 else -2) else -2
def sp_grp (x r : Int32) : Int32 := if 0 ≤ x ∧ x ≤ 0 then r else -2
def sp_01 (x r : Int32) : Int32 := if 0 ≤ x ∧ x ≤ 1 then r else -2
def sp_status (x : Int32) : Int32 := if x = 0 then 0 else if x = 1 then 0 else if x = 2 then 0 else -1
def sp_count (x : Int32) : Int32 := if 0 ≤ x ∧ x ≤ 5 then 0 else if x = 6 then 36 else -2

set_option maxHeartbeats 4000000 in
set_option maxRecDepth 100000 in
theorem tp_garden (l : Launch) (D : va_G) (cy : Nat → ClassId) (h g df im pn w pa : Nat) (k0 k1 k2 k3 k4 k5 k6 : Nat) (x y : Int32) (sz : Nat)  : Met l yX10_garden wsX10_garden ({ frames := 1, cells := 0, slots := 0, locals := 22 }) (va_Pc [.ref h, .int x, .int y] (kPre D cy [(h, .inr (10, [.ref g, .ref df, .ref im, .ref pn, .ref w, .ref pa, .int 0, .int 0, .int 0])), (g, .inr (3, [.int 6, .int 6, .int 1, .int 0, .long 0, .long 0, .int 0, .int 0, .int 0, .ref k0, .ref k1, .ref k2, .ref k3, .ref k4, .ref k5, .ref k6]))] sz)) (va_Qi (fun (r : Int32) (_ : Unit) => r = sp_garden x y) (fun (u : Unit) t => va_P D vwCl ([]) t.heap ∧ va_D (va_A [(h, .inr (10, [.ref g, .ref df, .ref im, .ref pn, .ref w, .ref pa, .int 0, .int 0, .int 0])), (g, .inr (3, [.int 6, .int 6, .int 1, .int 0, .long 0, .long 0, .int 0, .int 0, .int 0, .ref k0, .ref k1, .ref k2, .ref k3, .ref k4, .ref k5, .ref k6]))] sz) ([])) (va_A [(h, .inr (10, [.ref g, .ref df, .ref im, .ref pn, .ref w, .ref pa, .int 0, .int 0, .int 0])), (g, .inr (3, [.int 6, .int 6, .int 1, .int 0, .long 0, .long 0, .int 0, .int 0, .int 0, .ref k0, .ref k1, .ref k2, .ref k3, .ref k4, .ref k5, .ref k6]))] sz)) 0 0 (va_A [(h, .inr (10, [.ref g, .ref df, .ref im, .ref pn, .ref w, .ref pa, .int 0, .int 0, .int 0])), (g, .inr (3, [.int 6, .int 6, .int 1, .int 0, .long 0, .long 0, .int 0, .int 0, .int 0, .ref k0, .ref k1, .ref k2, .ref k3, .ref k4, .ref k5, .ref k6]))] sz) := by
  refine Met.ofW (cc := cX10_garden) (maxL := 3) (ret := (some .int)) (by decide) rfl ?_
  intro p e s m args below meth c s₁ B hml hv
  obtain ⟨rfl, hsz, hP, hKA, hD0⟩ := hv
  have hx := B.exec
  have hb := B.bytes
  have hr := B.returns
  have hts := atoms_spec (ws := wsX10_garden) B.pre
  have hown : s.vm.findClass RX10 = some m.cls := findClass_of_methodNamed B.named
  have hlocks := B.notSynchronized
  subst hsz
  have hK := hKA.1
  have hD := hD0.self (sz := s.heap.size)
  generalize hAe : va_A [(h, .inr (10, [.ref g, .ref df, .ref im, .ref pn, .ref w, .ref pa, .int 0, .int 0, .int 0])), (g, .inr (3, [.int 6, .int 6, .int 1, .int 0, .long 0, .long 0, .int 0, .int 0, .int 0, .ref k0, .ref k1, .ref k2, .ref k3, .ref k4, .ref k5, .ref k6]))] s.heap.size = A at hD ⊢
  have hA : ∀ q : Nat, s.heap.size ≤ q → A q := fun q h => by rw [← hAe]; exact Or.inr h
  have hS : va_S A s.heap s.heap [] := va_S.rf
  have hP : va_P D vwCl [(h, .inr (10, [.ref g, .ref df, .ref im, .ref pn, .ref w, .ref pa, .int 0, .int 0, .int 0])), (g, .inr (3, [.int 6, .int 6, .int 1, .int 0, .long 0, .long 0, .int 0, .int 0, .int 0, .ref k0, .ref k1, .ref k2, .ref k3, .ref k4, .ref k5, .ref k6]))] s.heap := hP
  have hl := lv_entry ([.ref h, .int x, .int y]) (n := 3) (Nat.le_of_ble_eq_true rfl)
  rw [lg_entry_eq]
  generalize (lg_sl ([.ref h, .int x, .int y]) ++ List.replicate (3 - (lg_sl ([.ref h, .int x, .int y])).length) Slot.unset).toArray = ls at hl ⊢
  have hl : lv_has ls 3 [(0, .ref h), (1, .int x), (2, .int y)] := hl
  have z0_ := hts (.fieldLink RX10 10 "HeardSeen" "now" "LHeardSeen$Garden;") (by decide +kernel)
  have zi10_ : ∀ w ∈ u_ws RX10 TX10 9, w ∈ wsX10_garden := by decide +kernel
  refine lv_iload_n hx hb dX10_garden_0 rfl (lv_at hl 1 rfl) ?_
  refine lv_iconst (v := 2) hx hb dX10_garden_1 (by decide) ?_
  refine lv_bipush (v := 6) hx hb dX10_garden_2 (by decide) ?_
  refine rd_i (va_runS (As := [.int x, .int 2, .int 6]) (rest := []) ⟨hx, hb, hml, hown, hts⟩ (c_X10_isWithin l D cy x 2 6 _) (va_cwS 3 hts gX10_garden_X10_isWithin rfl rfl rfl (by decide +kernel) ⟨Nat.le_of_ble_eq_true rfl, Nat.le_of_ble_eq_true rfl⟩) (pS hKA pE (dE (A := A))) rfl rfl hl.1 rfl (lv_room (Nat.le_of_ble_eq_true rfl)) dX10_garden_4 ⟨Nat.le_of_ble_eq_true rfl, Nat.le_of_ble_eq_true rfl⟩) hP hS hA (fun r1 H locs hwr1 hP hS => ?_)
  rcases hwr1 with ⟨rfl, har1, hbr1⟩ | ⟨rfl, hnr1⟩
  · skip
    refine lv_if_eq (tgt := 20) hx hb dX10_garden_7 (by decide) (fun c2 => absurd c2 (by decide)) (fun c2 => ?_)
    refine lv_iload_n hx hb dX10_garden_10 rfl (lv_at hl 2 rfl) ?_
    refine lv_iconst (v := 2) hx hb dX10_garden_11 (by decide) ?_
    refine lv_bipush (v := 6) hx hb dX10_garden_12 (by decide) ?_
    refine rd_i (va_runS (As := [.int y, .int 2, .int 6]) (rest := []) ⟨hx, hb, hml, hown, hts⟩ (c_X10_isWithin l D cy y 2 6 _) (va_cwS 3 hts gX10_garden_X10_isWithin rfl rfl rfl (by decide +kernel) ⟨Nat.le_of_ble_eq_true rfl, Nat.le_of_ble_eq_true rfl⟩) (pS hKA pE (dE (A := A))) rfl rfl hl.1 rfl (lv_room (Nat.le_of_ble_eq_true rfl)) dX10_garden_14 ⟨Nat.le_of_ble_eq_true rfl, Nat.le_of_ble_eq_true rfl⟩) hP hS hA (fun r3 H locs hwr3 hP hS => ?_)
    rcases hwr3 with ⟨rfl, har3, hbr3⟩ | ⟨rfl, hnr3⟩
    · skip
      refine lv_if_ne (tgt := 27) hx hb dX10_garden_17 (by decide) (fun c4 => ?_) (fun c4 => absurd c4 (by decide))
      refine lv_aload_n hx hb dX10_garden_27 rfl (lv_at hl 0 rfl) ?_
      refine va_get (D := D) (ci := 10) (v := .ref g) (C := RX10) (T := TX10) (N := 9) hx hb hts zi10_ hown hK hP 0 rfl rfl 0 (by decide) z0_ (fun _ h9 => h9) rfl dX10_garden_28 ?_
      refine lv_iload_n hx hb dX10_garden_31 rfl (lv_at hl 1 rfl) ?_
      refine lv_iload_n hx hb dX10_garden_32 rfl (lv_at hl 2 rfl) ?_
      refine wr_v (wr := [(h, .inr (10, [.ref g, .ref df, .ref im, .ref pn, .ref w, .ref pa, .int 0, .int 0, .int 0]))]) (va_runV (As := [.int x, .int y]) (rest := []) ⟨hx, hb, hml, hown, hts⟩ (c_X3_layOut l D cy g 6 6 1 0 0 0 0 0 0 k0 k1 k2 k3 k4 k5 k6 x y _) (cwV 2 hts gX10_garden_X3_layOut rfl rfl rfl (by decide +kernel) ⟨Nat.le_of_ble_eq_true rfl, Nat.le_of_ble_eq_true rfl⟩) (pV (ci := 3) (k := 0) hKA (hP.sub (ws' := [(g, .inr (3, [.int 6, .int 6, .int 1, .int 0, .long 0, .long 0, .int 0, .int 0, .int 0, .ref k0, .ref k1, .ref k2, .ref k3, .ref k4, .ref k5, .ref k6]))]) [1] rfl) (hD.sub (ws' := [(g, .inr (3, [.int 6, .int 6, .int 1, .int 0, .long 0, .long 0, .int 0, .int 0, .int 0, .ref k0, .ref k1, .ref k2, .ref k3, .ref k4, .ref k5, .ref k6]))]) [1] (by decide) rfl) rfl rfl) rfl rfl hl.1 rfl (lv_room (Nat.le_of_ble_eq_true rfl)) dX10_garden_33 ⟨Nat.le_of_ble_eq_true rfl, Nat.le_of_ble_eq_true rfl⟩) hP hD hS hA [1] [0] rfl rfl (by decide +kernel) (by decide +kernel) (fun ur5 H locs hwr5 hP hD hS => ?_)
      have hP : va_P D vwCl [(h, .inr (10, [.ref g, .ref df, .ref im, .ref pn, .ref w, .ref pa, .int 0, .int 0, .int 0])), (g, .inr (3, [.int x, .int y, .int 1, .int 0, .long 0, .long 0, .int 0, .int 0, .int 0, .ref k0, .ref k1, .ref k2, .ref k3, .ref k4, .ref k5, .ref k6]))] H := hP
      have hD : va_D A [(h, .inr (10, [.ref g, .ref df, .ref im, .ref pn, .ref w, .ref pa, .int 0, .int 0, .int 0])), (g, .inr (3, [.int x, .int y, .int 1, .int 0, .long 0, .long 0, .int 0, .int 0, .int 0, .ref k0, .ref k1, .ref k2, .ref k3, .ref k4, .ref k5, .ref k6]))] := hD
      refine lv_aload_n hx hb dX10_garden_36 rfl (lv_at hl 0 rfl) ?_
      refine va_get (D := D) (ci := 10) (v := .ref g) (C := RX10) (T := TX10) (N := 9) hx hb hts zi10_ hown hK hP 0 rfl rfl 0 (by decide) z0_ (fun _ h9 => h9) rfl dX10_garden_37 ?_
      refine rd_i (va_runV (As := []) (rest := []) ⟨hx, hb, hml, hown, hts⟩ (c_X3_squareCount l D cy g x y 1 0 0 0 0 0 0 k0 k1 k2 k3 k4 k5 k6 _) (cwV 0 hts gX10_garden_X3_squareCount rfl rfl rfl (by decide +kernel) ⟨Nat.le_of_ble_eq_true rfl, Nat.le_of_ble_eq_true rfl⟩) (pV (ci := 3) (k := 0) hKA (hP.sub (ws' := [(g, .inr (3, [.int x, .int y, .int 1, .int 0, .long 0, .long 0, .int 0, .int 0, .int 0, .ref k0, .ref k1, .ref k2, .ref k3, .ref k4, .ref k5, .ref k6]))]) [1] rfl) (hD.sub (ws' := [(g, .inr (3, [.int x, .int y, .int 1, .int 0, .long 0, .long 0, .int 0, .int 0, .int 0, .ref k0, .ref k1, .ref k2, .ref k3, .ref k4, .ref k5, .ref k6]))]) [1] (by decide) rfl) rfl rfl) rfl rfl hl.1 rfl (lv_room (Nat.le_of_ble_eq_true rfl)) dX10_garden_40 ⟨Nat.le_of_ble_eq_true rfl, Nat.le_of_ble_eq_true rfl⟩) hP hS hA (fun r6 H locs hwr6 hP hS => ?_)
      subst hwr6
      have hP9 := hP.sub (ws' := []) [] rfl
      have hD9 := hD.sub (ws' := []) [] (by decide) rfl
      exact W.iret (v := x * y) hx hb hr (fun t ht hW => ⟨⟨x * y, (), rfl, (by simp [sp_garden, har1, hbr1, har3, hbr3]), by rw [ht]; exact hP9, hD9⟩, hS.F ht⟩) hS.2.2 dX10_garden_43
    · skip
      refine lv_if_ne (tgt := 27) hx hb dX10_garden_17 (by decide) (fun c7 => absurd c7 (by decide)) (fun c7 => ?_)
      refine lv_aload_n hx hb dX10_garden_20 rfl (lv_at hl 0 rfl) ?_
      refine lv_bipush (v := (-2)) hx hb dX10_garden_21 (by decide) ?_
      refine wr_i (wr := [(g, .inr (3, [.int 6, .int 6, .int 1, .int 0, .long 0, .long 0, .int 0, .int 0, .int 0, .ref k0, .ref k1, .ref k2, .ref k3, .ref k4, .ref k5, .ref k6]))]) (va_runV (As := [.int (-2)]) (rest := []) ⟨hx, hb, hml, hown, hts⟩ (c_X10_refuseBad l D cy h g df im pn w pa 0 0 0 (-2) _) (cwV 1 hts gX10_garden_X10_refuseBad rfl rfl rfl (by decide +kernel) ⟨Nat.le_of_ble_eq_true rfl, Nat.le_of_ble_eq_true rfl⟩) (pV (ci := 10) (k := 0) hKA (hP.sub (ws' := [(h, .inr (10, [.ref g, .ref df, .ref im, .ref pn, .ref w, .ref pa, .int 0, .int 0, .int 0]))]) [0] rfl) (hD.sub (ws' := [(h, .inr (10, [.ref g, .ref df, .ref im, .ref pn, .ref w, .ref pa, .int 0, .int 0, .int 0]))]) [0] (by decide) rfl) rfl rfl) rfl rfl hl.1 rfl (lv_room (Nat.le_of_ble_eq_true rfl)) dX10_garden_23 ⟨Nat.le_of_ble_eq_true rfl, Nat.le_of_ble_eq_true rfl⟩) hP hD hS hA [0] [1] rfl rfl (by decide +kernel) (by decide +kernel) (fun r8 ur8 H locs hwr8 hP hD hS => ?_)
      have hP : va_P D vwCl [(g, .inr (3, [.int 6, .int 6, .int 1, .int 0, .long 0, .long 0, .int 0, .int 0, .int 0, .ref k0, .ref k1, .ref k2, .ref k3, .ref k4, .ref k5, .ref k6])), (h, .inr (10, [.ref g, .ref df, .ref im, .ref pn, .ref w, .ref pa, .int (0 + 1), .int 0, .int 0]))] H := hP
      have hD : va_D A [(g, .inr (3, [.int 6, .int 6, .int 1, .int 0, .long 0, .long 0, .int 0, .int 0, .int 0, .ref k0, .ref k1, .ref k2, .ref k3, .ref k4, .ref k5, .ref k6])), (h, .inr (10, [.ref g, .ref df, .ref im, .ref pn, .ref w, .ref pa, .int (0 + 1), .int 0, .int 0]))] := hD
      subst hwr8
      have hP9 := hP.sub (ws' := []) [] rfl
      have hD9 := hD.sub (ws' := []) [] (by decide) rfl
      exact W.iret (v := (-2)) hx hb hr (fun t ht hW => ⟨⟨(-2), (), rfl, (by simp [sp_garden, har1, hbr1, hnr3]), by rw [ht]; exact hP9, hD9⟩, hS.F ht⟩) hS.2.2 dX10_garden_26
  · skip
    refine lv_if_eq (tgt := 20) hx hb dX10_garden_7 (by decide) (fun c9 => ?_) (fun c9 => absurd c9 (by decide))
    refine lv_aload_n hx hb dX10_garden_20 rfl (lv_at hl 0 rfl) ?_
    refine lv_bipush (v := (-2)) hx hb dX10_garden_21 (by decide) ?_
    refine wr_i (wr := [(g, .inr (3, [.int 6, .int 6, .int 1, .int 0, .long 0, .long 0, .int 0, .int 0, .int 0, .ref k0, .ref k1, .ref k2, .ref k3, .ref k4, .ref k5, .ref k6]))]) (va_runV (As := [.int (-2)]) (rest := []) ⟨hx, hb, hml, hown, hts⟩ (c_X10_refuseBad l D cy h g df im pn w pa 0 0 0 (-2) _) (cwV 1 hts gX10_garden_X10_refuseBad rfl rfl rfl (by decide +kernel) ⟨Nat.le_of_ble_eq_true rfl, Nat.le_of_ble_eq_true rfl⟩) (pV (ci := 10) (k := 0) hKA (hP.sub (ws' := [(h, .inr (10, [.ref g, .ref df, .ref im, .ref pn, .ref w, .ref pa, .int 0, .int 0, .int 0]))]) [0] rfl) (hD.sub (ws' := [(h, .inr (10, [.ref g, .ref df, .ref im, .ref pn, .ref w, .ref pa, .int 0, .int 0, .int 0]))]) [0] (by decide) rfl) rfl rfl) rfl rfl hl.1 rfl (lv_room (Nat.le_of_ble_eq_true rfl)) dX10_garden_23 ⟨Nat.le_of_ble_eq_true rfl, Nat.le_of_ble_eq_true rfl⟩) hP hD hS hA [0] [1] rfl rfl (by decide +kernel) (by decide +kernel) (fun r10 ur10 H locs hwr10 hP hD hS => ?_)
    have hP : va_P D vwCl [(g, .inr (3, [.int 6, .int 6, .int 1, .int 0, .long 0, .long 0, .int 0, .int 0, .int 0, .ref k0, .ref k1, .ref k2, .ref k3, .ref k4, .ref k5, .ref k6])), (h, .inr (10, [.ref g, .ref df, .ref im, .ref pn, .ref w, .ref pa, .int (0 + 1), .int 0, .int 0]))] H := hP
    have hD : va_D A [(g, .inr (3, [.int 6, .int 6, .int 1, .int 0, .long 0, .long 0, .int 0, .int 0, .int 0, .ref k0, .ref k1, .ref k2, .ref k3, .ref k4, .ref k5, .ref k6])), (h, .inr (10, [.ref g, .ref df, .ref im, .ref pn, .ref w, .ref pa, .int (0 + 1), .int 0, .int 0]))] := hD
    subst hwr10
    have hP9 := hP.sub (ws' := []) [] rfl
    have hD9 := hD.sub (ws' := []) [] (by decide) rfl
    exact W.iret (v := (-2)) hx hb hr (fun t ht hW => ⟨⟨(-2), (), rfl, (by simp [sp_garden, hnr1]), by rw [ht]; exact hP9, hD9⟩, hS.F ht⟩) hS.2.2 dX10_garden_26

set_option maxHeartbeats 4000000 in
set_option maxRecDepth 100000 in
theorem tp_set (l : Launch) (D : va_G) (cy : Nat → ClassId) (h g df im pn w pa : Nat) (k0 k1 k2 k3 k4 k5 k6 : Nat) (x y i : Int32) (sz : Nat)  : Met l yX10_set wsX10_set ({ frames := 2, cells := 0, slots := 0, locals := 44 }) (va_Pc [.ref h, .int x, .int y, .int i] (kPre D cy [(h, .inr (10, [.ref g, .ref df, .ref im, .ref pn, .ref w, .ref pa, .int 0, .int 0, .int 0])), (g, .inr (3, [.int 6, .int 6, .int 1, .int 0, .long 0, .long 0, .int 0, .int 0, .int 0, .ref k0, .ref k1, .ref k2, .ref k3, .ref k4, .ref k5, .ref k6]))] sz)) (va_Qi (fun (r : Int32) (_ : Unit) => r = sp_set x y i) (fun (u : Unit) t => va_P D vwCl ([]) t.heap ∧ va_D (va_A [(h, .inr (10, [.ref g, .ref df, .ref im, .ref pn, .ref w, .ref pa, .int 0, .int 0, .int 0])), (g, .inr (3, [.int 6, .int 6, .int 1, .int 0, .long 0, .long 0, .int 0, .int 0, .int 0, .ref k0, .ref k1, .ref k2, .ref k3, .ref k4, .ref k5, .ref k6]))] sz) ([])) (va_A [(h, .inr (10, [.ref g, .ref df, .ref im, .ref pn, .ref w, .ref pa, .int 0, .int 0, .int 0])), (g, .inr (3, [.int 6, .int 6, .int 1, .int 0, .long 0, .long 0, .int 0, .int 0, .int 0, .ref k0, .ref k1, .ref k2, .ref k3, .ref k4, .ref k5, .ref k6]))] sz)) 0 0 (va_A [(h, .inr (10, [.ref g, .ref df, .ref im, .ref pn, .ref w, .ref pa, .int 0, .int 0, .int 0])), (g, .inr (3, [.int 6, .int 6, .int 1, .int 0, .long 0, .long 0, .int 0, .int 0, .int 0, .ref k0, .ref k1, .ref k2, .ref k3, .ref k4, .ref k5, .ref k6]))] sz) := by
  refine Met.ofW (cc := cX10_set) (maxL := 4) (ret := (some .int)) (by decide) rfl ?_
  intro p e s m args below meth c s₁ B hml hv
  obtain ⟨rfl, hsz, hP, hKA, hD0⟩ := hv
  have hx := B.exec
  have hb := B.bytes
  have hr := B.returns
  have hts := atoms_spec (ws := wsX10_set) B.pre
  have hown : s.vm.findClass RX10 = some m.cls := findClass_of_methodNamed B.named
  have hlocks := B.notSynchronized
  subst hsz
  have hK := hKA.1
  have hD := hD0.self (sz := s.heap.size)
  generalize hAe : va_A [(h, .inr (10, [.ref g, .ref df, .ref im, .ref pn, .ref w, .ref pa, .int 0, .int 0, .int 0])), (g, .inr (3, [.int 6, .int 6, .int 1, .int 0, .long 0, .long 0, .int 0, .int 0, .int 0, .ref k0, .ref k1, .ref k2, .ref k3, .ref k4, .ref k5, .ref k6]))] s.heap.size = A at hD ⊢
  have hA : ∀ q : Nat, s.heap.size ≤ q → A q := fun q h => by rw [← hAe]; exact Or.inr h
  have hS : va_S A s.heap s.heap [] := va_S.rf
  have hP : va_P D vwCl [(h, .inr (10, [.ref g, .ref df, .ref im, .ref pn, .ref w, .ref pa, .int 0, .int 0, .int 0])), (g, .inr (3, [.int 6, .int 6, .int 1, .int 0, .long 0, .long 0, .int 0, .int 0, .int 0, .ref k0, .ref k1, .ref k2, .ref k3, .ref k4, .ref k5, .ref k6]))] s.heap := hP
  have hl := lv_entry ([.ref h, .int x, .int y, .int i]) (n := 4) (Nat.le_of_ble_eq_true rfl)
  rw [lg_entry_eq]
  generalize (lg_sl ([.ref h, .int x, .int y, .int i]) ++ List.replicate (4 - (lg_sl ([.ref h, .int x, .int y, .int i])).length) Slot.unset).toArray = ls at hl ⊢
  have hl : lv_has ls 4 [(0, .ref h), (1, .int x), (2, .int y), (3, .int i)] := hl
  have z0_ := hts (.fieldLink RX10 10 "HeardSeen" "now" "LHeardSeen$Garden;") (by decide +kernel)
  have zi10_ : ∀ w ∈ u_ws RX10 TX10 9, w ∈ wsX10_set := by decide +kernel
  refine lv_iload_n hx hb dX10_set_0 rfl (lv_at hl 1 rfl) ?_
  refine lv_iconst (v := 0) hx hb dX10_set_1 (by decide) ?_
  refine lv_iconst (v := 1) hx hb dX10_set_2 (by decide) ?_
  refine rd_i (va_runS (As := [.int x, .int 0, .int 1]) (rest := []) ⟨hx, hb, hml, hown, hts⟩ (c_X10_isWithin l D cy x 0 1 _) (va_cwS 3 hts gX10_set_X10_isWithin rfl rfl rfl (by decide +kernel) ⟨Nat.le_of_ble_eq_true rfl, Nat.le_of_ble_eq_true rfl⟩) (pS hKA pE (dE (A := A))) rfl rfl hl.1 rfl (lv_room (Nat.le_of_ble_eq_true rfl)) dX10_set_3 ⟨Nat.le_of_ble_eq_true rfl, Nat.le_of_ble_eq_true rfl⟩) hP hS hA (fun r1 H locs hwr1 hP hS => ?_)
  rcases hwr1 with ⟨rfl, har1, hbr1⟩ | ⟨rfl, hnr1⟩
  · skip
    refine lv_if_eq (tgt := 20) hx hb dX10_set_6 (by decide) (fun c2 => absurd c2 (by decide)) (fun c2 => ?_)
    refine lv_aload_n hx hb dX10_set_9 rfl (lv_at hl 0 rfl) ?_
    refine va_get (D := D) (ci := 10) (v := .ref g) (C := RX10) (T := TX10) (N := 9) hx hb hts zi10_ hown hK hP 0 rfl rfl 0 (by decide) z0_ (fun _ h9 => h9) rfl dX10_set_10 ?_
    refine lv_iload_n hx hb dX10_set_13 rfl (lv_at hl 2 rfl) ?_
    refine rd_i (va_runV (As := [.int y]) (rest := []) ⟨hx, hb, hml, hown, hts⟩ (c_X3_isSquare l D cy g 6 6 1 0 0 0 0 0 0 k0 k1 k2 k3 k4 k5 k6 y _) (cwV 1 hts gX10_set_X3_isSquare rfl rfl rfl (by decide +kernel) ⟨Nat.le_of_ble_eq_true rfl, Nat.le_of_ble_eq_true rfl⟩) (pV (ci := 3) (k := 0) hKA (hP.sub (ws' := [(g, .inr (3, [.int 6, .int 6, .int 1, .int 0, .long 0, .long 0, .int 0, .int 0, .int 0, .ref k0, .ref k1, .ref k2, .ref k3, .ref k4, .ref k5, .ref k6]))]) [1] rfl) (hD.sub (ws' := [(g, .inr (3, [.int 6, .int 6, .int 1, .int 0, .long 0, .long 0, .int 0, .int 0, .int 0, .ref k0, .ref k1, .ref k2, .ref k3, .ref k4, .ref k5, .ref k6]))]) [1] (by decide) rfl) rfl rfl) rfl rfl hl.1 rfl (lv_room (Nat.le_of_ble_eq_true rfl)) dX10_set_14 ⟨Nat.le_of_ble_eq_true rfl, Nat.le_of_ble_eq_true rfl⟩) hP hS hA (fun r3 H locs hwr3 hP hS => ?_)
    rcases hwr3 with ⟨rfl, har3, hbr3⟩ | ⟨rfl, hnr3⟩
    · skip
      have hbr3 : y < 36 := hbr3
      refine lv_if_ne (tgt := 27) hx hb dX10_set_17 (by decide) (fun c4 => ?_) (fun c4 => absurd c4 (by decide))
      refine lv_aload_n hx hb dX10_set_27 rfl (lv_at hl 0 rfl) ?_
      refine va_get (D := D) (ci := 10) (v := .ref g) (C := RX10) (T := TX10) (N := 9) hx hb hts zi10_ hown hK hP 0 rfl rfl 0 (by decide) z0_ (fun _ h9 => h9) rfl dX10_set_28 ?_
      refine lv_iload_n hx hb dX10_set_31 rfl (lv_at hl 1 rfl) ?_
      refine lv_iload_n hx hb dX10_set_32 rfl (lv_at hl 2 rfl) ?_
      refine rd_i (va_runV (As := [.int x, .int y]) (rest := []) ⟨hx, hb, hml, hown, hts⟩ (c_X3_has l D cy g 6 6 1 0 0 0 0 0 0 k0 k1 k2 k3 k4 k5 k6 x y _) (cwV 2 hts gX10_set_X3_has rfl rfl rfl (by decide +kernel) ⟨Nat.le_of_ble_eq_true rfl, Nat.le_of_ble_eq_true rfl⟩) (pV (ci := 3) (k := 0) hKA (hP.sub (ws' := [(g, .inr (3, [.int 6, .int 6, .int 1, .int 0, .long 0, .long 0, .int 0, .int 0, .int 0, .ref k0, .ref k1, .ref k2, .ref k3, .ref k4, .ref k5, .ref k6]))]) [1] rfl) (hD.sub (ws' := [(g, .inr (3, [.int 6, .int 6, .int 1, .int 0, .long 0, .long 0, .int 0, .int 0, .int 0, .ref k0, .ref k1, .ref k2, .ref k3, .ref k4, .ref k5, .ref k6]))]) [1] (by decide) rfl) rfl rfl) rfl rfl hl.1 rfl (lv_room (Nat.le_of_ble_eq_true rfl)) dX10_set_33 ⟨Nat.le_of_ble_eq_true rfl, Nat.le_of_ble_eq_true rfl⟩) hP hS hA (fun r5 H locs hwr5 hP hS => ?_)
      rcases hwr5 with ⟨rfl, hhr5⟩ | ⟨rfl, hhr5⟩
      · exact absurd hhr5 (by rw [ite_self]; exact z_sh0 _)
      · skip
        refine lv_iload_n hx hb dX10_set_36 rfl (lv_at hl 3 rfl) ?_
        refine lv_icmp_ne (tgt := 47) hx hb dX10_set_37 (by decide) (fun c6 => ?_) (fun c6 => ?_)
        · skip
          refine lv_iload_n hx hb dX10_set_47 rfl (lv_at hl 1 rfl) ?_
          refine lv_if_ne (tgt := 73) hx hb dX10_set_48 (by decide) (fun c7 => ?_) (fun c7 => ?_)
          · skip
            refine lv_aload_n hx hb dX10_set_73 rfl (lv_at hl 0 rfl) ?_
            refine va_get (D := D) (ci := 10) (v := .ref g) (C := RX10) (T := TX10) (N := 9) hx hb hts zi10_ hown hK hP 0 rfl rfl 0 (by decide) z0_ (fun _ h9 => h9) rfl dX10_set_74 ?_
            refine lv_iload_n hx hb dX10_set_77 rfl (lv_at hl 1 rfl) ?_
            refine lv_iload_n hx hb dX10_set_78 rfl (lv_at hl 2 rfl) ?_
            refine wr_v (wr := [(h, .inr (10, [.ref g, .ref df, .ref im, .ref pn, .ref w, .ref pa, .int 0, .int 0, .int 0]))]) (va_runV (As := [.int x, .int y]) (rest := []) ⟨hx, hb, hml, hown, hts⟩ (c_X3_turn l D cy g 6 6 1 0 0 0 0 0 0 k0 k1 k2 k3 k4 k5 k6 x y _) (cwV 2 hts gX10_set_X3_turn rfl rfl rfl (by decide +kernel) ⟨Nat.le_of_ble_eq_true rfl, Nat.le_of_ble_eq_true rfl⟩) (pV (ci := 3) (k := 0) hKA (hP.sub (ws' := [(g, .inr (3, [.int 6, .int 6, .int 1, .int 0, .long 0, .long 0, .int 0, .int 0, .int 0, .ref k0, .ref k1, .ref k2, .ref k3, .ref k4, .ref k5, .ref k6]))]) [1] rfl) (hD.sub (ws' := [(g, .inr (3, [.int 6, .int 6, .int 1, .int 0, .long 0, .long 0, .int 0, .int 0, .int 0, .ref k0, .ref k1, .ref k2, .ref k3, .ref k4, .ref k5, .ref k6]))]) [1] (by decide) rfl) rfl rfl) rfl rfl hl.1 rfl (lv_room (Nat.le_of_ble_eq_true rfl)) dX10_set_79 ⟨Nat.le_of_ble_eq_true rfl, Nat.le_of_ble_eq_true rfl⟩) hP hD hS hA [1] [0] rfl rfl (by decide +kernel) (by decide +kernel) (fun ur8 H locs hwr8 hP hD hS => ?_)
            obtain ⟨he9, fo10⟩ := ur8
            obtain ⟨ehe9, efo10⟩ := hwr8
            dsimp only at ehe9 efo10
            have hP : va_P D vwCl [(h, .inr (10, [.ref g, .ref df, .ref im, .ref pn, .ref w, .ref pa, .int 0, .int 0, .int 0])), (g, .inr (3, [.int 6, .int 6, .int 1, .int 0, .long he9, .long fo10, .int 0, .int 0, .int 0, .ref k0, .ref k1, .ref k2, .ref k3, .ref k4, .ref k5, .ref k6]))] H := hP
            have hD : va_D A [(h, .inr (10, [.ref g, .ref df, .ref im, .ref pn, .ref w, .ref pa, .int 0, .int 0, .int 0])), (g, .inr (3, [.int 6, .int 6, .int 1, .int 0, .long he9, .long fo10, .int 0, .int 0, .int 0, .ref k0, .ref k1, .ref k2, .ref k3, .ref k4, .ref k5, .ref k6]))] := hD
            refine lv_iconst (v := 1) hx hb dX10_set_82 (by decide) ?_
            have hP9 := hP.sub (ws' := []) [] rfl
            have hD9 := hD.sub (ws' := []) [] (by decide) rfl
            exact W.iret (v := 1) hx hb hr (fun t ht hW => ⟨⟨1, (), rfl, (by first | (simp [sp_set, har1, hbr1, har3, hbr3, hhr5, show i = 0 from c6.symm]; done) | (simp [sp_set, har1, hbr1, har3, hbr3, hhr5, show ¬ i = 0 from fun q => c6 q.symm]; done)), by rw [ht]; exact hP9, hD9⟩, hS.F ht⟩) hS.2.2 dX10_set_83
          · skip
            refine lv_iload_n hx hb dX10_set_51 rfl (lv_at hl 3 rfl) ?_
            refine lv_if_eq (tgt := 73) hx hb dX10_set_52 (by decide) (fun c11 => ?_) (fun c11 => ?_)
            · skip
              refine lv_aload_n hx hb dX10_set_73 rfl (lv_at hl 0 rfl) ?_
              refine va_get (D := D) (ci := 10) (v := .ref g) (C := RX10) (T := TX10) (N := 9) hx hb hts zi10_ hown hK hP 0 rfl rfl 0 (by decide) z0_ (fun _ h9 => h9) rfl dX10_set_74 ?_
              refine lv_iload_n hx hb dX10_set_77 rfl (lv_at hl 1 rfl) ?_
              refine lv_iload_n hx hb dX10_set_78 rfl (lv_at hl 2 rfl) ?_
              refine wr_v (wr := [(h, .inr (10, [.ref g, .ref df, .ref im, .ref pn, .ref w, .ref pa, .int 0, .int 0, .int 0]))]) (va_runV (As := [.int x, .int y]) (rest := []) ⟨hx, hb, hml, hown, hts⟩ (c_X3_turn l D cy g 6 6 1 0 0 0 0 0 0 k0 k1 k2 k3 k4 k5 k6 x y _) (cwV 2 hts gX10_set_X3_turn rfl rfl rfl (by decide +kernel) ⟨Nat.le_of_ble_eq_true rfl, Nat.le_of_ble_eq_true rfl⟩) (pV (ci := 3) (k := 0) hKA (hP.sub (ws' := [(g, .inr (3, [.int 6, .int 6, .int 1, .int 0, .long 0, .long 0, .int 0, .int 0, .int 0, .ref k0, .ref k1, .ref k2, .ref k3, .ref k4, .ref k5, .ref k6]))]) [1] rfl) (hD.sub (ws' := [(g, .inr (3, [.int 6, .int 6, .int 1, .int 0, .long 0, .long 0, .int 0, .int 0, .int 0, .ref k0, .ref k1, .ref k2, .ref k3, .ref k4, .ref k5, .ref k6]))]) [1] (by decide) rfl) rfl rfl) rfl rfl hl.1 rfl (lv_room (Nat.le_of_ble_eq_true rfl)) dX10_set_79 ⟨Nat.le_of_ble_eq_true rfl, Nat.le_of_ble_eq_true rfl⟩) hP hD hS hA [1] [0] rfl rfl (by decide +kernel) (by decide +kernel) (fun ur12 H locs hwr12 hP hD hS => ?_)
              obtain ⟨he13, fo14⟩ := ur12
              obtain ⟨ehe13, efo14⟩ := hwr12
              dsimp only at ehe13 efo14
              have hP : va_P D vwCl [(h, .inr (10, [.ref g, .ref df, .ref im, .ref pn, .ref w, .ref pa, .int 0, .int 0, .int 0])), (g, .inr (3, [.int 6, .int 6, .int 1, .int 0, .long he13, .long fo14, .int 0, .int 0, .int 0, .ref k0, .ref k1, .ref k2, .ref k3, .ref k4, .ref k5, .ref k6]))] H := hP
              have hD : va_D A [(h, .inr (10, [.ref g, .ref df, .ref im, .ref pn, .ref w, .ref pa, .int 0, .int 0, .int 0])), (g, .inr (3, [.int 6, .int 6, .int 1, .int 0, .long he13, .long fo14, .int 0, .int 0, .int 0, .ref k0, .ref k1, .ref k2, .ref k3, .ref k4, .ref k5, .ref k6]))] := hD
              refine lv_iconst (v := 1) hx hb dX10_set_82 (by decide) ?_
              have hP9 := hP.sub (ws' := []) [] rfl
              have hD9 := hD.sub (ws' := []) [] (by decide) rfl
              exact W.iret (v := 1) hx hb hr (fun t ht hW => ⟨⟨1, (), rfl, (by first | (simp [sp_set, har1, hbr1, har3, hbr3, hhr5, show i = 0 from c6.symm]; done) | (simp [sp_set, har1, hbr1, har3, hbr3, hhr5, show ¬ i = 0 from fun q => c6 q.symm]; done)), by rw [ht]; exact hP9, hD9⟩, hS.F ht⟩) hS.2.2 dX10_set_83
            · skip
              refine lv_aload_n hx hb dX10_set_55 rfl (lv_at hl 0 rfl) ?_
              refine va_get (D := D) (ci := 10) (v := .ref g) (C := RX10) (T := TX10) (N := 9) hx hb hts zi10_ hown hK hP 0 rfl rfl 0 (by decide) z0_ (fun _ h9 => h9) rfl dX10_set_56 ?_
              refine lv_iload_n hx hb dX10_set_59 rfl (lv_at hl 2 rfl) ?_
              refine rd_i (va_runV (As := [.int y]) (rest := []) ⟨hx, hb, hml, hown, hts⟩ (c0_isTaken l D cy g 6 6 1 0 0 0 k0 k1 k2 k3 k4 k5 k6 y _) (cwV 1 hts gX10_set_X3_isTaken rfl rfl rfl (by decide +kernel) ⟨Nat.le_of_ble_eq_true rfl, Nat.le_of_ble_eq_true rfl⟩) (pV (ci := 3) (k := 0) hKA (hP.sub (ws' := [(g, .inr (3, [.int 6, .int 6, .int 1, .int 0, .long 0, .long 0, .int 0, .int 0, .int 0, .ref k0, .ref k1, .ref k2, .ref k3, .ref k4, .ref k5, .ref k6]))]) [1] rfl) (hD.sub (ws' := [(g, .inr (3, [.int 6, .int 6, .int 1, .int 0, .long 0, .long 0, .int 0, .int 0, .int 0, .ref k0, .ref k1, .ref k2, .ref k3, .ref k4, .ref k5, .ref k6]))]) [1] (by decide) rfl) rfl rfl) rfl rfl hl.1 rfl (lv_room (Nat.le_of_ble_eq_true rfl)) dX10_set_60 ⟨Nat.le_of_ble_eq_true rfl, Nat.le_of_ble_eq_true rfl⟩) hP hS hA (fun r15 H locs hwr15 hP hS => ?_)
              rcases hwr15 with rfl
              · skip
                refine lv_if_eq (tgt := 73) hx hb dX10_set_63 (by decide) (fun c16 => ?_) (fun c16 => absurd c16 (by decide))
                refine lv_aload_n hx hb dX10_set_73 rfl (lv_at hl 0 rfl) ?_
                refine va_get (D := D) (ci := 10) (v := .ref g) (C := RX10) (T := TX10) (N := 9) hx hb hts zi10_ hown hK hP 0 rfl rfl 0 (by decide) z0_ (fun _ h9 => h9) rfl dX10_set_74 ?_
                refine lv_iload_n hx hb dX10_set_77 rfl (lv_at hl 1 rfl) ?_
                refine lv_iload_n hx hb dX10_set_78 rfl (lv_at hl 2 rfl) ?_
                refine wr_v (wr := [(h, .inr (10, [.ref g, .ref df, .ref im, .ref pn, .ref w, .ref pa, .int 0, .int 0, .int 0]))]) (va_runV (As := [.int x, .int y]) (rest := []) ⟨hx, hb, hml, hown, hts⟩ (c_X3_turn l D cy g 6 6 1 0 0 0 0 0 0 k0 k1 k2 k3 k4 k5 k6 x y _) (cwV 2 hts gX10_set_X3_turn rfl rfl rfl (by decide +kernel) ⟨Nat.le_of_ble_eq_true rfl, Nat.le_of_ble_eq_true rfl⟩) (pV (ci := 3) (k := 0) hKA (hP.sub (ws' := [(g, .inr (3, [.int 6, .int 6, .int 1, .int 0, .long 0, .long 0, .int 0, .int 0, .int 0, .ref k0, .ref k1, .ref k2, .ref k3, .ref k4, .ref k5, .ref k6]))]) [1] rfl) (hD.sub (ws' := [(g, .inr (3, [.int 6, .int 6, .int 1, .int 0, .long 0, .long 0, .int 0, .int 0, .int 0, .ref k0, .ref k1, .ref k2, .ref k3, .ref k4, .ref k5, .ref k6]))]) [1] (by decide) rfl) rfl rfl) rfl rfl hl.1 rfl (lv_room (Nat.le_of_ble_eq_true rfl)) dX10_set_79 ⟨Nat.le_of_ble_eq_true rfl, Nat.le_of_ble_eq_true rfl⟩) hP hD hS hA [1] [0] rfl rfl (by decide +kernel) (by decide +kernel) (fun ur17 H locs hwr17 hP hD hS => ?_)
                obtain ⟨he18, fo19⟩ := ur17
                obtain ⟨ehe18, efo19⟩ := hwr17
                dsimp only at ehe18 efo19
                have hP : va_P D vwCl [(h, .inr (10, [.ref g, .ref df, .ref im, .ref pn, .ref w, .ref pa, .int 0, .int 0, .int 0])), (g, .inr (3, [.int 6, .int 6, .int 1, .int 0, .long he18, .long fo19, .int 0, .int 0, .int 0, .ref k0, .ref k1, .ref k2, .ref k3, .ref k4, .ref k5, .ref k6]))] H := hP
                have hD : va_D A [(h, .inr (10, [.ref g, .ref df, .ref im, .ref pn, .ref w, .ref pa, .int 0, .int 0, .int 0])), (g, .inr (3, [.int 6, .int 6, .int 1, .int 0, .long he18, .long fo19, .int 0, .int 0, .int 0, .ref k0, .ref k1, .ref k2, .ref k3, .ref k4, .ref k5, .ref k6]))] := hD
                refine lv_iconst (v := 1) hx hb dX10_set_82 (by decide) ?_
                have hP9 := hP.sub (ws' := []) [] rfl
                have hD9 := hD.sub (ws' := []) [] (by decide) rfl
                exact W.iret (v := 1) hx hb hr (fun t ht hW => ⟨⟨1, (), rfl, (by first | (simp [sp_set, har1, hbr1, har3, hbr3, hhr5, show i = 0 from c6.symm]; done) | (simp [sp_set, har1, hbr1, har3, hbr3, hhr5, show ¬ i = 0 from fun q => c6 q.symm]; done)), by rw [ht]; exact hP9, hD9⟩, hS.F ht⟩) hS.2.2 dX10_set_83
        · skip
          refine lv_aload_n hx hb dX10_set_40 rfl (lv_at hl 0 rfl) ?_
          refine lv_bipush (v := (-3)) hx hb dX10_set_41 (by decide) ?_
          refine wr_i (wr := [(g, .inr (3, [.int 6, .int 6, .int 1, .int 0, .long 0, .long 0, .int 0, .int 0, .int 0, .ref k0, .ref k1, .ref k2, .ref k3, .ref k4, .ref k5, .ref k6]))]) (va_runV (As := [.int (-3)]) (rest := []) ⟨hx, hb, hml, hown, hts⟩ (c_X10_refuseNo l D cy h g df im pn w pa 0 0 0 (-3) _) (cwV 1 hts gX10_set_X10_refuseNo rfl rfl rfl (by decide +kernel) ⟨Nat.le_of_ble_eq_true rfl, Nat.le_of_ble_eq_true rfl⟩) (pV (ci := 10) (k := 0) hKA (hP.sub (ws' := [(h, .inr (10, [.ref g, .ref df, .ref im, .ref pn, .ref w, .ref pa, .int 0, .int 0, .int 0]))]) [0] rfl) (hD.sub (ws' := [(h, .inr (10, [.ref g, .ref df, .ref im, .ref pn, .ref w, .ref pa, .int 0, .int 0, .int 0]))]) [0] (by decide) rfl) rfl rfl) rfl rfl hl.1 rfl (lv_room (Nat.le_of_ble_eq_true rfl)) dX10_set_43 ⟨Nat.le_of_ble_eq_true rfl, Nat.le_of_ble_eq_true rfl⟩) hP hD hS hA [0] [1] rfl rfl (by decide +kernel) (by decide +kernel) (fun r20 ur20 H locs hwr20 hP hD hS => ?_)
          have hP : va_P D vwCl [(g, .inr (3, [.int 6, .int 6, .int 1, .int 0, .long 0, .long 0, .int 0, .int 0, .int 0, .ref k0, .ref k1, .ref k2, .ref k3, .ref k4, .ref k5, .ref k6])), (h, .inr (10, [.ref g, .ref df, .ref im, .ref pn, .ref w, .ref pa, .int 0, .int (0 + 1), .int 0]))] H := hP
          have hD : va_D A [(g, .inr (3, [.int 6, .int 6, .int 1, .int 0, .long 0, .long 0, .int 0, .int 0, .int 0, .ref k0, .ref k1, .ref k2, .ref k3, .ref k4, .ref k5, .ref k6])), (h, .inr (10, [.ref g, .ref df, .ref im, .ref pn, .ref w, .ref pa, .int 0, .int (0 + 1), .int 0]))] := hD
          subst hwr20
          have hP9 := hP.sub (ws' := []) [] rfl
          have hD9 := hD.sub (ws' := []) [] (by decide) rfl
          exact W.iret (v := (-3)) hx hb hr (fun t ht hW => ⟨⟨(-3), (), rfl, (by first | (simp [sp_set, har1, hbr1, har3, hbr3, hhr5, show i = 0 from c6.symm]; done) | (simp [sp_set, har1, hbr1, har3, hbr3, hhr5, show ¬ i = 0 from fun q => c6 q.symm]; done)), by rw [ht]; exact hP9, hD9⟩, hS.F ht⟩) hS.2.2 dX10_set_46
    · skip
      have hnr3 : ¬ (0 ≤ y ∧ y < 36) := hnr3
      refine lv_if_ne (tgt := 27) hx hb dX10_set_17 (by decide) (fun c21 => absurd c21 (by decide)) (fun c21 => ?_)
      refine lv_aload_n hx hb dX10_set_20 rfl (lv_at hl 0 rfl) ?_
      refine lv_bipush (v := (-2)) hx hb dX10_set_21 (by decide) ?_
      refine wr_i (wr := [(g, .inr (3, [.int 6, .int 6, .int 1, .int 0, .long 0, .long 0, .int 0, .int 0, .int 0, .ref k0, .ref k1, .ref k2, .ref k3, .ref k4, .ref k5, .ref k6]))]) (va_runV (As := [.int (-2)]) (rest := []) ⟨hx, hb, hml, hown, hts⟩ (c_X10_refuseBad l D cy h g df im pn w pa 0 0 0 (-2) _) (cwV 1 hts gX10_set_X10_refuseBad rfl rfl rfl (by decide +kernel) ⟨Nat.le_of_ble_eq_true rfl, Nat.le_of_ble_eq_true rfl⟩) (pV (ci := 10) (k := 0) hKA (hP.sub (ws' := [(h, .inr (10, [.ref g, .ref df, .ref im, .ref pn, .ref w, .ref pa, .int 0, .int 0, .int 0]))]) [0] rfl) (hD.sub (ws' := [(h, .inr (10, [.ref g, .ref df, .ref im, .ref pn, .ref w, .ref pa, .int 0, .int 0, .int 0]))]) [0] (by decide) rfl) rfl rfl) rfl rfl hl.1 rfl (lv_room (Nat.le_of_ble_eq_true rfl)) dX10_set_23 ⟨Nat.le_of_ble_eq_true rfl, Nat.le_of_ble_eq_true rfl⟩) hP hD hS hA [0] [1] rfl rfl (by decide +kernel) (by decide +kernel) (fun r22 ur22 H locs hwr22 hP hD hS => ?_)
      have hP : va_P D vwCl [(g, .inr (3, [.int 6, .int 6, .int 1, .int 0, .long 0, .long 0, .int 0, .int 0, .int 0, .ref k0, .ref k1, .ref k2, .ref k3, .ref k4, .ref k5, .ref k6])), (h, .inr (10, [.ref g, .ref df, .ref im, .ref pn, .ref w, .ref pa, .int (0 + 1), .int 0, .int 0]))] H := hP
      have hD : va_D A [(g, .inr (3, [.int 6, .int 6, .int 1, .int 0, .long 0, .long 0, .int 0, .int 0, .int 0, .ref k0, .ref k1, .ref k2, .ref k3, .ref k4, .ref k5, .ref k6])), (h, .inr (10, [.ref g, .ref df, .ref im, .ref pn, .ref w, .ref pa, .int (0 + 1), .int 0, .int 0]))] := hD
      subst hwr22
      have hP9 := hP.sub (ws' := []) [] rfl
      have hD9 := hD.sub (ws' := []) [] (by decide) rfl
      exact W.iret (v := (-2)) hx hb hr (fun t ht hW => ⟨⟨(-2), (), rfl, (by simp [sp_set, har1, hbr1, hnr3]), by rw [ht]; exact hP9, hD9⟩, hS.F ht⟩) hS.2.2 dX10_set_26
  · skip
    refine lv_if_eq (tgt := 20) hx hb dX10_set_6 (by decide) (fun c23 => ?_) (fun c23 => absurd c23 (by decide))
    refine lv_aload_n hx hb dX10_set_20 rfl (lv_at hl 0 rfl) ?_
    refine lv_bipush (v := (-2)) hx hb dX10_set_21 (by decide) ?_
    refine wr_i (wr := [(g, .inr (3, [.int 6, .int 6, .int 1, .int 0, .long 0, .long 0, .int 0, .int 0, .int 0, .ref k0, .ref k1, .ref k2, .ref k3, .ref k4, .ref k5, .ref k6]))]) (va_runV (As := [.int (-2)]) (rest := []) ⟨hx, hb, hml, hown, hts⟩ (c_X10_refuseBad l D cy h g df im pn w pa 0 0 0 (-2) _) (cwV 1 hts gX10_set_X10_refuseBad rfl rfl rfl (by decide +kernel) ⟨Nat.le_of_ble_eq_true rfl, Nat.le_of_ble_eq_true rfl⟩) (pV (ci := 10) (k := 0) hKA (hP.sub (ws' := [(h, .inr (10, [.ref g, .ref df, .ref im, .ref pn, .ref w, .ref pa, .int 0, .int 0, .int 0]))]) [0] rfl) (hD.sub (ws' := [(h, .inr (10, [.ref g, .ref df, .ref im, .ref pn, .ref w, .ref pa, .int 0, .int 0, .int 0]))]) [0] (by decide) rfl) rfl rfl) rfl rfl hl.1 rfl (lv_room (Nat.le_of_ble_eq_true rfl)) dX10_set_23 ⟨Nat.le_of_ble_eq_true rfl, Nat.le_of_ble_eq_true rfl⟩) hP hD hS hA [0] [1] rfl rfl (by decide +kernel) (by decide +kernel) (fun r24 ur24 H locs hwr24 hP hD hS => ?_)
    have hP : va_P D vwCl [(g, .inr (3, [.int 6, .int 6, .int 1, .int 0, .long 0, .long 0, .int 0, .int 0, .int 0, .ref k0, .ref k1, .ref k2, .ref k3, .ref k4, .ref k5, .ref k6])), (h, .inr (10, [.ref g, .ref df, .ref im, .ref pn, .ref w, .ref pa, .int (0 + 1), .int 0, .int 0]))] H := hP
    have hD : va_D A [(g, .inr (3, [.int 6, .int 6, .int 1, .int 0, .long 0, .long 0, .int 0, .int 0, .int 0, .ref k0, .ref k1, .ref k2, .ref k3, .ref k4, .ref k5, .ref k6])), (h, .inr (10, [.ref g, .ref df, .ref im, .ref pn, .ref w, .ref pa, .int (0 + 1), .int 0, .int 0]))] := hD
    subst hwr24
    have hP9 := hP.sub (ws' := []) [] rfl
    have hD9 := hD.sub (ws' := []) [] (by decide) rfl
    exact W.iret (v := (-2)) hx hb hr (fun t ht hW => ⟨⟨(-2), (), rfl, (by simp [sp_set, hnr1]), by rw [ht]; exact hP9, hD9⟩, hS.F ht⟩) hS.2.2 dX10_set_26

set_option maxHeartbeats 4000000 in
set_option maxRecDepth 100000 in
theorem tp_put (l : Launch) (D : va_G) (cy : Nat → ClassId) (h g df im pn w pa : Nat) (k0 k1 k2 k3 k4 k5 k6 : Nat) (x y : Int32) (sz : Nat)  : Met l yX10_put wsX10_put ({ frames := 1, cells := 0, slots := 0, locals := 22 }) (va_Pc [.ref h, .int x, .int y] (kPre D cy [(h, .inr (10, [.ref g, .ref df, .ref im, .ref pn, .ref w, .ref pa, .int 0, .int 0, .int 0])), (g, .inr (3, [.int 6, .int 6, .int 1, .int 0, .long 0, .long 0, .int 0, .int 0, .int 0, .ref k0, .ref k1, .ref k2, .ref k3, .ref k4, .ref k5, .ref k6]))] sz)) (va_Qi (fun (r : Int32) (_ : Unit) => r = sp_put x y) (fun (u : Unit) t => va_P D vwCl ([]) t.heap ∧ va_D (va_A [(h, .inr (10, [.ref g, .ref df, .ref im, .ref pn, .ref w, .ref pa, .int 0, .int 0, .int 0])), (g, .inr (3, [.int 6, .int 6, .int 1, .int 0, .long 0, .long 0, .int 0, .int 0, .int 0, .ref k0, .ref k1, .ref k2, .ref k3, .ref k4, .ref k5, .ref k6]))] sz) ([])) (va_A [(h, .inr (10, [.ref g, .ref df, .ref im, .ref pn, .ref w, .ref pa, .int 0, .int 0, .int 0])), (g, .inr (3, [.int 6, .int 6, .int 1, .int 0, .long 0, .long 0, .int 0, .int 0, .int 0, .ref k0, .ref k1, .ref k2, .ref k3, .ref k4, .ref k5, .ref k6]))] sz)) 0 0 (va_A [(h, .inr (10, [.ref g, .ref df, .ref im, .ref pn, .ref w, .ref pa, .int 0, .int 0, .int 0])), (g, .inr (3, [.int 6, .int 6, .int 1, .int 0, .long 0, .long 0, .int 0, .int 0, .int 0, .ref k0, .ref k1, .ref k2, .ref k3, .ref k4, .ref k5, .ref k6]))] sz) := by
  refine Met.ofW (cc := cX10_put) (maxL := 4) (ret := (some .int)) (by decide) rfl ?_
  intro p e s m args below meth c s₁ B hml hv
  obtain ⟨rfl, hsz, hP, hKA, hD0⟩ := hv
  have hx := B.exec
  have hb := B.bytes
  have hr := B.returns
  have hts := atoms_spec (ws := wsX10_put) B.pre
  have hown : s.vm.findClass RX10 = some m.cls := findClass_of_methodNamed B.named
  have hlocks := B.notSynchronized
  subst hsz
  have hK := hKA.1
  have hD := hD0.self (sz := s.heap.size)
  generalize hAe : va_A [(h, .inr (10, [.ref g, .ref df, .ref im, .ref pn, .ref w, .ref pa, .int 0, .int 0, .int 0])), (g, .inr (3, [.int 6, .int 6, .int 1, .int 0, .long 0, .long 0, .int 0, .int 0, .int 0, .ref k0, .ref k1, .ref k2, .ref k3, .ref k4, .ref k5, .ref k6]))] s.heap.size = A at hD ⊢
  have hA : ∀ q : Nat, s.heap.size ≤ q → A q := fun q h => by rw [← hAe]; exact Or.inr h
  have hS : va_S A s.heap s.heap [] := va_S.rf
  have hP : va_P D vwCl [(h, .inr (10, [.ref g, .ref df, .ref im, .ref pn, .ref w, .ref pa, .int 0, .int 0, .int 0])), (g, .inr (3, [.int 6, .int 6, .int 1, .int 0, .long 0, .long 0, .int 0, .int 0, .int 0, .ref k0, .ref k1, .ref k2, .ref k3, .ref k4, .ref k5, .ref k6]))] s.heap := hP
  have hl := lv_entry ([.ref h, .int x, .int y]) (n := 4) (Nat.le_of_ble_eq_true rfl)
  rw [lg_entry_eq]
  generalize (lg_sl ([.ref h, .int x, .int y]) ++ List.replicate (4 - (lg_sl ([.ref h, .int x, .int y])).length) Slot.unset).toArray = ls at hl ⊢
  have hl : lv_has ls 4 [(0, .ref h), (1, .int x), (2, .int y)] := hl
  have z0_ := hts (.fieldLink RX10 10 "HeardSeen" "now" "LHeardSeen$Garden;") (by decide +kernel)
  have zi10_ : ∀ w ∈ u_ws RX10 TX10 9, w ∈ wsX10_put := by decide +kernel
  have z2_ := hts (.fieldLink RX10 85 "HeardSeen$Garden" "wind" "I") (by decide +kernel)
  have zi3_ : ∀ w ∈ u_ws RX3 TX3 16, w ∈ wsX10_put := by decide +kernel
  have z4_ := hts (.fieldLink RX10 81 "HeardSeen$Garden" "drown" "I") (by decide +kernel)
  refine lv_iload_n hx hb dX10_put_0 rfl (lv_at hl 1 rfl) ?_
  refine lv_if_ne (tgt := 31) hx hb dX10_put_1 (by decide) (fun c1 => ?_) (fun c1 => ?_)
  · skip
    refine lv_iload_n hx hb dX10_put_31 rfl (lv_at hl 1 rfl) ?_
    refine lv_iconst (v := 1) hx hb dX10_put_32 (by decide) ?_
    refine lv_icmp_ne (tgt := 63) hx hb dX10_put_33 (by decide) (fun c2 => ?_) (fun c2 => ?_)
    · skip
      refine lv_aload_n hx hb dX10_put_63 rfl (lv_at hl 0 rfl) ?_
      refine lv_bipush (v := (-10)) hx hb dX10_put_64 (by decide) ?_
      refine wr_i (wr := [(g, .inr (3, [.int 6, .int 6, .int 1, .int 0, .long 0, .long 0, .int 0, .int 0, .int 0, .ref k0, .ref k1, .ref k2, .ref k3, .ref k4, .ref k5, .ref k6]))]) (va_runV (As := [.int (-10)]) (rest := []) ⟨hx, hb, hml, hown, hts⟩ (c_X10_refuseBad l D cy h g df im pn w pa 0 0 0 (-10) _) (cwV 1 hts gX10_put_X10_refuseBad rfl rfl rfl (by decide +kernel) ⟨Nat.le_of_ble_eq_true rfl, Nat.le_of_ble_eq_true rfl⟩) (pV (ci := 10) (k := 0) hKA (hP.sub (ws' := [(h, .inr (10, [.ref g, .ref df, .ref im, .ref pn, .ref w, .ref pa, .int 0, .int 0, .int 0]))]) [0] rfl) (hD.sub (ws' := [(h, .inr (10, [.ref g, .ref df, .ref im, .ref pn, .ref w, .ref pa, .int 0, .int 0, .int 0]))]) [0] (by decide) rfl) rfl rfl) rfl rfl hl.1 rfl (lv_room (Nat.le_of_ble_eq_true rfl)) dX10_put_66 ⟨Nat.le_of_ble_eq_true rfl, Nat.le_of_ble_eq_true rfl⟩) hP hD hS hA [0] [1] rfl rfl (by decide +kernel) (by decide +kernel) (fun r3 ur3 H locs hwr3 hP hD hS => ?_)
      have hP : va_P D vwCl [(g, .inr (3, [.int 6, .int 6, .int 1, .int 0, .long 0, .long 0, .int 0, .int 0, .int 0, .ref k0, .ref k1, .ref k2, .ref k3, .ref k4, .ref k5, .ref k6])), (h, .inr (10, [.ref g, .ref df, .ref im, .ref pn, .ref w, .ref pa, .int (0 + 1), .int 0, .int 0]))] H := hP
      have hD : va_D A [(g, .inr (3, [.int 6, .int 6, .int 1, .int 0, .long 0, .long 0, .int 0, .int 0, .int 0, .ref k0, .ref k1, .ref k2, .ref k3, .ref k4, .ref k5, .ref k6])), (h, .inr (10, [.ref g, .ref df, .ref im, .ref pn, .ref w, .ref pa, .int (0 + 1), .int 0, .int 0]))] := hD
      subst hwr3
      have hP9 := hP.sub (ws' := []) [] rfl
      have hD9 := hD.sub (ws' := []) [] (by decide) rfl
      exact W.iret (v := (-10)) hx hb hr (fun t ht hW => ⟨⟨(-10), (), rfl, (by first | (simp [sp_put, c1, c2]; done) | (exfalso; simp_all; done)), by rw [ht]; exact hP9, hD9⟩, hS.F ht⟩) hS.2.2 dX10_put_69
    · skip
      refine lv_iload_n hx hb dX10_put_36 rfl (lv_at hl 2 rfl) ?_
      refine lv_iconst (v := (-1)) hx hb dX10_put_37 (by decide) ?_
      refine lv_iconst (v := 1) hx hb dX10_put_38 (by decide) ?_
      refine rd_i (va_runS (As := [.int y, .int (-1), .int 1]) (rest := []) ⟨hx, hb, hml, hown, hts⟩ (c_X10_isWithin l D cy y (-1) 1 _) (va_cwS 3 hts gX10_put_X10_isWithin rfl rfl rfl (by decide +kernel) ⟨Nat.le_of_ble_eq_true rfl, Nat.le_of_ble_eq_true rfl⟩) (pS hKA pE (dE (A := A))) rfl rfl hl.1 rfl (lv_room (Nat.le_of_ble_eq_true rfl)) dX10_put_39 ⟨Nat.le_of_ble_eq_true rfl, Nat.le_of_ble_eq_true rfl⟩) hP hS hA (fun r4 H locs hwr4 hP hS => ?_)
      rcases hwr4 with ⟨rfl, har4, hbr4⟩ | ⟨rfl, hnr4⟩
      · skip
        refine lv_if_eq (tgt := 63) hx hb dX10_put_42 (by decide) (fun c5 => absurd c5 (by decide)) (fun c5 => ?_)
        refine lv_aload_n hx hb dX10_put_45 rfl (lv_at hl 0 rfl) ?_
        refine va_get (D := D) (ci := 10) (v := .ref g) (C := RX10) (T := TX10) (N := 9) hx hb hts zi10_ hown hK hP 0 rfl rfl 0 (by decide) z0_ (fun _ h9 => h9) rfl dX10_put_46 ?_
        refine va_get (D := D) (ci := 3) (v := .int 0) (C := RX3) (T := TX3) (N := 16) hx hb hts zi3_ hown hK hP 1 rfl rfl 3 (by decide) z2_ (fun _ h9 => h9) rfl dX10_put_49 ?_
        refine lv_istore_n (lv' := [(3, .int 0), (0, .ref h), (1, .int x), (2, .int y)]) hx hb dX10_put_52 rfl hl (by decide) rfl (fun ls hl => ?_)
        refine lv_aload_n hx hb dX10_put_53 rfl (lv_at hl 1 rfl) ?_
        refine va_get (D := D) (ci := 10) (v := .ref g) (C := RX10) (T := TX10) (N := 9) hx hb hts zi10_ hown hK hP 0 rfl rfl 0 (by decide) z0_ (fun _ h9 => h9) rfl dX10_put_54 ?_
        refine lv_iload_n hx hb dX10_put_57 rfl (lv_at hl 3 rfl) ?_
        refine va_put (D := D) (ci := 3) (v := .int y) (ty := .int) (C := RX3) (T := TX3) (N := 16) hx hb hts zi3_ tyX3 tyX3_ok nmX3 hown hK hP hD hS 1 rfl rfl 3 (by decide) z2_ (fun _ h9 => h9) rfl (by decide +kernel) rfl rfl (Nat.le_of_ble_eq_true rfl) dX10_put_58 (fun H locs hP hD hS => ?_)
        have hP : va_P D vwCl [(h, .inr (10, [.ref g, .ref df, .ref im, .ref pn, .ref w, .ref pa, .int 0, .int 0, .int 0])), (g, .inr (3, [.int 6, .int 6, .int 1, .int y, .long 0, .long 0, .int 0, .int 0, .int 0, .ref k0, .ref k1, .ref k2, .ref k3, .ref k4, .ref k5, .ref k6]))] H := hP
        have hD : va_D A [(h, .inr (10, [.ref g, .ref df, .ref im, .ref pn, .ref w, .ref pa, .int 0, .int 0, .int 0])), (g, .inr (3, [.int 6, .int 6, .int 1, .int y, .long 0, .long 0, .int 0, .int 0, .int 0, .ref k0, .ref k1, .ref k2, .ref k3, .ref k4, .ref k5, .ref k6]))] := hD
        refine lv_iload_n hx hb dX10_put_61 rfl (lv_at hl 0 rfl) ?_
        have hP9 := hP.sub (ws' := []) [] rfl
        have hD9 := hD.sub (ws' := []) [] (by decide) rfl
        exact W.iret (v := 0) hx hb hr (fun t ht hW => ⟨⟨0, (), rfl, (by first | (simp [sp_put, c1, c2, har4, hbr4]; done) | (exfalso; simp_all; done)), by rw [ht]; exact hP9, hD9⟩, hS.F ht⟩) hS.2.2 dX10_put_62
      · skip
        refine lv_if_eq (tgt := 63) hx hb dX10_put_42 (by decide) (fun c6 => ?_) (fun c6 => absurd c6 (by decide))
        refine lv_aload_n hx hb dX10_put_63 rfl (lv_at hl 0 rfl) ?_
        refine lv_bipush (v := (-10)) hx hb dX10_put_64 (by decide) ?_
        refine wr_i (wr := [(g, .inr (3, [.int 6, .int 6, .int 1, .int 0, .long 0, .long 0, .int 0, .int 0, .int 0, .ref k0, .ref k1, .ref k2, .ref k3, .ref k4, .ref k5, .ref k6]))]) (va_runV (As := [.int (-10)]) (rest := []) ⟨hx, hb, hml, hown, hts⟩ (c_X10_refuseBad l D cy h g df im pn w pa 0 0 0 (-10) _) (cwV 1 hts gX10_put_X10_refuseBad rfl rfl rfl (by decide +kernel) ⟨Nat.le_of_ble_eq_true rfl, Nat.le_of_ble_eq_true rfl⟩) (pV (ci := 10) (k := 0) hKA (hP.sub (ws' := [(h, .inr (10, [.ref g, .ref df, .ref im, .ref pn, .ref w, .ref pa, .int 0, .int 0, .int 0]))]) [0] rfl) (hD.sub (ws' := [(h, .inr (10, [.ref g, .ref df, .ref im, .ref pn, .ref w, .ref pa, .int 0, .int 0, .int 0]))]) [0] (by decide) rfl) rfl rfl) rfl rfl hl.1 rfl (lv_room (Nat.le_of_ble_eq_true rfl)) dX10_put_66 ⟨Nat.le_of_ble_eq_true rfl, Nat.le_of_ble_eq_true rfl⟩) hP hD hS hA [0] [1] rfl rfl (by decide +kernel) (by decide +kernel) (fun r7 ur7 H locs hwr7 hP hD hS => ?_)
        have hP : va_P D vwCl [(g, .inr (3, [.int 6, .int 6, .int 1, .int 0, .long 0, .long 0, .int 0, .int 0, .int 0, .ref k0, .ref k1, .ref k2, .ref k3, .ref k4, .ref k5, .ref k6])), (h, .inr (10, [.ref g, .ref df, .ref im, .ref pn, .ref w, .ref pa, .int (0 + 1), .int 0, .int 0]))] H := hP
        have hD : va_D A [(g, .inr (3, [.int 6, .int 6, .int 1, .int 0, .long 0, .long 0, .int 0, .int 0, .int 0, .ref k0, .ref k1, .ref k2, .ref k3, .ref k4, .ref k5, .ref k6])), (h, .inr (10, [.ref g, .ref df, .ref im, .ref pn, .ref w, .ref pa, .int (0 + 1), .int 0, .int 0]))] := hD
        subst hwr7
        have hP9 := hP.sub (ws' := []) [] rfl
        have hD9 := hD.sub (ws' := []) [] (by decide) rfl
        exact W.iret (v := (-10)) hx hb hr (fun t ht hW => ⟨⟨(-10), (), rfl, (by first | (simp [sp_put, c1, c2, hnr4]; done) | (exfalso; simp_all; done)), by rw [ht]; exact hP9, hD9⟩, hS.F ht⟩) hS.2.2 dX10_put_69
  · skip
    refine lv_iload_n hx hb dX10_put_4 rfl (lv_at hl 2 rfl) ?_
    refine lv_iconst (v := 0) hx hb dX10_put_5 (by decide) ?_
    refine lv_iconst (v := 4) hx hb dX10_put_6 (by decide) ?_
    refine rd_i (va_runS (As := [.int y, .int 0, .int 4]) (rest := []) ⟨hx, hb, hml, hown, hts⟩ (c_X10_isWithin l D cy y 0 4 _) (va_cwS 3 hts gX10_put_X10_isWithin rfl rfl rfl (by decide +kernel) ⟨Nat.le_of_ble_eq_true rfl, Nat.le_of_ble_eq_true rfl⟩) (pS hKA pE (dE (A := A))) rfl rfl hl.1 rfl (lv_room (Nat.le_of_ble_eq_true rfl)) dX10_put_7 ⟨Nat.le_of_ble_eq_true rfl, Nat.le_of_ble_eq_true rfl⟩) hP hS hA (fun r8 H locs hwr8 hP hS => ?_)
    rcases hwr8 with ⟨rfl, har8, hbr8⟩ | ⟨rfl, hnr8⟩
    · skip
      refine lv_if_eq (tgt := 31) hx hb dX10_put_10 (by decide) (fun c9 => absurd c9 (by decide)) (fun c9 => ?_)
      refine lv_aload_n hx hb dX10_put_13 rfl (lv_at hl 0 rfl) ?_
      refine va_get (D := D) (ci := 10) (v := .ref g) (C := RX10) (T := TX10) (N := 9) hx hb hts zi10_ hown hK hP 0 rfl rfl 0 (by decide) z0_ (fun _ h9 => h9) rfl dX10_put_14 ?_
      refine va_get (D := D) (ci := 3) (v := .int 1) (C := RX3) (T := TX3) (N := 16) hx hb hts zi3_ hown hK hP 1 rfl rfl 2 (by decide) z4_ (fun _ h9 => h9) rfl dX10_put_17 ?_
      refine lv_istore_n (lv' := [(3, .int 1), (0, .ref h), (1, .int x), (2, .int y)]) hx hb dX10_put_20 rfl hl (by decide) rfl (fun ls hl => ?_)
      refine lv_aload_n hx hb dX10_put_21 rfl (lv_at hl 1 rfl) ?_
      refine va_get (D := D) (ci := 10) (v := .ref g) (C := RX10) (T := TX10) (N := 9) hx hb hts zi10_ hown hK hP 0 rfl rfl 0 (by decide) z0_ (fun _ h9 => h9) rfl dX10_put_22 ?_
      refine lv_iload_n hx hb dX10_put_25 rfl (lv_at hl 3 rfl) ?_
      refine va_put (D := D) (ci := 3) (v := .int y) (ty := .int) (C := RX3) (T := TX3) (N := 16) hx hb hts zi3_ tyX3 tyX3_ok nmX3 hown hK hP hD hS 1 rfl rfl 2 (by decide) z4_ (fun _ h9 => h9) rfl (by decide +kernel) rfl rfl (Nat.le_of_ble_eq_true rfl) dX10_put_26 (fun H locs hP hD hS => ?_)
      have hP : va_P D vwCl [(h, .inr (10, [.ref g, .ref df, .ref im, .ref pn, .ref w, .ref pa, .int 0, .int 0, .int 0])), (g, .inr (3, [.int 6, .int 6, .int y, .int 0, .long 0, .long 0, .int 0, .int 0, .int 0, .ref k0, .ref k1, .ref k2, .ref k3, .ref k4, .ref k5, .ref k6]))] H := hP
      have hD : va_D A [(h, .inr (10, [.ref g, .ref df, .ref im, .ref pn, .ref w, .ref pa, .int 0, .int 0, .int 0])), (g, .inr (3, [.int 6, .int 6, .int y, .int 0, .long 0, .long 0, .int 0, .int 0, .int 0, .ref k0, .ref k1, .ref k2, .ref k3, .ref k4, .ref k5, .ref k6]))] := hD
      refine lv_iload_n hx hb dX10_put_29 rfl (lv_at hl 0 rfl) ?_
      have hP9 := hP.sub (ws' := []) [] rfl
      have hD9 := hD.sub (ws' := []) [] (by decide) rfl
      exact W.iret (v := 1) hx hb hr (fun t ht hW => ⟨⟨1, (), rfl, (by first | (simp [sp_put, c1, har8, hbr8]; done) | (exfalso; simp_all; done)), by rw [ht]; exact hP9, hD9⟩, hS.F ht⟩) hS.2.2 dX10_put_30
    · skip
      refine lv_if_eq (tgt := 31) hx hb dX10_put_10 (by decide) (fun c10 => ?_) (fun c10 => absurd c10 (by decide))
      refine lv_iload_n hx hb dX10_put_31 rfl (lv_at hl 1 rfl) ?_
      refine lv_iconst (v := 1) hx hb dX10_put_32 (by decide) ?_
      refine lv_icmp_ne (tgt := 63) hx hb dX10_put_33 (by decide) (fun c11 => ?_) (fun c11 => ?_)
      · skip
        refine lv_aload_n hx hb dX10_put_63 rfl (lv_at hl 0 rfl) ?_
        refine lv_bipush (v := (-10)) hx hb dX10_put_64 (by decide) ?_
        refine wr_i (wr := [(g, .inr (3, [.int 6, .int 6, .int 1, .int 0, .long 0, .long 0, .int 0, .int 0, .int 0, .ref k0, .ref k1, .ref k2, .ref k3, .ref k4, .ref k5, .ref k6]))]) (va_runV (As := [.int (-10)]) (rest := []) ⟨hx, hb, hml, hown, hts⟩ (c_X10_refuseBad l D cy h g df im pn w pa 0 0 0 (-10) _) (cwV 1 hts gX10_put_X10_refuseBad rfl rfl rfl (by decide +kernel) ⟨Nat.le_of_ble_eq_true rfl, Nat.le_of_ble_eq_true rfl⟩) (pV (ci := 10) (k := 0) hKA (hP.sub (ws' := [(h, .inr (10, [.ref g, .ref df, .ref im, .ref pn, .ref w, .ref pa, .int 0, .int 0, .int 0]))]) [0] rfl) (hD.sub (ws' := [(h, .inr (10, [.ref g, .ref df, .ref im, .ref pn, .ref w, .ref pa, .int 0, .int 0, .int 0]))]) [0] (by decide) rfl) rfl rfl) rfl rfl hl.1 rfl (lv_room (Nat.le_of_ble_eq_true rfl)) dX10_put_66 ⟨Nat.le_of_ble_eq_true rfl, Nat.le_of_ble_eq_true rfl⟩) hP hD hS hA [0] [1] rfl rfl (by decide +kernel) (by decide +kernel) (fun r12 ur12 H locs hwr12 hP hD hS => ?_)
        have hP : va_P D vwCl [(g, .inr (3, [.int 6, .int 6, .int 1, .int 0, .long 0, .long 0, .int 0, .int 0, .int 0, .ref k0, .ref k1, .ref k2, .ref k3, .ref k4, .ref k5, .ref k6])), (h, .inr (10, [.ref g, .ref df, .ref im, .ref pn, .ref w, .ref pa, .int (0 + 1), .int 0, .int 0]))] H := hP
        have hD : va_D A [(g, .inr (3, [.int 6, .int 6, .int 1, .int 0, .long 0, .long 0, .int 0, .int 0, .int 0, .ref k0, .ref k1, .ref k2, .ref k3, .ref k4, .ref k5, .ref k6])), (h, .inr (10, [.ref g, .ref df, .ref im, .ref pn, .ref w, .ref pa, .int (0 + 1), .int 0, .int 0]))] := hD
        subst hwr12
        have hP9 := hP.sub (ws' := []) [] rfl
        have hD9 := hD.sub (ws' := []) [] (by decide) rfl
        exact W.iret (v := (-10)) hx hb hr (fun t ht hW => ⟨⟨(-10), (), rfl, (by first | (simp [sp_put, c1, hnr8, c11]; done) | (exfalso; simp_all; done)), by rw [ht]; exact hP9, hD9⟩, hS.F ht⟩) hS.2.2 dX10_put_69
      · skip
        refine lv_iload_n hx hb dX10_put_36 rfl (lv_at hl 2 rfl) ?_
        refine lv_iconst (v := (-1)) hx hb dX10_put_37 (by decide) ?_
        refine lv_iconst (v := 1) hx hb dX10_put_38 (by decide) ?_
        refine rd_i (va_runS (As := [.int y, .int (-1), .int 1]) (rest := []) ⟨hx, hb, hml, hown, hts⟩ (c_X10_isWithin l D cy y (-1) 1 _) (va_cwS 3 hts gX10_put_X10_isWithin rfl rfl rfl (by decide +kernel) ⟨Nat.le_of_ble_eq_true rfl, Nat.le_of_ble_eq_true rfl⟩) (pS hKA pE (dE (A := A))) rfl rfl hl.1 rfl (lv_room (Nat.le_of_ble_eq_true rfl)) dX10_put_39 ⟨Nat.le_of_ble_eq_true rfl, Nat.le_of_ble_eq_true rfl⟩) hP hS hA (fun r13 H locs hwr13 hP hS => ?_)
        rcases hwr13 with ⟨rfl, har13, hbr13⟩ | ⟨rfl, hnr13⟩
        · skip
          refine lv_if_eq (tgt := 63) hx hb dX10_put_42 (by decide) (fun c14 => absurd c14 (by decide)) (fun c14 => ?_)
          refine lv_aload_n hx hb dX10_put_45 rfl (lv_at hl 0 rfl) ?_
          refine va_get (D := D) (ci := 10) (v := .ref g) (C := RX10) (T := TX10) (N := 9) hx hb hts zi10_ hown hK hP 0 rfl rfl 0 (by decide) z0_ (fun _ h9 => h9) rfl dX10_put_46 ?_
          refine va_get (D := D) (ci := 3) (v := .int 0) (C := RX3) (T := TX3) (N := 16) hx hb hts zi3_ hown hK hP 1 rfl rfl 3 (by decide) z2_ (fun _ h9 => h9) rfl dX10_put_49 ?_
          refine lv_istore_n (lv' := [(3, .int 0), (0, .ref h), (1, .int x), (2, .int y)]) hx hb dX10_put_52 rfl hl (by decide) rfl (fun ls hl => ?_)
          refine lv_aload_n hx hb dX10_put_53 rfl (lv_at hl 1 rfl) ?_
          refine va_get (D := D) (ci := 10) (v := .ref g) (C := RX10) (T := TX10) (N := 9) hx hb hts zi10_ hown hK hP 0 rfl rfl 0 (by decide) z0_ (fun _ h9 => h9) rfl dX10_put_54 ?_
          refine lv_iload_n hx hb dX10_put_57 rfl (lv_at hl 3 rfl) ?_
          refine va_put (D := D) (ci := 3) (v := .int y) (ty := .int) (C := RX3) (T := TX3) (N := 16) hx hb hts zi3_ tyX3 tyX3_ok nmX3 hown hK hP hD hS 1 rfl rfl 3 (by decide) z2_ (fun _ h9 => h9) rfl (by decide +kernel) rfl rfl (Nat.le_of_ble_eq_true rfl) dX10_put_58 (fun H locs hP hD hS => ?_)
          have hP : va_P D vwCl [(h, .inr (10, [.ref g, .ref df, .ref im, .ref pn, .ref w, .ref pa, .int 0, .int 0, .int 0])), (g, .inr (3, [.int 6, .int 6, .int 1, .int y, .long 0, .long 0, .int 0, .int 0, .int 0, .ref k0, .ref k1, .ref k2, .ref k3, .ref k4, .ref k5, .ref k6]))] H := hP
          have hD : va_D A [(h, .inr (10, [.ref g, .ref df, .ref im, .ref pn, .ref w, .ref pa, .int 0, .int 0, .int 0])), (g, .inr (3, [.int 6, .int 6, .int 1, .int y, .long 0, .long 0, .int 0, .int 0, .int 0, .ref k0, .ref k1, .ref k2, .ref k3, .ref k4, .ref k5, .ref k6]))] := hD
          refine lv_iload_n hx hb dX10_put_61 rfl (lv_at hl 0 rfl) ?_
          have hP9 := hP.sub (ws' := []) [] rfl
          have hD9 := hD.sub (ws' := []) [] (by decide) rfl
          exact W.iret (v := 0) hx hb hr (fun t ht hW => ⟨⟨0, (), rfl, (by first | (simp [sp_put, c1, hnr8, c11, har13, hbr13]; done) | (exfalso; simp_all; done)), by rw [ht]; exact hP9, hD9⟩, hS.F ht⟩) hS.2.2 dX10_put_62
        · skip
          refine lv_if_eq (tgt := 63) hx hb dX10_put_42 (by decide) (fun c15 => ?_) (fun c15 => absurd c15 (by decide))
          refine lv_aload_n hx hb dX10_put_63 rfl (lv_at hl 0 rfl) ?_
          refine lv_bipush (v := (-10)) hx hb dX10_put_64 (by decide) ?_
          refine wr_i (wr := [(g, .inr (3, [.int 6, .int 6, .int 1, .int 0, .long 0, .long 0, .int 0, .int 0, .int 0, .ref k0, .ref k1, .ref k2, .ref k3, .ref k4, .ref k5, .ref k6]))]) (va_runV (As := [.int (-10)]) (rest := []) ⟨hx, hb, hml, hown, hts⟩ (c_X10_refuseBad l D cy h g df im pn w pa 0 0 0 (-10) _) (cwV 1 hts gX10_put_X10_refuseBad rfl rfl rfl (by decide +kernel) ⟨Nat.le_of_ble_eq_true rfl, Nat.le_of_ble_eq_true rfl⟩) (pV (ci := 10) (k := 0) hKA (hP.sub (ws' := [(h, .inr (10, [.ref g, .ref df, .ref im, .ref pn, .ref w, .ref pa, .int 0, .int 0, .int 0]))]) [0] rfl) (hD.sub (ws' := [(h, .inr (10, [.ref g, .ref df, .ref im, .ref pn, .ref w, .ref pa, .int 0, .int 0, .int 0]))]) [0] (by decide) rfl) rfl rfl) rfl rfl hl.1 rfl (lv_room (Nat.le_of_ble_eq_true rfl)) dX10_put_66 ⟨Nat.le_of_ble_eq_true rfl, Nat.le_of_ble_eq_true rfl⟩) hP hD hS hA [0] [1] rfl rfl (by decide +kernel) (by decide +kernel) (fun r16 ur16 H locs hwr16 hP hD hS => ?_)
          have hP : va_P D vwCl [(g, .inr (3, [.int 6, .int 6, .int 1, .int 0, .long 0, .long 0, .int 0, .int 0, .int 0, .ref k0, .ref k1, .ref k2, .ref k3, .ref k4, .ref k5, .ref k6])), (h, .inr (10, [.ref g, .ref df, .ref im, .ref pn, .ref w, .ref pa, .int (0 + 1), .int 0, .int 0]))] H := hP
          have hD : va_D A [(g, .inr (3, [.int 6, .int 6, .int 1, .int 0, .long 0, .long 0, .int 0, .int 0, .int 0, .ref k0, .ref k1, .ref k2, .ref k3, .ref k4, .ref k5, .ref k6])), (h, .inr (10, [.ref g, .ref df, .ref im, .ref pn, .ref w, .ref pa, .int (0 + 1), .int 0, .int 0]))] := hD
          subst hwr16
          have hP9 := hP.sub (ws' := []) [] rfl
          have hD9 := hD.sub (ws' := []) [] (by decide) rfl
          exact W.iret (v := (-10)) hx hb hr (fun t ht hW => ⟨⟨(-10), (), rfl, (by first | (simp [sp_put, c1, hnr8, c11, hnr13]; done) | (exfalso; simp_all; done)), by rw [ht]; exact hP9, hD9⟩, hS.F ht⟩) hS.2.2 dX10_put_69

set_option maxHeartbeats 4000000 in
set_option maxRecDepth 100000 in
theorem tp_person (l : Launch) (D : va_G) (cy : Nat → ClassId) (h g df im pn w pa : Nat) (k0 k1 k2 k3 k4 k5 k6 : Nat) (x y z : Int32) (sz : Nat)  : Met l yX10_person wsX10_person ({ frames := 3, cells := 0, slots := 0, locals := 65 }) (va_Pc [.ref h, .int x, .int y, .int z] (kPre D cy [(h, .inr (10, [.ref g, .ref df, .ref im, .ref pn, .ref w, .ref pa, .int 0, .int 0, .int 0])), (g, .inr (3, [.int 6, .int 6, .int 1, .int 0, .long 0, .long 0, .int 0, .int 0, .int 0, .ref k0, .ref k1, .ref k2, .ref k3, .ref k4, .ref k5, .ref k6])), (k0, .inl (cy 1, 5, .inl (fun _ => 0))), (k1, .inl (cy 1, 5, .inl (fun _ => 0))), (k2, .inl (cy 1, 5, .inl (fun _ => 0)))] sz)) (va_Qi (fun (r : Int32) (_ : Unit) => r = sp_person x y z) (fun (u : Unit) t => va_P D vwCl ([]) t.heap ∧ va_D (va_A [(h, .inr (10, [.ref g, .ref df, .ref im, .ref pn, .ref w, .ref pa, .int 0, .int 0, .int 0])), (g, .inr (3, [.int 6, .int 6, .int 1, .int 0, .long 0, .long 0, .int 0, .int 0, .int 0, .ref k0, .ref k1, .ref k2, .ref k3, .ref k4, .ref k5, .ref k6])), (k0, .inl (cy 1, 5, .inl (fun _ => 0))), (k1, .inl (cy 1, 5, .inl (fun _ => 0))), (k2, .inl (cy 1, 5, .inl (fun _ => 0)))] sz) ([])) (va_A [(h, .inr (10, [.ref g, .ref df, .ref im, .ref pn, .ref w, .ref pa, .int 0, .int 0, .int 0])), (g, .inr (3, [.int 6, .int 6, .int 1, .int 0, .long 0, .long 0, .int 0, .int 0, .int 0, .ref k0, .ref k1, .ref k2, .ref k3, .ref k4, .ref k5, .ref k6])), (k0, .inl (cy 1, 5, .inl (fun _ => 0))), (k1, .inl (cy 1, 5, .inl (fun _ => 0))), (k2, .inl (cy 1, 5, .inl (fun _ => 0)))] sz)) 0 0 (va_A [(h, .inr (10, [.ref g, .ref df, .ref im, .ref pn, .ref w, .ref pa, .int 0, .int 0, .int 0])), (g, .inr (3, [.int 6, .int 6, .int 1, .int 0, .long 0, .long 0, .int 0, .int 0, .int 0, .ref k0, .ref k1, .ref k2, .ref k3, .ref k4, .ref k5, .ref k6])), (k0, .inl (cy 1, 5, .inl (fun _ => 0))), (k1, .inl (cy 1, 5, .inl (fun _ => 0))), (k2, .inl (cy 1, 5, .inl (fun _ => 0)))] sz) := by
  refine Met.ofW (cc := cX10_person) (maxL := 5) (ret := (some .int)) (by decide) rfl ?_
  intro p e s m args below meth c s₁ B hml hv
  obtain ⟨rfl, hsz, hP, hKA, hD0⟩ := hv
  have hx := B.exec
  have hb := B.bytes
  have hr := B.returns
  have hts := atoms_spec (ws := wsX10_person) B.pre
  have hown : s.vm.findClass RX10 = some m.cls := findClass_of_methodNamed B.named
  have hlocks := B.notSynchronized
  subst hsz
  have hK := hKA.1
  have hD := hD0.self (sz := s.heap.size)
  generalize hAe : va_A [(h, .inr (10, [.ref g, .ref df, .ref im, .ref pn, .ref w, .ref pa, .int 0, .int 0, .int 0])), (g, .inr (3, [.int 6, .int 6, .int 1, .int 0, .long 0, .long 0, .int 0, .int 0, .int 0, .ref k0, .ref k1, .ref k2, .ref k3, .ref k4, .ref k5, .ref k6])), (k0, .inl (cy 1, 5, .inl (fun _ => 0))), (k1, .inl (cy 1, 5, .inl (fun _ => 0))), (k2, .inl (cy 1, 5, .inl (fun _ => 0)))] s.heap.size = A at hD ⊢
  have hA : ∀ q : Nat, s.heap.size ≤ q → A q := fun q h => by rw [← hAe]; exact Or.inr h
  have hS : va_S A s.heap s.heap [] := va_S.rf
  have hP : va_P D vwCl [(h, .inr (10, [.ref g, .ref df, .ref im, .ref pn, .ref w, .ref pa, .int 0, .int 0, .int 0])), (g, .inr (3, [.int 6, .int 6, .int 1, .int 0, .long 0, .long 0, .int 0, .int 0, .int 0, .ref k0, .ref k1, .ref k2, .ref k3, .ref k4, .ref k5, .ref k6])), (k0, .inl (cy 1, 5, .inl (fun _ => 0))), (k1, .inl (cy 1, 5, .inl (fun _ => 0))), (k2, .inl (cy 1, 5, .inl (fun _ => 0)))] s.heap := hP
  have hl := lv_entry ([.ref h, .int x, .int y, .int z]) (n := 5) (Nat.le_of_ble_eq_true rfl)
  rw [lg_entry_eq]
  generalize (lg_sl ([.ref h, .int x, .int y, .int z]) ++ List.replicate (5 - (lg_sl ([.ref h, .int x, .int y, .int z])).length) Slot.unset).toArray = ls at hl ⊢
  have hl : lv_has ls 5 [(0, .ref h), (1, .int x), (2, .int y), (3, .int z)] := hl
  have z0_ := hts (.fieldLink RX10 10 "HeardSeen" "now" "LHeardSeen$Garden;") (by decide +kernel)
  have zi10_ : ∀ w ∈ u_ws RX10 TX10 9, w ∈ wsX10_person := by decide +kernel
  refine lv_iload_n hx hb dX10_person_0 rfl (lv_at hl 1 rfl) ?_
  refine lv_iconst (v := 0) hx hb dX10_person_1 (by decide) ?_
  refine lv_iconst (v := 5) hx hb dX10_person_2 (by decide) ?_
  refine rd_i (va_runS (As := [.int x, .int 0, .int 5]) (rest := []) ⟨hx, hb, hml, hown, hts⟩ (c_X10_isWithin l D cy x 0 5 _) (va_cwS 3 hts gX10_person_X10_isWithin rfl rfl rfl (by decide +kernel) ⟨Nat.le_of_ble_eq_true rfl, Nat.le_of_ble_eq_true rfl⟩) (pS hKA pE (dE (A := A))) rfl rfl hl.1 rfl (lv_room (Nat.le_of_ble_eq_true rfl)) dX10_person_3 ⟨Nat.le_of_ble_eq_true rfl, Nat.le_of_ble_eq_true rfl⟩) hP hS hA (fun r1 H locs hwr1 hP hS => ?_)
  rcases hwr1 with ⟨rfl, har1, hbr1⟩ | ⟨rfl, hnr1⟩
  · skip
    refine lv_if_eq (tgt := 30) hx hb dX10_person_6 (by decide) (fun c2 => absurd c2 (by decide)) (fun c2 => ?_)
    refine lv_aload_n hx hb dX10_person_9 rfl (lv_at hl 0 rfl) ?_
    refine va_get (D := D) (ci := 10) (v := .ref g) (C := RX10) (T := TX10) (N := 9) hx hb hts zi10_ hown hK hP 0 rfl rfl 0 (by decide) z0_ (fun _ h9 => h9) rfl dX10_person_10 ?_
    refine lv_iload_n hx hb dX10_person_13 rfl (lv_at hl 2 rfl) ?_
    refine rd_i (va_runV (As := [.int y]) (rest := []) ⟨hx, hb, hml, hown, hts⟩ (c_X3_isSquare l D cy g 6 6 1 0 0 0 0 0 0 k0 k1 k2 k3 k4 k5 k6 y _) (cwV 1 hts gX10_person_X3_isSquare rfl rfl rfl (by decide +kernel) ⟨Nat.le_of_ble_eq_true rfl, Nat.le_of_ble_eq_true rfl⟩) (pV (ci := 3) (k := 0) hKA (hP.sub (ws' := [(g, .inr (3, [.int 6, .int 6, .int 1, .int 0, .long 0, .long 0, .int 0, .int 0, .int 0, .ref k0, .ref k1, .ref k2, .ref k3, .ref k4, .ref k5, .ref k6]))]) [1] rfl) (hD.sub (ws' := [(g, .inr (3, [.int 6, .int 6, .int 1, .int 0, .long 0, .long 0, .int 0, .int 0, .int 0, .ref k0, .ref k1, .ref k2, .ref k3, .ref k4, .ref k5, .ref k6]))]) [1] (by decide) rfl) rfl rfl) rfl rfl hl.1 rfl (lv_room (Nat.le_of_ble_eq_true rfl)) dX10_person_14 ⟨Nat.le_of_ble_eq_true rfl, Nat.le_of_ble_eq_true rfl⟩) hP hS hA (fun r3 H locs hwr3 hP hS => ?_)
    rcases hwr3 with ⟨rfl, har3, hbr3⟩ | ⟨rfl, hnr3⟩
    · skip
      have hbr3 : y < 36 := hbr3
      refine lv_if_eq (tgt := 30) hx hb dX10_person_17 (by decide) (fun c4 => absurd c4 (by decide)) (fun c4 => ?_)
      refine lv_iload_n hx hb dX10_person_20 rfl (lv_at hl 3 rfl) ?_
      refine lv_iconst (v := 0) hx hb dX10_person_21 (by decide) ?_
      refine lv_bipush (v := 9) hx hb dX10_person_22 (by decide) ?_
      refine rd_i (va_runS (As := [.int z, .int 0, .int 9]) (rest := []) ⟨hx, hb, hml, hown, hts⟩ (c_X10_isWithin l D cy z 0 9 _) (va_cwS 3 hts gX10_person_X10_isWithin rfl rfl rfl (by decide +kernel) ⟨Nat.le_of_ble_eq_true rfl, Nat.le_of_ble_eq_true rfl⟩) (pS hKA pE (dE (A := A))) rfl rfl hl.1 rfl (lv_room (Nat.le_of_ble_eq_true rfl)) dX10_person_24 ⟨Nat.le_of_ble_eq_true rfl, Nat.le_of_ble_eq_true rfl⟩) hP hS hA (fun r5 H locs hwr5 hP hS => ?_)
      rcases hwr5 with ⟨rfl, har5, hbr5⟩ | ⟨rfl, hnr5⟩
      · skip
        refine lv_if_ne (tgt := 37) hx hb dX10_person_27 (by decide) (fun c6 => ?_) (fun c6 => absurd c6 (by decide))
        refine lv_aload_n hx hb dX10_person_37 rfl (lv_at hl 0 rfl) ?_
        refine va_get (D := D) (ci := 10) (v := .ref g) (C := RX10) (T := TX10) (N := 9) hx hb hts zi10_ hown hK hP 0 rfl rfl 0 (by decide) z0_ (fun _ h9 => h9) rfl dX10_person_38 ?_
        refine lv_iload_n hx hb dX10_person_41 rfl (lv_at hl 2 rfl) ?_
        refine rd_i (va_runV (As := [.int y]) (rest := []) ⟨hx, hb, hml, hown, hts⟩ (c0_isFree l D cy g 6 6 1 0 0 0 k0 k1 k2 k3 k4 k5 k6 y _) (cwV 1 hts gX10_person_X3_isFree rfl rfl rfl (by decide +kernel) ⟨Nat.le_of_ble_eq_true rfl, Nat.le_of_ble_eq_true rfl⟩) (pV (ci := 3) (k := 0) hKA (hP.sub (ws' := [(g, .inr (3, [.int 6, .int 6, .int 1, .int 0, .long 0, .long 0, .int 0, .int 0, .int 0, .ref k0, .ref k1, .ref k2, .ref k3, .ref k4, .ref k5, .ref k6]))]) [1] rfl) (hD.sub (ws' := [(g, .inr (3, [.int 6, .int 6, .int 1, .int 0, .long 0, .long 0, .int 0, .int 0, .int 0, .ref k0, .ref k1, .ref k2, .ref k3, .ref k4, .ref k5, .ref k6]))]) [1] (by decide) rfl) rfl rfl) rfl rfl hl.1 rfl (lv_room (Nat.le_of_ble_eq_true rfl)) dX10_person_42 ⟨Nat.le_of_ble_eq_true rfl, Nat.le_of_ble_eq_true rfl⟩) hP hS hA (fun r7 H locs hwr7 hP hS => ?_)
        rcases hwr7 with ⟨rfl, hfr7⟩ | ⟨rfl, hfr7⟩
        · skip
          refine lv_if_ne (tgt := 55) hx hb dX10_person_45 (by decide) (fun c8 => ?_) (fun c8 => absurd c8 (by decide))
          refine lv_aload_n hx hb dX10_person_55 rfl (lv_at hl 0 rfl) ?_
          refine va_get (D := D) (ci := 10) (v := .ref g) (C := RX10) (T := TX10) (N := 9) hx hb hts zi10_ hown hK hP 0 rfl rfl 0 (by decide) z0_ (fun _ h9 => h9) rfl dX10_person_56 ?_
          refine lv_iload_n hx hb dX10_person_59 rfl (lv_at hl 1 rfl) ?_
          refine lv_iload_n hx hb dX10_person_60 rfl (lv_at hl 2 rfl) ?_
          refine lv_iload_n hx hb dX10_person_61 rfl (lv_at hl 3 rfl) ?_
          refine wr_i (wr := [(h, .inr (10, [.ref g, .ref df, .ref im, .ref pn, .ref w, .ref pa, .int 0, .int 0, .int 0]))]) (va_runV (As := [.int x, .int y, .int z]) (rest := []) ⟨hx, hb, hml, hown, hts⟩ (c0_addPerson l D cy g 6 6 1 0 0 0 k0 k1 k2 k3 k4 k5 k6 (fun _ => 0) (fun _ => 0) (fun _ => 0) x y z _) (cwV 3 hts gX10_person_X3_addPerson rfl rfl rfl (by decide +kernel) ⟨Nat.le_of_ble_eq_true rfl, Nat.le_of_ble_eq_true rfl⟩) (pV (ci := 3) (k := 0) hKA (hP.sub (ws' := [(g, .inr (3, [.int 6, .int 6, .int 1, .int 0, .long 0, .long 0, .int 0, .int 0, .int 0, .ref k0, .ref k1, .ref k2, .ref k3, .ref k4, .ref k5, .ref k6])), (k0, .inl (cy 1, 5, .inl (fun _ => 0))), (k1, .inl (cy 1, 5, .inl (fun _ => 0))), (k2, .inl (cy 1, 5, .inl (fun _ => 0)))]) [1, 2, 3, 4] rfl) (hD.sub (ws' := [(g, .inr (3, [.int 6, .int 6, .int 1, .int 0, .long 0, .long 0, .int 0, .int 0, .int 0, .ref k0, .ref k1, .ref k2, .ref k3, .ref k4, .ref k5, .ref k6])), (k0, .inl (cy 1, 5, .inl (fun _ => 0))), (k1, .inl (cy 1, 5, .inl (fun _ => 0))), (k2, .inl (cy 1, 5, .inl (fun _ => 0)))]) [1, 2, 3, 4] (by decide) rfl) rfl rfl) rfl rfl hl.1 rfl (lv_room (Nat.le_of_ble_eq_true rfl)) dX10_person_62 ⟨Nat.le_of_ble_eq_true rfl, Nat.le_of_ble_eq_true rfl⟩) hP hD hS hA [1, 2, 3, 4] [0] rfl rfl (by decide +kernel) (by decide +kernel) (fun r9 ur9 H locs hwr9 hP hD hS => ?_)
          have hP : va_P D vwCl [(h, .inr (10, [.ref g, .ref df, .ref im, .ref pn, .ref w, .ref pa, .int 0, .int 0, .int 0]))] H := hP
          have hD : va_D A [(h, .inr (10, [.ref g, .ref df, .ref im, .ref pn, .ref w, .ref pa, .int 0, .int 0, .int 0]))] := hD
          rcases hwr9 with rfl
          · skip
            refine lv_istore (lv' := [(4, .int 0), (0, .ref h), (1, .int x), (2, .int y), (3, .int z)]) hx hb dX10_person_65 hl (by decide) rfl (fun ls hl => ?_)
            refine lv_iload hx hb dX10_person_67 (lv_at hl 0 rfl) ?_
            refine lv_iconst (v := (-1)) hx hb dX10_person_69 (by decide) ?_
            refine lv_icmp_ne (tgt := 80) hx hb dX10_person_70 (by decide) (fun c10 => ?_) (fun c10 => absurd c10 (by decide))
            refine lv_iload hx hb dX10_person_80 (lv_at hl 0 rfl) ?_
            have hP9 := hP.sub (ws' := []) [] rfl
            have hD9 := hD.sub (ws' := []) [] (by decide) rfl
            exact W.iret (v := 0) hx hb hr (fun t ht hW => ⟨⟨0, (), rfl, (by simp [sp_person, har1, hbr1, har3, hbr3, har5, hbr5, hfr7]), by rw [ht]; exact hP9, hD9⟩, hS.F ht⟩) hS.2.2 dX10_person_82
        · exact absurd hfr7 (z_sh0 _)
      · skip
        refine lv_if_ne (tgt := 37) hx hb dX10_person_27 (by decide) (fun c11 => absurd c11 (by decide)) (fun c11 => ?_)
        refine lv_aload_n hx hb dX10_person_30 rfl (lv_at hl 0 rfl) ?_
        refine lv_bipush (v := (-2)) hx hb dX10_person_31 (by decide) ?_
        refine wr_i (wr := [(g, .inr (3, [.int 6, .int 6, .int 1, .int 0, .long 0, .long 0, .int 0, .int 0, .int 0, .ref k0, .ref k1, .ref k2, .ref k3, .ref k4, .ref k5, .ref k6])), (k0, .inl (cy 1, 5, .inl (fun _ => 0))), (k1, .inl (cy 1, 5, .inl (fun _ => 0))), (k2, .inl (cy 1, 5, .inl (fun _ => 0)))]) (va_runV (As := [.int (-2)]) (rest := []) ⟨hx, hb, hml, hown, hts⟩ (c_X10_refuseBad l D cy h g df im pn w pa 0 0 0 (-2) _) (cwV 1 hts gX10_person_X10_refuseBad rfl rfl rfl (by decide +kernel) ⟨Nat.le_of_ble_eq_true rfl, Nat.le_of_ble_eq_true rfl⟩) (pV (ci := 10) (k := 0) hKA (hP.sub (ws' := [(h, .inr (10, [.ref g, .ref df, .ref im, .ref pn, .ref w, .ref pa, .int 0, .int 0, .int 0]))]) [0] rfl) (hD.sub (ws' := [(h, .inr (10, [.ref g, .ref df, .ref im, .ref pn, .ref w, .ref pa, .int 0, .int 0, .int 0]))]) [0] (by decide) rfl) rfl rfl) rfl rfl hl.1 rfl (lv_room (Nat.le_of_ble_eq_true rfl)) dX10_person_33 ⟨Nat.le_of_ble_eq_true rfl, Nat.le_of_ble_eq_true rfl⟩) hP hD hS hA [0] [1, 2, 3, 4] rfl rfl (by decide +kernel) (by decide +kernel) (fun r12 ur12 H locs hwr12 hP hD hS => ?_)
        have hP : va_P D vwCl [(g, .inr (3, [.int 6, .int 6, .int 1, .int 0, .long 0, .long 0, .int 0, .int 0, .int 0, .ref k0, .ref k1, .ref k2, .ref k3, .ref k4, .ref k5, .ref k6])), (k0, .inl (cy 1, 5, .inl (fun _ => 0))), (k1, .inl (cy 1, 5, .inl (fun _ => 0))), (k2, .inl (cy 1, 5, .inl (fun _ => 0))), (h, .inr (10, [.ref g, .ref df, .ref im, .ref pn, .ref w, .ref pa, .int (0 + 1), .int 0, .int 0]))] H := hP
        have hD : va_D A [(g, .inr (3, [.int 6, .int 6, .int 1, .int 0, .long 0, .long 0, .int 0, .int 0, .int 0, .ref k0, .ref k1, .ref k2, .ref k3, .ref k4, .ref k5, .ref k6])), (k0, .inl (cy 1, 5, .inl (fun _ => 0))), (k1, .inl (cy 1, 5, .inl (fun _ => 0))), (k2, .inl (cy 1, 5, .inl (fun _ => 0))), (h, .inr (10, [.ref g, .ref df, .ref im, .ref pn, .ref w, .ref pa, .int (0 + 1), .int 0, .int 0]))] := hD
        subst hwr12
        have hP9 := hP.sub (ws' := []) [] rfl
        have hD9 := hD.sub (ws' := []) [] (by decide) rfl
        exact W.iret (v := (-2)) hx hb hr (fun t ht hW => ⟨⟨(-2), (), rfl, (by simp [sp_person, har1, hbr1, har3, hbr3, hnr5]), by rw [ht]; exact hP9, hD9⟩, hS.F ht⟩) hS.2.2 dX10_person_36
    · skip
      have hnr3 : ¬ (0 ≤ y ∧ y < 36) := hnr3
      refine lv_if_eq (tgt := 30) hx hb dX10_person_17 (by decide) (fun c13 => ?_) (fun c13 => absurd c13 (by decide))
      refine lv_aload_n hx hb dX10_person_30 rfl (lv_at hl 0 rfl) ?_
      refine lv_bipush (v := (-2)) hx hb dX10_person_31 (by decide) ?_
      refine wr_i (wr := [(g, .inr (3, [.int 6, .int 6, .int 1, .int 0, .long 0, .long 0, .int 0, .int 0, .int 0, .ref k0, .ref k1, .ref k2, .ref k3, .ref k4, .ref k5, .ref k6])), (k0, .inl (cy 1, 5, .inl (fun _ => 0))), (k1, .inl (cy 1, 5, .inl (fun _ => 0))), (k2, .inl (cy 1, 5, .inl (fun _ => 0)))]) (va_runV (As := [.int (-2)]) (rest := []) ⟨hx, hb, hml, hown, hts⟩ (c_X10_refuseBad l D cy h g df im pn w pa 0 0 0 (-2) _) (cwV 1 hts gX10_person_X10_refuseBad rfl rfl rfl (by decide +kernel) ⟨Nat.le_of_ble_eq_true rfl, Nat.le_of_ble_eq_true rfl⟩) (pV (ci := 10) (k := 0) hKA (hP.sub (ws' := [(h, .inr (10, [.ref g, .ref df, .ref im, .ref pn, .ref w, .ref pa, .int 0, .int 0, .int 0]))]) [0] rfl) (hD.sub (ws' := [(h, .inr (10, [.ref g, .ref df, .ref im, .ref pn, .ref w, .ref pa, .int 0, .int 0, .int 0]))]) [0] (by decide) rfl) rfl rfl) rfl rfl hl.1 rfl (lv_room (Nat.le_of_ble_eq_true rfl)) dX10_person_33 ⟨Nat.le_of_ble_eq_true rfl, Nat.le_of_ble_eq_true rfl⟩) hP hD hS hA [0] [1, 2, 3, 4] rfl rfl (by decide +kernel) (by decide +kernel) (fun r14 ur14 H locs hwr14 hP hD hS => ?_)
      have hP : va_P D vwCl [(g, .inr (3, [.int 6, .int 6, .int 1, .int 0, .long 0, .long 0, .int 0, .int 0, .int 0, .ref k0, .ref k1, .ref k2, .ref k3, .ref k4, .ref k5, .ref k6])), (k0, .inl (cy 1, 5, .inl (fun _ => 0))), (k1, .inl (cy 1, 5, .inl (fun _ => 0))), (k2, .inl (cy 1, 5, .inl (fun _ => 0))), (h, .inr (10, [.ref g, .ref df, .ref im, .ref pn, .ref w, .ref pa, .int (0 + 1), .int 0, .int 0]))] H := hP
      have hD : va_D A [(g, .inr (3, [.int 6, .int 6, .int 1, .int 0, .long 0, .long 0, .int 0, .int 0, .int 0, .ref k0, .ref k1, .ref k2, .ref k3, .ref k4, .ref k5, .ref k6])), (k0, .inl (cy 1, 5, .inl (fun _ => 0))), (k1, .inl (cy 1, 5, .inl (fun _ => 0))), (k2, .inl (cy 1, 5, .inl (fun _ => 0))), (h, .inr (10, [.ref g, .ref df, .ref im, .ref pn, .ref w, .ref pa, .int (0 + 1), .int 0, .int 0]))] := hD
      subst hwr14
      have hP9 := hP.sub (ws' := []) [] rfl
      have hD9 := hD.sub (ws' := []) [] (by decide) rfl
      exact W.iret (v := (-2)) hx hb hr (fun t ht hW => ⟨⟨(-2), (), rfl, (by simp [sp_person, har1, hbr1, hnr3]), by rw [ht]; exact hP9, hD9⟩, hS.F ht⟩) hS.2.2 dX10_person_36
  · skip
    refine lv_if_eq (tgt := 30) hx hb dX10_person_6 (by decide) (fun c15 => ?_) (fun c15 => absurd c15 (by decide))
    refine lv_aload_n hx hb dX10_person_30 rfl (lv_at hl 0 rfl) ?_
    refine lv_bipush (v := (-2)) hx hb dX10_person_31 (by decide) ?_
    refine wr_i (wr := [(g, .inr (3, [.int 6, .int 6, .int 1, .int 0, .long 0, .long 0, .int 0, .int 0, .int 0, .ref k0, .ref k1, .ref k2, .ref k3, .ref k4, .ref k5, .ref k6])), (k0, .inl (cy 1, 5, .inl (fun _ => 0))), (k1, .inl (cy 1, 5, .inl (fun _ => 0))), (k2, .inl (cy 1, 5, .inl (fun _ => 0)))]) (va_runV (As := [.int (-2)]) (rest := []) ⟨hx, hb, hml, hown, hts⟩ (c_X10_refuseBad l D cy h g df im pn w pa 0 0 0 (-2) _) (cwV 1 hts gX10_person_X10_refuseBad rfl rfl rfl (by decide +kernel) ⟨Nat.le_of_ble_eq_true rfl, Nat.le_of_ble_eq_true rfl⟩) (pV (ci := 10) (k := 0) hKA (hP.sub (ws' := [(h, .inr (10, [.ref g, .ref df, .ref im, .ref pn, .ref w, .ref pa, .int 0, .int 0, .int 0]))]) [0] rfl) (hD.sub (ws' := [(h, .inr (10, [.ref g, .ref df, .ref im, .ref pn, .ref w, .ref pa, .int 0, .int 0, .int 0]))]) [0] (by decide) rfl) rfl rfl) rfl rfl hl.1 rfl (lv_room (Nat.le_of_ble_eq_true rfl)) dX10_person_33 ⟨Nat.le_of_ble_eq_true rfl, Nat.le_of_ble_eq_true rfl⟩) hP hD hS hA [0] [1, 2, 3, 4] rfl rfl (by decide +kernel) (by decide +kernel) (fun r16 ur16 H locs hwr16 hP hD hS => ?_)
    have hP : va_P D vwCl [(g, .inr (3, [.int 6, .int 6, .int 1, .int 0, .long 0, .long 0, .int 0, .int 0, .int 0, .ref k0, .ref k1, .ref k2, .ref k3, .ref k4, .ref k5, .ref k6])), (k0, .inl (cy 1, 5, .inl (fun _ => 0))), (k1, .inl (cy 1, 5, .inl (fun _ => 0))), (k2, .inl (cy 1, 5, .inl (fun _ => 0))), (h, .inr (10, [.ref g, .ref df, .ref im, .ref pn, .ref w, .ref pa, .int (0 + 1), .int 0, .int 0]))] H := hP
    have hD : va_D A [(g, .inr (3, [.int 6, .int 6, .int 1, .int 0, .long 0, .long 0, .int 0, .int 0, .int 0, .ref k0, .ref k1, .ref k2, .ref k3, .ref k4, .ref k5, .ref k6])), (k0, .inl (cy 1, 5, .inl (fun _ => 0))), (k1, .inl (cy 1, 5, .inl (fun _ => 0))), (k2, .inl (cy 1, 5, .inl (fun _ => 0))), (h, .inr (10, [.ref g, .ref df, .ref im, .ref pn, .ref w, .ref pa, .int (0 + 1), .int 0, .int 0]))] := hD
    subst hwr16
    have hP9 := hP.sub (ws' := []) [] rfl
    have hD9 := hD.sub (ws' := []) [] (by decide) rfl
    exact W.iret (v := (-2)) hx hb hr (fun t ht hW => ⟨⟨(-2), (), rfl, (by simp [sp_person, hnr1]), by rw [ht]; exact hP9, hD9⟩, hS.F ht⟩) hS.2.2 dX10_person_36

set_option maxHeartbeats 4000000 in
set_option maxRecDepth 100000 in
theorem tp_move (l : Launch) (D : va_G) (cy : Nat → ClassId) (h g df im pn w pa : Nat) (k0 k1 k2 k3 k4 k5 k6 : Nat) (x y : Int32) (sz : Nat)  : Met l yX10_move wsX10_move ({ frames := 1, cells := 0, slots := 0, locals := 21 }) (va_Pc [.ref h, .int x, .int y] (kPre D cy [(h, .inr (10, [.ref g, .ref df, .ref im, .ref pn, .ref w, .ref pa, .int 0, .int 0, .int 0])), (g, .inr (3, [.int 6, .int 6, .int 1, .int 0, .long 0, .long 0, .int 0, .int 0, .int 0, .ref k0, .ref k1, .ref k2, .ref k3, .ref k4, .ref k5, .ref k6]))] sz)) (va_Qi (fun (r : Int32) (_ : Unit) => r = -10) (fun (u : Unit) t => va_P D vwCl ([]) t.heap ∧ va_D (va_A [(h, .inr (10, [.ref g, .ref df, .ref im, .ref pn, .ref w, .ref pa, .int 0, .int 0, .int 0])), (g, .inr (3, [.int 6, .int 6, .int 1, .int 0, .long 0, .long 0, .int 0, .int 0, .int 0, .ref k0, .ref k1, .ref k2, .ref k3, .ref k4, .ref k5, .ref k6]))] sz) ([])) (va_A [(h, .inr (10, [.ref g, .ref df, .ref im, .ref pn, .ref w, .ref pa, .int 0, .int 0, .int 0])), (g, .inr (3, [.int 6, .int 6, .int 1, .int 0, .long 0, .long 0, .int 0, .int 0, .int 0, .ref k0, .ref k1, .ref k2, .ref k3, .ref k4, .ref k5, .ref k6]))] sz)) 0 0 (va_A [(h, .inr (10, [.ref g, .ref df, .ref im, .ref pn, .ref w, .ref pa, .int 0, .int 0, .int 0])), (g, .inr (3, [.int 6, .int 6, .int 1, .int 0, .long 0, .long 0, .int 0, .int 0, .int 0, .ref k0, .ref k1, .ref k2, .ref k3, .ref k4, .ref k5, .ref k6]))] sz) := by
  refine Met.ofW (cc := cX10_move) (maxL := 4) (ret := (some .int)) (by decide) rfl ?_
  intro p e s m args below meth c s₁ B hml hv
  obtain ⟨rfl, hsz, hP, hKA, hD0⟩ := hv
  have hx := B.exec
  have hb := B.bytes
  have hr := B.returns
  have hts := atoms_spec (ws := wsX10_move) B.pre
  have hown : s.vm.findClass RX10 = some m.cls := findClass_of_methodNamed B.named
  have hlocks := B.notSynchronized
  subst hsz
  have hK := hKA.1
  have hD := hD0.self (sz := s.heap.size)
  generalize hAe : va_A [(h, .inr (10, [.ref g, .ref df, .ref im, .ref pn, .ref w, .ref pa, .int 0, .int 0, .int 0])), (g, .inr (3, [.int 6, .int 6, .int 1, .int 0, .long 0, .long 0, .int 0, .int 0, .int 0, .ref k0, .ref k1, .ref k2, .ref k3, .ref k4, .ref k5, .ref k6]))] s.heap.size = A at hD ⊢
  have hA : ∀ q : Nat, s.heap.size ≤ q → A q := fun q h => by rw [← hAe]; exact Or.inr h
  have hS : va_S A s.heap s.heap [] := va_S.rf
  have hP : va_P D vwCl [(h, .inr (10, [.ref g, .ref df, .ref im, .ref pn, .ref w, .ref pa, .int 0, .int 0, .int 0])), (g, .inr (3, [.int 6, .int 6, .int 1, .int 0, .long 0, .long 0, .int 0, .int 0, .int 0, .ref k0, .ref k1, .ref k2, .ref k3, .ref k4, .ref k5, .ref k6]))] s.heap := hP
  have hl := lv_entry ([.ref h, .int x, .int y]) (n := 4) (Nat.le_of_ble_eq_true rfl)
  rw [lg_entry_eq]
  generalize (lg_sl ([.ref h, .int x, .int y]) ++ List.replicate (4 - (lg_sl ([.ref h, .int x, .int y])).length) Slot.unset).toArray = ls at hl ⊢
  have hl : lv_has ls 4 [(0, .ref h), (1, .int x), (2, .int y)] := hl
  have z0_ := hts (.fieldLink RX10 10 "HeardSeen" "now" "LHeardSeen$Garden;") (by decide +kernel)
  have zi10_ : ∀ w ∈ u_ws RX10 TX10 9, w ∈ wsX10_move := by decide +kernel
  refine lv_aload_n hx hb dX10_move_0 rfl (lv_at hl 0 rfl) ?_
  refine va_get (D := D) (ci := 10) (v := .ref g) (C := RX10) (T := TX10) (N := 9) hx hb hts zi10_ hown hK hP 0 rfl rfl 0 (by decide) z0_ (fun _ h9 => h9) rfl dX10_move_1 ?_
  refine lv_iload_n hx hb dX10_move_4 rfl (lv_at hl 1 rfl) ?_
  refine rd_i (va_runV (As := [.int x]) (rest := []) ⟨hx, hb, hml, hown, hts⟩ (c_X3_isPerson l D cy g 6 6 1 0 0 0 0 0 0 k0 k1 k2 k3 k4 k5 k6 x _) (cwV 1 hts gX10_move_X3_isPerson rfl rfl rfl (by decide +kernel) ⟨Nat.le_of_ble_eq_true rfl, Nat.le_of_ble_eq_true rfl⟩) (pV (ci := 3) (k := 0) hKA (hP.sub (ws' := [(g, .inr (3, [.int 6, .int 6, .int 1, .int 0, .long 0, .long 0, .int 0, .int 0, .int 0, .ref k0, .ref k1, .ref k2, .ref k3, .ref k4, .ref k5, .ref k6]))]) [1] rfl) (hD.sub (ws' := [(g, .inr (3, [.int 6, .int 6, .int 1, .int 0, .long 0, .long 0, .int 0, .int 0, .int 0, .ref k0, .ref k1, .ref k2, .ref k3, .ref k4, .ref k5, .ref k6]))]) [1] (by decide) rfl) rfl rfl) rfl rfl hl.1 rfl (lv_room (Nat.le_of_ble_eq_true rfl)) dX10_move_5 ⟨Nat.le_of_ble_eq_true rfl, Nat.le_of_ble_eq_true rfl⟩) hP hS hA (fun r1 H locs hwr1 hP hS => ?_)
  rcases hwr1 with ⟨rfl, har1, hbr1, hcr1⟩ | ⟨rfl, hnr1⟩
  · exact absurd har1 (Int32.not_le.mpr hbr1)
  · skip
    refine lv_if_eq (tgt := 22) hx hb dX10_move_8 (by decide) (fun c2 => ?_) (fun c2 => absurd c2 (by decide))
    refine lv_aload_n hx hb dX10_move_22 rfl (lv_at hl 0 rfl) ?_
    refine lv_bipush (v := (-10)) hx hb dX10_move_23 (by decide) ?_
    refine wr_i (wr := [(g, .inr (3, [.int 6, .int 6, .int 1, .int 0, .long 0, .long 0, .int 0, .int 0, .int 0, .ref k0, .ref k1, .ref k2, .ref k3, .ref k4, .ref k5, .ref k6]))]) (va_runV (As := [.int (-10)]) (rest := []) ⟨hx, hb, hml, hown, hts⟩ (c_X10_refuseBad l D cy h g df im pn w pa 0 0 0 (-10) _) (cwV 1 hts gX10_move_X10_refuseBad rfl rfl rfl (by decide +kernel) ⟨Nat.le_of_ble_eq_true rfl, Nat.le_of_ble_eq_true rfl⟩) (pV (ci := 10) (k := 0) hKA (hP.sub (ws' := [(h, .inr (10, [.ref g, .ref df, .ref im, .ref pn, .ref w, .ref pa, .int 0, .int 0, .int 0]))]) [0] rfl) (hD.sub (ws' := [(h, .inr (10, [.ref g, .ref df, .ref im, .ref pn, .ref w, .ref pa, .int 0, .int 0, .int 0]))]) [0] (by decide) rfl) rfl rfl) rfl rfl hl.1 rfl (lv_room (Nat.le_of_ble_eq_true rfl)) dX10_move_25 ⟨Nat.le_of_ble_eq_true rfl, Nat.le_of_ble_eq_true rfl⟩) hP hD hS hA [0] [1] rfl rfl (by decide +kernel) (by decide +kernel) (fun r3 ur3 H locs hwr3 hP hD hS => ?_)
    have hP : va_P D vwCl [(g, .inr (3, [.int 6, .int 6, .int 1, .int 0, .long 0, .long 0, .int 0, .int 0, .int 0, .ref k0, .ref k1, .ref k2, .ref k3, .ref k4, .ref k5, .ref k6])), (h, .inr (10, [.ref g, .ref df, .ref im, .ref pn, .ref w, .ref pa, .int (0 + 1), .int 0, .int 0]))] H := hP
    have hD : va_D A [(g, .inr (3, [.int 6, .int 6, .int 1, .int 0, .long 0, .long 0, .int 0, .int 0, .int 0, .ref k0, .ref k1, .ref k2, .ref k3, .ref k4, .ref k5, .ref k6])), (h, .inr (10, [.ref g, .ref df, .ref im, .ref pn, .ref w, .ref pa, .int (0 + 1), .int 0, .int 0]))] := hD
    subst hwr3
    have hP9 := hP.sub (ws' := []) [] rfl
    have hD9 := hD.sub (ws' := []) [] (by decide) rfl
    exact W.iret (v := (-10)) hx hb hr (fun t ht hW => ⟨⟨(-10), (), rfl, rfl, by rw [ht]; exact hP9, hD9⟩, hS.F ht⟩) hS.2.2 dX10_move_28

set_option maxHeartbeats 4000000 in
set_option maxRecDepth 100000 in
theorem tp_tell (l : Launch) (D : va_G) (cy : Nat → ClassId) (h g df im pn w pa : Nat) (k0 k1 k2 k3 k4 k5 k6 : Nat) (x y : Int32) (sz : Nat)  : Met l yX10_tell wsX10_tell ({ frames := 2, cells := 0, slots := 0, locals := 43 }) (va_Pc [.ref h, .int x, .int y] (kPre D cy [(h, .inr (10, [.ref g, .ref df, .ref im, .ref pn, .ref w, .ref pa, .int 0, .int 0, .int 0])), (g, .inr (3, [.int 6, .int 6, .int 1, .int 0, .long 0, .long 0, .int 0, .int 0, .int 0, .ref k0, .ref k1, .ref k2, .ref k3, .ref k4, .ref k5, .ref k6]))] sz)) (va_Qi (fun (r : Int32) (_ : Unit) => r = -2) (fun (u : Unit) t => va_P D vwCl ([]) t.heap ∧ va_D (va_A [(h, .inr (10, [.ref g, .ref df, .ref im, .ref pn, .ref w, .ref pa, .int 0, .int 0, .int 0])), (g, .inr (3, [.int 6, .int 6, .int 1, .int 0, .long 0, .long 0, .int 0, .int 0, .int 0, .ref k0, .ref k1, .ref k2, .ref k3, .ref k4, .ref k5, .ref k6]))] sz) ([])) (va_A [(h, .inr (10, [.ref g, .ref df, .ref im, .ref pn, .ref w, .ref pa, .int 0, .int 0, .int 0])), (g, .inr (3, [.int 6, .int 6, .int 1, .int 0, .long 0, .long 0, .int 0, .int 0, .int 0, .ref k0, .ref k1, .ref k2, .ref k3, .ref k4, .ref k5, .ref k6]))] sz)) 0 0 (va_A [(h, .inr (10, [.ref g, .ref df, .ref im, .ref pn, .ref w, .ref pa, .int 0, .int 0, .int 0])), (g, .inr (3, [.int 6, .int 6, .int 1, .int 0, .long 0, .long 0, .int 0, .int 0, .int 0, .ref k0, .ref k1, .ref k2, .ref k3, .ref k4, .ref k5, .ref k6]))] sz) := by
  refine Met.ofW (cc := cX10_tell) (maxL := 4) (ret := (some .int)) (by decide) rfl ?_
  intro p e s m args below meth c s₁ B hml hv
  obtain ⟨rfl, hsz, hP, hKA, hD0⟩ := hv
  have hx := B.exec
  have hb := B.bytes
  have hr := B.returns
  have hts := atoms_spec (ws := wsX10_tell) B.pre
  have hown : s.vm.findClass RX10 = some m.cls := findClass_of_methodNamed B.named
  have hlocks := B.notSynchronized
  subst hsz
  have hK := hKA.1
  have hD := hD0.self (sz := s.heap.size)
  generalize hAe : va_A [(h, .inr (10, [.ref g, .ref df, .ref im, .ref pn, .ref w, .ref pa, .int 0, .int 0, .int 0])), (g, .inr (3, [.int 6, .int 6, .int 1, .int 0, .long 0, .long 0, .int 0, .int 0, .int 0, .ref k0, .ref k1, .ref k2, .ref k3, .ref k4, .ref k5, .ref k6]))] s.heap.size = A at hD ⊢
  have hA : ∀ q : Nat, s.heap.size ≤ q → A q := fun q h => by rw [← hAe]; exact Or.inr h
  have hS : va_S A s.heap s.heap [] := va_S.rf
  have hP : va_P D vwCl [(h, .inr (10, [.ref g, .ref df, .ref im, .ref pn, .ref w, .ref pa, .int 0, .int 0, .int 0])), (g, .inr (3, [.int 6, .int 6, .int 1, .int 0, .long 0, .long 0, .int 0, .int 0, .int 0, .ref k0, .ref k1, .ref k2, .ref k3, .ref k4, .ref k5, .ref k6]))] s.heap := hP
  have hl := lv_entry ([.ref h, .int x, .int y]) (n := 4) (Nat.le_of_ble_eq_true rfl)
  rw [lg_entry_eq]
  generalize (lg_sl ([.ref h, .int x, .int y]) ++ List.replicate (4 - (lg_sl ([.ref h, .int x, .int y])).length) Slot.unset).toArray = ls at hl ⊢
  have hl : lv_has ls 4 [(0, .ref h), (1, .int x), (2, .int y)] := hl
  refine lv_aload_n hx hb dX10_tell_0 rfl (lv_at hl 0 rfl) ?_
  refine lv_iload_n hx hb dX10_tell_1 rfl (lv_at hl 1 rfl) ?_
  refine lv_iload_n hx hb dX10_tell_2 rfl (lv_at hl 2 rfl) ?_
  refine rd_i (va_runV (As := [.int x, .int y]) (rest := []) ⟨hx, hb, hml, hown, hts⟩ (c0_isPairOfTwo l D cy h g df im pn w pa 0 0 0 k0 k1 k2 k3 k4 k5 k6 x y _) (cwV 2 hts gX10_tell_X10_isPairOfTwo rfl rfl rfl (by decide +kernel) ⟨Nat.le_of_ble_eq_true rfl, Nat.le_of_ble_eq_true rfl⟩) (pV (ci := 10) (k := 0) hKA (hP.sub (ws' := [(h, .inr (10, [.ref g, .ref df, .ref im, .ref pn, .ref w, .ref pa, .int 0, .int 0, .int 0])), (g, .inr (3, [.int 6, .int 6, .int 1, .int 0, .long 0, .long 0, .int 0, .int 0, .int 0, .ref k0, .ref k1, .ref k2, .ref k3, .ref k4, .ref k5, .ref k6]))]) [0, 1] rfl) (hD.sub (ws' := [(h, .inr (10, [.ref g, .ref df, .ref im, .ref pn, .ref w, .ref pa, .int 0, .int 0, .int 0])), (g, .inr (3, [.int 6, .int 6, .int 1, .int 0, .long 0, .long 0, .int 0, .int 0, .int 0, .ref k0, .ref k1, .ref k2, .ref k3, .ref k4, .ref k5, .ref k6]))]) [0, 1] (by decide) rfl) rfl rfl) rfl rfl hl.1 rfl (lv_room (Nat.le_of_ble_eq_true rfl)) dX10_tell_3 ⟨Nat.le_of_ble_eq_true rfl, Nat.le_of_ble_eq_true rfl⟩) hP hS hA (fun r1 H locs hwr1 hP hS => ?_)
  rcases hwr1 with rfl
  · skip
    refine lv_if_ne (tgt := 16) hx hb dX10_tell_6 (by decide) (fun c2 => absurd c2 (by decide)) (fun c2 => ?_)
    refine lv_aload_n hx hb dX10_tell_9 rfl (lv_at hl 0 rfl) ?_
    refine lv_bipush (v := (-2)) hx hb dX10_tell_10 (by decide) ?_
    refine wr_i (wr := [(g, .inr (3, [.int 6, .int 6, .int 1, .int 0, .long 0, .long 0, .int 0, .int 0, .int 0, .ref k0, .ref k1, .ref k2, .ref k3, .ref k4, .ref k5, .ref k6]))]) (va_runV (As := [.int (-2)]) (rest := []) ⟨hx, hb, hml, hown, hts⟩ (c_X10_refuseBad l D cy h g df im pn w pa 0 0 0 (-2) _) (cwV 1 hts gX10_tell_X10_refuseBad rfl rfl rfl (by decide +kernel) ⟨Nat.le_of_ble_eq_true rfl, Nat.le_of_ble_eq_true rfl⟩) (pV (ci := 10) (k := 0) hKA (hP.sub (ws' := [(h, .inr (10, [.ref g, .ref df, .ref im, .ref pn, .ref w, .ref pa, .int 0, .int 0, .int 0]))]) [0] rfl) (hD.sub (ws' := [(h, .inr (10, [.ref g, .ref df, .ref im, .ref pn, .ref w, .ref pa, .int 0, .int 0, .int 0]))]) [0] (by decide) rfl) rfl rfl) rfl rfl hl.1 rfl (lv_room (Nat.le_of_ble_eq_true rfl)) dX10_tell_12 ⟨Nat.le_of_ble_eq_true rfl, Nat.le_of_ble_eq_true rfl⟩) hP hD hS hA [0] [1] rfl rfl (by decide +kernel) (by decide +kernel) (fun r3 ur3 H locs hwr3 hP hD hS => ?_)
    have hP : va_P D vwCl [(g, .inr (3, [.int 6, .int 6, .int 1, .int 0, .long 0, .long 0, .int 0, .int 0, .int 0, .ref k0, .ref k1, .ref k2, .ref k3, .ref k4, .ref k5, .ref k6])), (h, .inr (10, [.ref g, .ref df, .ref im, .ref pn, .ref w, .ref pa, .int (0 + 1), .int 0, .int 0]))] H := hP
    have hD : va_D A [(g, .inr (3, [.int 6, .int 6, .int 1, .int 0, .long 0, .long 0, .int 0, .int 0, .int 0, .ref k0, .ref k1, .ref k2, .ref k3, .ref k4, .ref k5, .ref k6])), (h, .inr (10, [.ref g, .ref df, .ref im, .ref pn, .ref w, .ref pa, .int (0 + 1), .int 0, .int 0]))] := hD
    subst hwr3
    have hP9 := hP.sub (ws' := []) [] rfl
    have hD9 := hD.sub (ws' := []) [] (by decide) rfl
    exact W.iret (v := (-2)) hx hb hr (fun t ht hW => ⟨⟨(-2), (), rfl, rfl, by rw [ht]; exact hP9, hD9⟩, hS.F ht⟩) hS.2.2 dX10_tell_15

set_option maxHeartbeats 4000000 in
set_option maxRecDepth 100000 in
theorem tp_report (l : Launch) (D : va_G) (cy : Nat → ClassId) (h g df im pn w pa : Nat) (k0 k1 k2 k3 k4 k5 k6 : Nat) (x y : Int32) (sz : Nat)  : Met l yX10_report wsX10_report ({ frames := 1, cells := 0, slots := 0, locals := 21 }) (va_Pc [.ref h, .int x, .int y] (kPre D cy [(h, .inr (10, [.ref g, .ref df, .ref im, .ref pn, .ref w, .ref pa, .int 0, .int 0, .int 0])), (g, .inr (3, [.int 6, .int 6, .int 1, .int 0, .long 0, .long 0, .int 0, .int 0, .int 0, .ref k0, .ref k1, .ref k2, .ref k3, .ref k4, .ref k5, .ref k6]))] sz)) (va_Qi (fun (r : Int32) (_ : Unit) => r = -2) (fun (u : Unit) t => va_P D vwCl ([]) t.heap ∧ va_D (va_A [(h, .inr (10, [.ref g, .ref df, .ref im, .ref pn, .ref w, .ref pa, .int 0, .int 0, .int 0])), (g, .inr (3, [.int 6, .int 6, .int 1, .int 0, .long 0, .long 0, .int 0, .int 0, .int 0, .ref k0, .ref k1, .ref k2, .ref k3, .ref k4, .ref k5, .ref k6]))] sz) ([])) (va_A [(h, .inr (10, [.ref g, .ref df, .ref im, .ref pn, .ref w, .ref pa, .int 0, .int 0, .int 0])), (g, .inr (3, [.int 6, .int 6, .int 1, .int 0, .long 0, .long 0, .int 0, .int 0, .int 0, .ref k0, .ref k1, .ref k2, .ref k3, .ref k4, .ref k5, .ref k6]))] sz)) 0 0 (va_A [(h, .inr (10, [.ref g, .ref df, .ref im, .ref pn, .ref w, .ref pa, .int 0, .int 0, .int 0])), (g, .inr (3, [.int 6, .int 6, .int 1, .int 0, .long 0, .long 0, .int 0, .int 0, .int 0, .ref k0, .ref k1, .ref k2, .ref k3, .ref k4, .ref k5, .ref k6]))] sz) := by
  refine Met.ofW (cc := cX10_report) (maxL := 4) (ret := (some .int)) (by decide) rfl ?_
  intro p e s m args below meth c s₁ B hml hv
  obtain ⟨rfl, hsz, hP, hKA, hD0⟩ := hv
  have hx := B.exec
  have hb := B.bytes
  have hr := B.returns
  have hts := atoms_spec (ws := wsX10_report) B.pre
  have hown : s.vm.findClass RX10 = some m.cls := findClass_of_methodNamed B.named
  have hlocks := B.notSynchronized
  subst hsz
  have hK := hKA.1
  have hD := hD0.self (sz := s.heap.size)
  generalize hAe : va_A [(h, .inr (10, [.ref g, .ref df, .ref im, .ref pn, .ref w, .ref pa, .int 0, .int 0, .int 0])), (g, .inr (3, [.int 6, .int 6, .int 1, .int 0, .long 0, .long 0, .int 0, .int 0, .int 0, .ref k0, .ref k1, .ref k2, .ref k3, .ref k4, .ref k5, .ref k6]))] s.heap.size = A at hD ⊢
  have hA : ∀ q : Nat, s.heap.size ≤ q → A q := fun q h => by rw [← hAe]; exact Or.inr h
  have hS : va_S A s.heap s.heap [] := va_S.rf
  have hP : va_P D vwCl [(h, .inr (10, [.ref g, .ref df, .ref im, .ref pn, .ref w, .ref pa, .int 0, .int 0, .int 0])), (g, .inr (3, [.int 6, .int 6, .int 1, .int 0, .long 0, .long 0, .int 0, .int 0, .int 0, .ref k0, .ref k1, .ref k2, .ref k3, .ref k4, .ref k5, .ref k6]))] s.heap := hP
  have hl := lv_entry ([.ref h, .int x, .int y]) (n := 4) (Nat.le_of_ble_eq_true rfl)
  rw [lg_entry_eq]
  generalize (lg_sl ([.ref h, .int x, .int y]) ++ List.replicate (4 - (lg_sl ([.ref h, .int x, .int y])).length) Slot.unset).toArray = ls at hl ⊢
  have hl : lv_has ls 4 [(0, .ref h), (1, .int x), (2, .int y)] := hl
  have z0_ := hts (.fieldLink RX10 10 "HeardSeen" "now" "LHeardSeen$Garden;") (by decide +kernel)
  have zi10_ : ∀ w ∈ u_ws RX10 TX10 9, w ∈ wsX10_report := by decide +kernel
  refine lv_aload_n hx hb dX10_report_0 rfl (lv_at hl 0 rfl) ?_
  refine va_get (D := D) (ci := 10) (v := .ref g) (C := RX10) (T := TX10) (N := 9) hx hb hts zi10_ hown hK hP 0 rfl rfl 0 (by decide) z0_ (fun _ h9 => h9) rfl dX10_report_1 ?_
  refine lv_iload_n hx hb dX10_report_4 rfl (lv_at hl 1 rfl) ?_
  refine rd_i (va_runV (As := [.int x]) (rest := []) ⟨hx, hb, hml, hown, hts⟩ (c_X3_isPerson l D cy g 6 6 1 0 0 0 0 0 0 k0 k1 k2 k3 k4 k5 k6 x _) (cwV 1 hts gX10_report_X3_isPerson rfl rfl rfl (by decide +kernel) ⟨Nat.le_of_ble_eq_true rfl, Nat.le_of_ble_eq_true rfl⟩) (pV (ci := 3) (k := 0) hKA (hP.sub (ws' := [(g, .inr (3, [.int 6, .int 6, .int 1, .int 0, .long 0, .long 0, .int 0, .int 0, .int 0, .ref k0, .ref k1, .ref k2, .ref k3, .ref k4, .ref k5, .ref k6]))]) [1] rfl) (hD.sub (ws' := [(g, .inr (3, [.int 6, .int 6, .int 1, .int 0, .long 0, .long 0, .int 0, .int 0, .int 0, .ref k0, .ref k1, .ref k2, .ref k3, .ref k4, .ref k5, .ref k6]))]) [1] (by decide) rfl) rfl rfl) rfl rfl hl.1 rfl (lv_room (Nat.le_of_ble_eq_true rfl)) dX10_report_5 ⟨Nat.le_of_ble_eq_true rfl, Nat.le_of_ble_eq_true rfl⟩) hP hS hA (fun r1 H locs hwr1 hP hS => ?_)
  rcases hwr1 with ⟨rfl, har1, hbr1, hcr1⟩ | ⟨rfl, hnr1⟩
  · exact absurd har1 (Int32.not_le.mpr hbr1)
  · skip
    refine lv_if_eq (tgt := 20) hx hb dX10_report_8 (by decide) (fun c2 => ?_) (fun c2 => absurd c2 (by decide))
    refine lv_aload_n hx hb dX10_report_20 rfl (lv_at hl 0 rfl) ?_
    refine lv_bipush (v := (-2)) hx hb dX10_report_21 (by decide) ?_
    refine wr_i (wr := [(g, .inr (3, [.int 6, .int 6, .int 1, .int 0, .long 0, .long 0, .int 0, .int 0, .int 0, .ref k0, .ref k1, .ref k2, .ref k3, .ref k4, .ref k5, .ref k6]))]) (va_runV (As := [.int (-2)]) (rest := []) ⟨hx, hb, hml, hown, hts⟩ (c_X10_refuseBad l D cy h g df im pn w pa 0 0 0 (-2) _) (cwV 1 hts gX10_report_X10_refuseBad rfl rfl rfl (by decide +kernel) ⟨Nat.le_of_ble_eq_true rfl, Nat.le_of_ble_eq_true rfl⟩) (pV (ci := 10) (k := 0) hKA (hP.sub (ws' := [(h, .inr (10, [.ref g, .ref df, .ref im, .ref pn, .ref w, .ref pa, .int 0, .int 0, .int 0]))]) [0] rfl) (hD.sub (ws' := [(h, .inr (10, [.ref g, .ref df, .ref im, .ref pn, .ref w, .ref pa, .int 0, .int 0, .int 0]))]) [0] (by decide) rfl) rfl rfl) rfl rfl hl.1 rfl (lv_room (Nat.le_of_ble_eq_true rfl)) dX10_report_23 ⟨Nat.le_of_ble_eq_true rfl, Nat.le_of_ble_eq_true rfl⟩) hP hD hS hA [0] [1] rfl rfl (by decide +kernel) (by decide +kernel) (fun r3 ur3 H locs hwr3 hP hD hS => ?_)
    have hP : va_P D vwCl [(g, .inr (3, [.int 6, .int 6, .int 1, .int 0, .long 0, .long 0, .int 0, .int 0, .int 0, .ref k0, .ref k1, .ref k2, .ref k3, .ref k4, .ref k5, .ref k6])), (h, .inr (10, [.ref g, .ref df, .ref im, .ref pn, .ref w, .ref pa, .int (0 + 1), .int 0, .int 0]))] H := hP
    have hD : va_D A [(g, .inr (3, [.int 6, .int 6, .int 1, .int 0, .long 0, .long 0, .int 0, .int 0, .int 0, .ref k0, .ref k1, .ref k2, .ref k3, .ref k4, .ref k5, .ref k6])), (h, .inr (10, [.ref g, .ref df, .ref im, .ref pn, .ref w, .ref pa, .int (0 + 1), .int 0, .int 0]))] := hD
    subst hwr3
    have hP9 := hP.sub (ws' := []) [] rfl
    have hD9 := hD.sub (ws' := []) [] (by decide) rfl
    exact W.iret (v := (-2)) hx hb hr (fun t ht hW => ⟨⟨(-2), (), rfl, rfl, by rw [ht]; exact hP9, hD9⟩, hS.F ht⟩) hS.2.2 dX10_report_26

set_option maxHeartbeats 4000000 in
set_option maxRecDepth 100000 in
theorem tp_clears (l : Launch) (D : va_G) (cy : Nat → ClassId) (h g df im pn w pa : Nat) (k0 k1 k2 k3 k4 k5 k6 : Nat) (x : Int32) (sz : Nat)  : Met l yX10_clears wsX10_clears ({ frames := 1, cells := 0, slots := 0, locals := 21 }) (va_Pc [.ref h, .int x] (kPre D cy [(h, .inr (10, [.ref g, .ref df, .ref im, .ref pn, .ref w, .ref pa, .int 0, .int 0, .int 0])), (g, .inr (3, [.int 6, .int 6, .int 1, .int 0, .long 0, .long 0, .int 0, .int 0, .int 0, .ref k0, .ref k1, .ref k2, .ref k3, .ref k4, .ref k5, .ref k6]))] sz)) (va_Qi (fun (r : Int32) (_ : Unit) => r = sp_clears x) (fun (u : Unit) t => va_P D vwCl ([]) t.heap ∧ va_D (va_A [(h, .inr (10, [.ref g, .ref df, .ref im, .ref pn, .ref w, .ref pa, .int 0, .int 0, .int 0])), (g, .inr (3, [.int 6, .int 6, .int 1, .int 0, .long 0, .long 0, .int 0, .int 0, .int 0, .ref k0, .ref k1, .ref k2, .ref k3, .ref k4, .ref k5, .ref k6]))] sz) ([])) (va_A [(h, .inr (10, [.ref g, .ref df, .ref im, .ref pn, .ref w, .ref pa, .int 0, .int 0, .int 0])), (g, .inr (3, [.int 6, .int 6, .int 1, .int 0, .long 0, .long 0, .int 0, .int 0, .int 0, .ref k0, .ref k1, .ref k2, .ref k3, .ref k4, .ref k5, .ref k6]))] sz)) 0 0 (va_A [(h, .inr (10, [.ref g, .ref df, .ref im, .ref pn, .ref w, .ref pa, .int 0, .int 0, .int 0])), (g, .inr (3, [.int 6, .int 6, .int 1, .int 0, .long 0, .long 0, .int 0, .int 0, .int 0, .ref k0, .ref k1, .ref k2, .ref k3, .ref k4, .ref k5, .ref k6]))] sz) := by
  refine Met.ofW (cc := cX10_clears) (maxL := 3) (ret := (some .int)) (by decide) rfl ?_
  intro p e s m args below meth c s₁ B hml hv
  obtain ⟨rfl, hsz, hP, hKA, hD0⟩ := hv
  have hx := B.exec
  have hb := B.bytes
  have hr := B.returns
  have hts := atoms_spec (ws := wsX10_clears) B.pre
  have hown : s.vm.findClass RX10 = some m.cls := findClass_of_methodNamed B.named
  have hlocks := B.notSynchronized
  subst hsz
  have hK := hKA.1
  have hD := hD0.self (sz := s.heap.size)
  generalize hAe : va_A [(h, .inr (10, [.ref g, .ref df, .ref im, .ref pn, .ref w, .ref pa, .int 0, .int 0, .int 0])), (g, .inr (3, [.int 6, .int 6, .int 1, .int 0, .long 0, .long 0, .int 0, .int 0, .int 0, .ref k0, .ref k1, .ref k2, .ref k3, .ref k4, .ref k5, .ref k6]))] s.heap.size = A at hD ⊢
  have hA : ∀ q : Nat, s.heap.size ≤ q → A q := fun q h => by rw [← hAe]; exact Or.inr h
  have hS : va_S A s.heap s.heap [] := va_S.rf
  have hP : va_P D vwCl [(h, .inr (10, [.ref g, .ref df, .ref im, .ref pn, .ref w, .ref pa, .int 0, .int 0, .int 0])), (g, .inr (3, [.int 6, .int 6, .int 1, .int 0, .long 0, .long 0, .int 0, .int 0, .int 0, .ref k0, .ref k1, .ref k2, .ref k3, .ref k4, .ref k5, .ref k6]))] s.heap := hP
  have hl := lv_entry ([.ref h, .int x]) (n := 3) (Nat.le_of_ble_eq_true rfl)
  rw [lg_entry_eq]
  generalize (lg_sl ([.ref h, .int x]) ++ List.replicate (3 - (lg_sl ([.ref h, .int x])).length) Slot.unset).toArray = ls at hl ⊢
  have hl : lv_has ls 3 [(0, .ref h), (1, .int x)] := hl
  have z0_ := hts (.fieldLink RX10 10 "HeardSeen" "now" "LHeardSeen$Garden;") (by decide +kernel)
  have zi10_ : ∀ w ∈ u_ws RX10 TX10 9, w ∈ wsX10_clears := by decide +kernel
  have z2_ := hts (.fieldLink RX10 120 "HeardSeen$Garden" "reports" "I") (by decide +kernel)
  have zi3_ : ∀ w ∈ u_ws RX3 TX3 16, w ∈ wsX10_clears := by decide +kernel
  have z4_ := hts (.fieldLink RX10 117 "HeardSeen$Garden" "tellings" "I") (by decide +kernel)
  refine lv_iload_n hx hb dX10_clears_0 rfl (lv_at hl 1 rfl) ?_
  refine lv_if_ne (tgt := 22) hx hb dX10_clears_1 (by decide) (fun c1 => ?_) (fun c1 => ?_)
  · skip
    refine lv_iload_n hx hb dX10_clears_22 rfl (lv_at hl 1 rfl) ?_
    refine lv_iconst (v := 1) hx hb dX10_clears_23 (by decide) ?_
    refine lv_icmp_ne (tgt := 45) hx hb dX10_clears_24 (by decide) (fun c2 => ?_) (fun c2 => ?_)
    · skip
      refine lv_aload_n hx hb dX10_clears_45 rfl (lv_at hl 0 rfl) ?_
      refine lv_bipush (v := (-2)) hx hb dX10_clears_46 (by decide) ?_
      refine wr_i (wr := [(g, .inr (3, [.int 6, .int 6, .int 1, .int 0, .long 0, .long 0, .int 0, .int 0, .int 0, .ref k0, .ref k1, .ref k2, .ref k3, .ref k4, .ref k5, .ref k6]))]) (va_runV (As := [.int (-2)]) (rest := []) ⟨hx, hb, hml, hown, hts⟩ (c_X10_refuseBad l D cy h g df im pn w pa 0 0 0 (-2) _) (cwV 1 hts gX10_clears_X10_refuseBad rfl rfl rfl (by decide +kernel) ⟨Nat.le_of_ble_eq_true rfl, Nat.le_of_ble_eq_true rfl⟩) (pV (ci := 10) (k := 0) hKA (hP.sub (ws' := [(h, .inr (10, [.ref g, .ref df, .ref im, .ref pn, .ref w, .ref pa, .int 0, .int 0, .int 0]))]) [0] rfl) (hD.sub (ws' := [(h, .inr (10, [.ref g, .ref df, .ref im, .ref pn, .ref w, .ref pa, .int 0, .int 0, .int 0]))]) [0] (by decide) rfl) rfl rfl) rfl rfl hl.1 rfl (lv_room (Nat.le_of_ble_eq_true rfl)) dX10_clears_48 ⟨Nat.le_of_ble_eq_true rfl, Nat.le_of_ble_eq_true rfl⟩) hP hD hS hA [0] [1] rfl rfl (by decide +kernel) (by decide +kernel) (fun r3 ur3 H locs hwr3 hP hD hS => ?_)
      have hP : va_P D vwCl [(g, .inr (3, [.int 6, .int 6, .int 1, .int 0, .long 0, .long 0, .int 0, .int 0, .int 0, .ref k0, .ref k1, .ref k2, .ref k3, .ref k4, .ref k5, .ref k6])), (h, .inr (10, [.ref g, .ref df, .ref im, .ref pn, .ref w, .ref pa, .int (0 + 1), .int 0, .int 0]))] H := hP
      have hD : va_D A [(g, .inr (3, [.int 6, .int 6, .int 1, .int 0, .long 0, .long 0, .int 0, .int 0, .int 0, .ref k0, .ref k1, .ref k2, .ref k3, .ref k4, .ref k5, .ref k6])), (h, .inr (10, [.ref g, .ref df, .ref im, .ref pn, .ref w, .ref pa, .int (0 + 1), .int 0, .int 0]))] := hD
      subst hwr3
      have hP9 := hP.sub (ws' := []) [] rfl
      have hD9 := hD.sub (ws' := []) [] (by decide) rfl
      exact W.iret (v := (-2)) hx hb hr (fun t ht hW => ⟨⟨(-2), (), rfl, (by simp [sp_clears, c1, c2]), by rw [ht]; exact hP9, hD9⟩, hS.F ht⟩) hS.2.2 dX10_clears_51
    · skip
      refine lv_aload_n hx hb dX10_clears_27 rfl (lv_at hl 0 rfl) ?_
      refine va_get (D := D) (ci := 10) (v := .ref g) (C := RX10) (T := TX10) (N := 9) hx hb hts zi10_ hown hK hP 0 rfl rfl 0 (by decide) z0_ (fun _ h9 => h9) rfl dX10_clears_28 ?_
      refine va_get (D := D) (ci := 3) (v := .int 0) (C := RX3) (T := TX3) (N := 16) hx hb hts zi3_ hown hK hP 1 rfl rfl 8 (by decide) z2_ (fun _ h9 => h9) rfl dX10_clears_31 ?_
      refine lv_istore_n (lv' := [(2, .int 0), (0, .ref h), (1, .int x)]) hx hb dX10_clears_34 rfl hl (by decide) rfl (fun ls hl => ?_)
      refine lv_aload_n hx hb dX10_clears_35 rfl (lv_at hl 1 rfl) ?_
      refine va_get (D := D) (ci := 10) (v := .ref g) (C := RX10) (T := TX10) (N := 9) hx hb hts zi10_ hown hK hP 0 rfl rfl 0 (by decide) z0_ (fun _ h9 => h9) rfl dX10_clears_36 ?_
      refine lv_iconst (v := 0) hx hb dX10_clears_39 (by decide) ?_
      refine va_put (D := D) (ci := 3) (v := .int 0) (ty := .int) (C := RX3) (T := TX3) (N := 16) hx hb hts zi3_ tyX3 tyX3_ok nmX3 hown hK hP hD hS 1 rfl rfl 8 (by decide) z2_ (fun _ h9 => h9) rfl (by decide +kernel) rfl rfl (Nat.le_of_ble_eq_true rfl) dX10_clears_40 (fun H locs hP hD hS => ?_)
      have hP : va_P D vwCl [(h, .inr (10, [.ref g, .ref df, .ref im, .ref pn, .ref w, .ref pa, .int 0, .int 0, .int 0])), (g, .inr (3, [.int 6, .int 6, .int 1, .int 0, .long 0, .long 0, .int 0, .int 0, .int 0, .ref k0, .ref k1, .ref k2, .ref k3, .ref k4, .ref k5, .ref k6]))] H := hP
      have hD : va_D A [(h, .inr (10, [.ref g, .ref df, .ref im, .ref pn, .ref w, .ref pa, .int 0, .int 0, .int 0])), (g, .inr (3, [.int 6, .int 6, .int 1, .int 0, .long 0, .long 0, .int 0, .int 0, .int 0, .ref k0, .ref k1, .ref k2, .ref k3, .ref k4, .ref k5, .ref k6]))] := hD
      refine lv_iload_n hx hb dX10_clears_43 rfl (lv_at hl 0 rfl) ?_
      have hP9 := hP.sub (ws' := []) [] rfl
      have hD9 := hD.sub (ws' := []) [] (by decide) rfl
      exact W.iret (v := 0) hx hb hr (fun t ht hW => ⟨⟨0, (), rfl, (by simp [sp_clears, c1, c2]), by rw [ht]; exact hP9, hD9⟩, hS.F ht⟩) hS.2.2 dX10_clears_44
  · skip
    refine lv_aload_n hx hb dX10_clears_4 rfl (lv_at hl 0 rfl) ?_
    refine va_get (D := D) (ci := 10) (v := .ref g) (C := RX10) (T := TX10) (N := 9) hx hb hts zi10_ hown hK hP 0 rfl rfl 0 (by decide) z0_ (fun _ h9 => h9) rfl dX10_clears_5 ?_
    refine va_get (D := D) (ci := 3) (v := .int 0) (C := RX3) (T := TX3) (N := 16) hx hb hts zi3_ hown hK hP 1 rfl rfl 7 (by decide) z4_ (fun _ h9 => h9) rfl dX10_clears_8 ?_
    refine lv_istore_n (lv' := [(2, .int 0), (0, .ref h), (1, .int x)]) hx hb dX10_clears_11 rfl hl (by decide) rfl (fun ls hl => ?_)
    refine lv_aload_n hx hb dX10_clears_12 rfl (lv_at hl 1 rfl) ?_
    refine va_get (D := D) (ci := 10) (v := .ref g) (C := RX10) (T := TX10) (N := 9) hx hb hts zi10_ hown hK hP 0 rfl rfl 0 (by decide) z0_ (fun _ h9 => h9) rfl dX10_clears_13 ?_
    refine lv_iconst (v := 0) hx hb dX10_clears_16 (by decide) ?_
    refine va_put (D := D) (ci := 3) (v := .int 0) (ty := .int) (C := RX3) (T := TX3) (N := 16) hx hb hts zi3_ tyX3 tyX3_ok nmX3 hown hK hP hD hS 1 rfl rfl 7 (by decide) z4_ (fun _ h9 => h9) rfl (by decide +kernel) rfl rfl (Nat.le_of_ble_eq_true rfl) dX10_clears_17 (fun H locs hP hD hS => ?_)
    have hP : va_P D vwCl [(h, .inr (10, [.ref g, .ref df, .ref im, .ref pn, .ref w, .ref pa, .int 0, .int 0, .int 0])), (g, .inr (3, [.int 6, .int 6, .int 1, .int 0, .long 0, .long 0, .int 0, .int 0, .int 0, .ref k0, .ref k1, .ref k2, .ref k3, .ref k4, .ref k5, .ref k6]))] H := hP
    have hD : va_D A [(h, .inr (10, [.ref g, .ref df, .ref im, .ref pn, .ref w, .ref pa, .int 0, .int 0, .int 0])), (g, .inr (3, [.int 6, .int 6, .int 1, .int 0, .long 0, .long 0, .int 0, .int 0, .int 0, .ref k0, .ref k1, .ref k2, .ref k3, .ref k4, .ref k5, .ref k6]))] := hD
    refine lv_iload_n hx hb dX10_clears_20 rfl (lv_at hl 0 rfl) ?_
    have hP9 := hP.sub (ws' := []) [] rfl
    have hD9 := hD.sub (ws' := []) [] (by decide) rfl
    exact W.iret (v := 0) hx hb hr (fun t ht hW => ⟨⟨0, (), rfl, (by simp [sp_clears, c1]), by rw [ht]; exact hP9, hD9⟩, hS.F ht⟩) hS.2.2 dX10_clears_21

set_option maxHeartbeats 4000000 in
set_option maxRecDepth 100000 in
theorem tp_type (l : Launch) (D : va_G) (cy : Nat → ClassId) (h g df im pn w pa : Nat) (b : Nat) (v : Int64) (x : Int32) (sz : Nat)  : Met l yX10_type wsX10_type ({ frames := 1, cells := 0, slots := 0, locals := 24 }) (va_Pc [.ref h, .long v, .int x] (kPre D cy [(h, .inr (10, [.ref g, .ref df, .ref im, .ref pn, .ref w, .ref pa, .int 0, .int 0, .int 0])), (pn, .inr (8, [.ref b, .int 0, .int 0, .int 0, .int 0, .int 0, .int 0])), (b, .inl (cy 0, 250, .inl (fun _ => 0)))] sz)) (va_Qi (fun (r : Int32) (_ : Unit) => r = sp_type x) (fun (u : Unit) t => va_P D vwCl ([]) t.heap ∧ va_D (va_A [(h, .inr (10, [.ref g, .ref df, .ref im, .ref pn, .ref w, .ref pa, .int 0, .int 0, .int 0])), (pn, .inr (8, [.ref b, .int 0, .int 0, .int 0, .int 0, .int 0, .int 0])), (b, .inl (cy 0, 250, .inl (fun _ => 0)))] sz) ([])) (va_A [(h, .inr (10, [.ref g, .ref df, .ref im, .ref pn, .ref w, .ref pa, .int 0, .int 0, .int 0])), (pn, .inr (8, [.ref b, .int 0, .int 0, .int 0, .int 0, .int 0, .int 0])), (b, .inl (cy 0, 250, .inl (fun _ => 0)))] sz)) 0 0 (va_A [(h, .inr (10, [.ref g, .ref df, .ref im, .ref pn, .ref w, .ref pa, .int 0, .int 0, .int 0])), (pn, .inr (8, [.ref b, .int 0, .int 0, .int 0, .int 0, .int 0, .int 0])), (b, .inl (cy 0, 250, .inl (fun _ => 0)))] sz) := by
  refine Met.ofW (cc := cX10_type) (maxL := 4) (ret := (some .int)) (by decide) rfl ?_
  intro p e s m args below meth c s₁ B hml hv
  obtain ⟨rfl, hsz, hP, hKA, hD0⟩ := hv
  have hx := B.exec
  have hb := B.bytes
  have hr := B.returns
  have hts := atoms_spec (ws := wsX10_type) B.pre
  have hown : s.vm.findClass RX10 = some m.cls := findClass_of_methodNamed B.named
  have hlocks := B.notSynchronized
  subst hsz
  have hK := hKA.1
  have hD := hD0.self (sz := s.heap.size)
  generalize hAe : va_A [(h, .inr (10, [.ref g, .ref df, .ref im, .ref pn, .ref w, .ref pa, .int 0, .int 0, .int 0])), (pn, .inr (8, [.ref b, .int 0, .int 0, .int 0, .int 0, .int 0, .int 0])), (b, .inl (cy 0, 250, .inl (fun _ => 0)))] s.heap.size = A at hD ⊢
  have hA : ∀ q : Nat, s.heap.size ≤ q → A q := fun q h => by rw [← hAe]; exact Or.inr h
  have hS : va_S A s.heap s.heap [] := va_S.rf
  have hP : va_P D vwCl [(h, .inr (10, [.ref g, .ref df, .ref im, .ref pn, .ref w, .ref pa, .int 0, .int 0, .int 0])), (pn, .inr (8, [.ref b, .int 0, .int 0, .int 0, .int 0, .int 0, .int 0])), (b, .inl (cy 0, 250, .inl (fun _ => 0)))] s.heap := hP
  have hl := lv_entry ([.ref h, .long v, .int x]) (n := 4) (Nat.le_of_ble_eq_true rfl)
  rw [lg_entry_eq]
  generalize (lg_sl ([.ref h, .long v, .int x]) ++ List.replicate (4 - (lg_sl ([.ref h, .long v, .int x])).length) Slot.unset).toArray = ls at hl ⊢
  have hl : lv_has ls 4 [(0, .ref h), (1, .long v), (3, .int x)] := hl
  have z0_ := hts (.fieldLink RX10 26 "HeardSeen" "plan" "LHeardSeen$Plan;") (by decide +kernel)
  have zi10_ : ∀ w ∈ u_ws RX10 TX10 9, w ∈ wsX10_type := by decide +kernel
  have z2_ := hts (.fieldLink RX10 127 "HeardSeen$Plan" "length" "I") (by decide +kernel)
  have zi8_ : ∀ w ∈ u_ws RX8 TX8 7, w ∈ wsX10_type := by decide +kernel
  refine lv_iload_n hx hb dX10_type_0 rfl (lv_at hl 2 rfl) ?_
  refine lv_iconst (v := 1) hx hb dX10_type_1 (by decide) ?_
  refine lv_bipush (v := 8) hx hb dX10_type_2 (by decide) ?_
  refine rd_i (va_runS (As := [.int x, .int 1, .int 8]) (rest := []) ⟨hx, hb, hml, hown, hts⟩ (c_X10_isWithin l D cy x 1 8 _) (va_cwS 3 hts gX10_type_X10_isWithin rfl rfl rfl (by decide +kernel) ⟨Nat.le_of_ble_eq_true rfl, Nat.le_of_ble_eq_true rfl⟩) (pS hKA pE (dE (A := A))) rfl rfl hl.1 rfl (lv_room (Nat.le_of_ble_eq_true rfl)) dX10_type_4 ⟨Nat.le_of_ble_eq_true rfl, Nat.le_of_ble_eq_true rfl⟩) hP hS hA (fun r1 H locs hwr1 hP hS => ?_)
  rcases hwr1 with ⟨rfl, har1, hbr1⟩ | ⟨rfl, hnr1⟩
  · skip
    obtain ⟨nn, hn1, hn8, rfl⟩ := z_nn1 har1 hbr1
    refine lv_if_ne (tgt := 17) hx hb dX10_type_7 (by decide) (fun c2 => ?_) (fun c2 => absurd c2 (by decide))
    refine lv_aload_n hx hb dX10_type_17 rfl (lv_at hl 0 rfl) ?_
    refine va_get (D := D) (ci := 10) (v := .ref pn) (C := RX10) (T := TX10) (N := 9) hx hb hts zi10_ hown hK hP 0 rfl rfl 3 (by decide) z0_ (fun _ h9 => h9) rfl dX10_type_18 ?_
    refine lv_lload_n hx hb dX10_type_21 rfl (lv_at hl 1 rfl) ?_
    refine lv_iload_n hx hb dX10_type_22 rfl (lv_at hl 2 rfl) ?_
    refine wr_i (wr := [(h, .inr (10, [.ref g, .ref df, .ref im, .ref pn, .ref w, .ref pa, .int 0, .int 0, .int 0]))]) (va_runV (As := [.long v, .int (nI nn)]) (rest := []) ⟨hx, hb, hml, hown, hts⟩ (c_X8_append l D cy pn b 0 0 0 0 0 (fun _ => 0) v 0 nn _ (by omega) (by omega) (by omega)) (cwV 2 hts gX10_type_X8_append rfl rfl rfl (by decide +kernel) ⟨Nat.le_of_ble_eq_true rfl, Nat.le_of_ble_eq_true rfl⟩) (pV (ci := 8) (k := 0) hKA (hP.sub (ws' := [(pn, .inr (8, [.ref b, .int 0, .int 0, .int 0, .int 0, .int 0, .int 0])), (b, .inl (cy 0, 250, .inl (fun _ => 0)))]) [1, 2] rfl) (hD.sub (ws' := [(pn, .inr (8, [.ref b, .int 0, .int 0, .int 0, .int 0, .int 0, .int 0])), (b, .inl (cy 0, 250, .inl (fun _ => 0)))]) [1, 2] (by decide) rfl) rfl rfl) rfl rfl hl.1 rfl (lv_room (Nat.le_of_ble_eq_true rfl)) dX10_type_23 ⟨Nat.le_of_ble_eq_true rfl, Nat.le_of_ble_eq_true rfl⟩) hP hD hS hA [1, 2] [0] rfl rfl (by decide +kernel) (by decide +kernel) (fun r3 ur3 H locs hwr3 hP hD hS => ?_)
    obtain ⟨ln4, f5⟩ := ur3
    have hP : va_P D vwCl [(h, .inr (10, [.ref g, .ref df, .ref im, .ref pn, .ref w, .ref pa, .int 0, .int 0, .int 0])), (pn, .inr (8, [.ref b, .int (nI ln4), .int 0, .int 0, .int 0, .int 0, .int 0])), (b, .inl (cy 0, 250, .inl f5))] H := hP
    have hD : va_D A [(h, .inr (10, [.ref g, .ref df, .ref im, .ref pn, .ref w, .ref pa, .int 0, .int 0, .int 0])), (pn, .inr (8, [.ref b, .int (nI ln4), .int 0, .int 0, .int 0, .int 0, .int 0])), (b, .inl (cy 0, 250, .inl f5))] := hD
    rcases hwr3 with ⟨rfl, hur3, hvr3⟩ | ⟨rfl, hur3, hvr3⟩
    · skip
      obtain rfl : ln4 = 0 + nn := hur3
      refine lv_if_eq (tgt := 39) hx hb dX10_type_26 (by decide) (fun c6 => absurd c6 (by decide)) (fun c6 => ?_)
      refine lv_aload_n hx hb dX10_type_29 rfl (lv_at hl 0 rfl) ?_
      refine va_get (D := D) (ci := 10) (v := .ref pn) (C := RX10) (T := TX10) (N := 9) hx hb hts zi10_ hown hK hP 0 rfl rfl 3 (by decide) z0_ (fun _ h9 => h9) rfl dX10_type_30 ?_
      refine va_get (D := D) (ci := 8) (v := .int (nI (0 + nn))) (C := RX8) (T := TX8) (N := 7) hx hb hts zi8_ hown hK hP 1 rfl rfl 1 (by decide) z2_ (fun _ h9 => h9) rfl dX10_type_33 ?_
      refine lv_goto (tgt := 43) hx hb dX10_type_36 (by decide) ?_
      have hP9 := hP.sub (ws' := []) [] rfl
      have hD9 := hD.sub (ws' := []) [] (by decide) rfl
      exact W.iret (v := nI (0 + nn)) hx hb hr (fun t ht hW => ⟨⟨nI (0 + nn), (), rfl, (by simp [sp_type, har1, hbr1, hvr3]), by rw [ht]; exact hP9, hD9⟩, hS.F ht⟩) hS.2.2 dX10_type_43
    · exact absurd (by omega) hvr3
  · skip
    refine lv_if_ne (tgt := 17) hx hb dX10_type_7 (by decide) (fun c7 => absurd c7 (by decide)) (fun c7 => ?_)
    refine lv_aload_n hx hb dX10_type_10 rfl (lv_at hl 0 rfl) ?_
    refine lv_bipush (v := (-2)) hx hb dX10_type_11 (by decide) ?_
    refine wr_i (wr := [(pn, .inr (8, [.ref b, .int 0, .int 0, .int 0, .int 0, .int 0, .int 0])), (b, .inl (cy 0, 250, .inl (fun _ => 0)))]) (va_runV (As := [.int (-2)]) (rest := []) ⟨hx, hb, hml, hown, hts⟩ (c_X10_refuseBad l D cy h g df im pn w pa 0 0 0 (-2) _) (cwV 1 hts gX10_type_X10_refuseBad rfl rfl rfl (by decide +kernel) ⟨Nat.le_of_ble_eq_true rfl, Nat.le_of_ble_eq_true rfl⟩) (pV (ci := 10) (k := 0) hKA (hP.sub (ws' := [(h, .inr (10, [.ref g, .ref df, .ref im, .ref pn, .ref w, .ref pa, .int 0, .int 0, .int 0]))]) [0] rfl) (hD.sub (ws' := [(h, .inr (10, [.ref g, .ref df, .ref im, .ref pn, .ref w, .ref pa, .int 0, .int 0, .int 0]))]) [0] (by decide) rfl) rfl rfl) rfl rfl hl.1 rfl (lv_room (Nat.le_of_ble_eq_true rfl)) dX10_type_13 ⟨Nat.le_of_ble_eq_true rfl, Nat.le_of_ble_eq_true rfl⟩) hP hD hS hA [0] [1, 2] rfl rfl (by decide +kernel) (by decide +kernel) (fun r8 ur8 H locs hwr8 hP hD hS => ?_)
    have hP : va_P D vwCl [(pn, .inr (8, [.ref b, .int 0, .int 0, .int 0, .int 0, .int 0, .int 0])), (b, .inl (cy 0, 250, .inl (fun _ => 0))), (h, .inr (10, [.ref g, .ref df, .ref im, .ref pn, .ref w, .ref pa, .int (0 + 1), .int 0, .int 0]))] H := hP
    have hD : va_D A [(pn, .inr (8, [.ref b, .int 0, .int 0, .int 0, .int 0, .int 0, .int 0])), (b, .inl (cy 0, 250, .inl (fun _ => 0))), (h, .inr (10, [.ref g, .ref df, .ref im, .ref pn, .ref w, .ref pa, .int (0 + 1), .int 0, .int 0]))] := hD
    subst hwr8
    have hP9 := hP.sub (ws' := []) [] rfl
    have hD9 := hD.sub (ws' := []) [] (by decide) rfl
    exact W.iret (v := (-2)) hx hb hr (fun t ht hW => ⟨⟨(-2), (), rfl, (by simp [sp_type, hnr1]), by rw [ht]; exact hP9, hD9⟩, hS.F ht⟩) hS.2.2 dX10_type_16
