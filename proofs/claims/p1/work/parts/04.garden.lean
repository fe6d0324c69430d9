theorem dX3_everybody_0 : decode cX3_everybody 0 = .ok (.iconst 1, 1) := by decide +kernel
theorem dX3_everybody_1 : decode cX3_everybody 1 = .ok (.aload_n 0, 1) := by decide +kernel
theorem dX3_everybody_2 : decode cX3_everybody 2 = .ok (.getfield 53, 3) := by decide +kernel
theorem dX3_everybody_5 : decode cX3_everybody 5 = .ok (.ishl, 1) := by decide +kernel
theorem dX3_everybody_6 : decode cX3_everybody 6 = .ok (.iconst 1, 1) := by decide +kernel
theorem dX3_everybody_7 : decode cX3_everybody 7 = .ok (.isub, 1) := by decide +kernel
theorem dX3_everybody_8 : decode cX3_everybody 8 = .ok (.ireturn, 1) := by decide +kernel
theorem dX3_isTaken_0 : decode cX3_isTaken 0 = .ok (.iconst 0, 1) := by decide +kernel
theorem dX3_isTaken_1 : decode cX3_isTaken 1 = .ok (.istore_n 2, 1) := by decide +kernel
theorem dX3_isTaken_2 : decode cX3_isTaken 2 = .ok (.iload_n 2, 1) := by decide +kernel
theorem dX3_isTaken_3 : decode cX3_isTaken 3 = .ok (.aload_n 0, 1) := by decide +kernel
theorem dX3_isTaken_4 : decode cX3_isTaken 4 = .ok (.getfield 53, 3) := by decide +kernel
theorem dX3_isTaken_7 : decode cX3_isTaken 7 = .ok (.if_icmp .ge 26, 3) := by decide +kernel
theorem dX3_isTaken_33 : decode cX3_isTaken 33 = .ok (.iconst 0, 1) := by decide +kernel
theorem dX3_isTaken_34 : decode cX3_isTaken 34 = .ok (.ireturn, 1) := by decide +kernel
theorem dX3_isFree_0 : decode cX3_isFree 0 = .ok (.aload_n 0, 1) := by decide +kernel
theorem dX3_isFree_1 : decode cX3_isFree 1 = .ok (.iconst 0, 1) := by decide +kernel
theorem dX3_isFree_2 : decode cX3_isFree 2 = .ok (.iload_n 1, 1) := by decide +kernel
set_option maxRecDepth 20000 in
theorem ggX3_isFree_X3_has : GoodIn wsX3_isFree wsX3_has := goodIn_r _ [5, 6, 7, 8, 9, 10, 17, 18, 19, 20, 21, 22, 23, 24, 25, 26, 27, 28, 29, 30, 31, 32] (by decide +kernel) (by decide +kernel)
set_option maxRecDepth 20000 in
theorem gX3_isFree_X3_has : GoodIn wsX3_isFree (wsV RX3 80 RX3 yX3_has wsX3_has) := goodIn_app (goodIn_of _ (by decide +kernel)) ggX3_isFree_X3_has
theorem dX3_isFree_3 : decode cX3_isFree 3 = .ok (.invokevirtual 80, 3) := by decide +kernel
theorem dX3_isFree_6 : decode cX3_isFree 6 = .ok (.ifCond .ne 15, 3) := by decide +kernel
theorem dX3_isFree_21 : decode cX3_isFree 21 = .ok (.iconst 0, 1) := by decide +kernel
theorem dX3_isFree_22 : decode cX3_isFree 22 = .ok (.ireturn, 1) := by decide +kernel
theorem dX3_isFree_9 : decode cX3_isFree 9 = .ok (.aload_n 0, 1) := by decide +kernel
theorem dX3_isFree_10 : decode cX3_isFree 10 = .ok (.iload_n 1, 1) := by decide +kernel
set_option maxRecDepth 20000 in
theorem ggX3_isFree_X3_isTaken : GoodIn wsX3_isFree wsX3_isTaken := goodIn_r _ [14, 15, 16, 17, 18, 19, 20, 21, 22, 23, 24, 25, 26, 27, 28, 29, 30, 31, 32] (by decide +kernel) (by decide +kernel)
set_option maxRecDepth 20000 in
theorem gX3_isFree_X3_isTaken : GoodIn wsX3_isFree (wsV RX3 84 RX3 yX3_isTaken wsX3_isTaken) := goodIn_app (goodIn_of _ (by decide +kernel)) ggX3_isFree_X3_isTaken
theorem dX3_isFree_11 : decode cX3_isFree 11 = .ok (.invokevirtual 84, 3) := by decide +kernel
theorem dX3_isFree_14 : decode cX3_isFree 14 = .ok (.ifCond .ne 7, 3) := by decide +kernel
theorem dX3_isFree_17 : decode cX3_isFree 17 = .ok (.iconst 1, 1) := by decide +kernel
theorem dX3_isFree_18 : decode cX3_isFree 18 = .ok (.goto 4, 3) := by decide +kernel
theorem dX3_turn_0 : decode cX3_turn 0 = .ok (.iload_n 1, 1) := by decide +kernel
theorem dX3_turn_1 : decode cX3_turn 1 = .ok (.ifCond .ne 18, 3) := by decide +kernel
theorem dX3_turn_19 : decode cX3_turn 19 = .ok (.aload_n 0, 1) := by decide +kernel
theorem dX3_turn_20 : decode cX3_turn 20 = .ok (.dup, 1) := by decide +kernel
theorem dX3_turn_21 : decode cX3_turn 21 = .ok (.getfield 50, 3) := by decide +kernel
theorem dX3_turn_24 : decode cX3_turn 24 = .ok (.lconst 1, 1) := by decide +kernel
theorem dX3_turn_25 : decode cX3_turn 25 = .ok (.iload_n 2, 1) := by decide +kernel
theorem dX3_turn_26 : decode cX3_turn 26 = .ok (.lshl, 1) := by decide +kernel
theorem dX3_turn_27 : decode cX3_turn 27 = .ok (.lxor, 1) := by decide +kernel
theorem dX3_turn_28 : decode cX3_turn 28 = .ok (.putfield 50, 3) := by decide +kernel
theorem dX3_turn_31 : decode cX3_turn 31 = .ok (.return_, 1) := by decide +kernel
theorem dX3_turn_4 : decode cX3_turn 4 = .ok (.aload_n 0, 1) := by decide +kernel
theorem dX3_turn_5 : decode cX3_turn 5 = .ok (.dup, 1) := by decide +kernel
theorem dX3_turn_6 : decode cX3_turn 6 = .ok (.getfield 46, 3) := by decide +kernel
theorem dX3_turn_9 : decode cX3_turn 9 = .ok (.lconst 1, 1) := by decide +kernel
theorem dX3_turn_10 : decode cX3_turn 10 = .ok (.iload_n 2, 1) := by decide +kernel
theorem dX3_turn_11 : decode cX3_turn 11 = .ok (.lshl, 1) := by decide +kernel
theorem dX3_turn_12 : decode cX3_turn 12 = .ok (.lxor, 1) := by decide +kernel
theorem dX3_turn_13 : decode cX3_turn 13 = .ok (.putfield 46, 3) := by decide +kernel
theorem dX3_turn_16 : decode cX3_turn 16 = .ok (.goto 15, 3) := by decide +kernel
theorem dX3_addPerson_0 : decode cX3_addPerson 0 = .ok (.aload_n 0, 1) := by decide +kernel
theorem dX3_addPerson_1 : decode cX3_addPerson 1 = .ok (.getfield 53, 3) := by decide +kernel
theorem dX3_addPerson_4 : decode cX3_addPerson 4 = .ok (.ifCond .lt 11, 3) := by decide +kernel
theorem dX3_addPerson_7 : decode cX3_addPerson 7 = .ok (.aload_n 0, 1) := by decide +kernel
theorem dX3_addPerson_8 : decode cX3_addPerson 8 = .ok (.getfield 53, 3) := by decide +kernel
theorem dX3_addPerson_11 : decode cX3_addPerson 11 = .ok (.iconst 5, 1) := by decide +kernel
theorem dX3_addPerson_12 : decode cX3_addPerson 12 = .ok (.if_icmp .lt 5, 3) := by decide +kernel
theorem dX3_addPerson_17 : decode cX3_addPerson 17 = .ok (.aload_n 0, 1) := by decide +kernel
theorem dX3_addPerson_18 : decode cX3_addPerson 18 = .ok (.getfield 9, 3) := by decide +kernel
theorem dX3_addPerson_21 : decode cX3_addPerson 21 = .ok (.aload_n 0, 1) := by decide +kernel
theorem dX3_addPerson_22 : decode cX3_addPerson 22 = .ok (.getfield 53, 3) := by decide +kernel
theorem dX3_addPerson_25 : decode cX3_addPerson 25 = .ok (.iload_n 1, 1) := by decide +kernel
theorem dX3_addPerson_26 : decode cX3_addPerson 26 = .ok (.iastore, 1) := by decide +kernel
theorem dX3_addPerson_27 : decode cX3_addPerson 27 = .ok (.aload_n 0, 1) := by decide +kernel
theorem dX3_addPerson_28 : decode cX3_addPerson 28 = .ok (.getfield 15, 3) := by decide +kernel
theorem dX3_addPerson_31 : decode cX3_addPerson 31 = .ok (.aload_n 0, 1) := by decide +kernel
theorem dX3_addPerson_32 : decode cX3_addPerson 32 = .ok (.getfield 53, 3) := by decide +kernel
theorem dX3_addPerson_35 : decode cX3_addPerson 35 = .ok (.iload_n 2, 1) := by decide +kernel
theorem dX3_addPerson_36 : decode cX3_addPerson 36 = .ok (.iastore, 1) := by decide +kernel
theorem dX3_addPerson_37 : decode cX3_addPerson 37 = .ok (.aload_n 0, 1) := by decide +kernel
theorem dX3_addPerson_38 : decode cX3_addPerson 38 = .ok (.getfield 18, 3) := by decide +kernel
theorem dX3_addPerson_41 : decode cX3_addPerson 41 = .ok (.aload_n 0, 1) := by decide +kernel
theorem dX3_addPerson_42 : decode cX3_addPerson 42 = .ok (.getfield 53, 3) := by decide +kernel
theorem dX3_addPerson_45 : decode cX3_addPerson 45 = .ok (.iload_n 3, 1) := by decide +kernel
theorem dX3_addPerson_46 : decode cX3_addPerson 46 = .ok (.iastore, 1) := by decide +kernel
theorem dX3_addPerson_47 : decode cX3_addPerson 47 = .ok (.aload_n 0, 1) := by decide +kernel
theorem dX3_addPerson_48 : decode cX3_addPerson 48 = .ok (.dup, 1) := by decide +kernel
theorem dX3_addPerson_49 : decode cX3_addPerson 49 = .ok (.getfield 53, 3) := by decide +kernel
theorem dX3_addPerson_52 : decode cX3_addPerson 52 = .ok (.dup_x1, 1) := by decide +kernel
theorem dX3_addPerson_53 : decode cX3_addPerson 53 = .ok (.iconst 1, 1) := by decide +kernel
theorem dX3_addPerson_54 : decode cX3_addPerson 54 = .ok (.iadd, 1) := by decide +kernel
theorem dX3_addPerson_55 : decode cX3_addPerson 55 = .ok (.putfield 53, 3) := by decide +kernel
theorem dX3_addPerson_58 : decode cX3_addPerson 58 = .ok (.ireturn, 1) := by decide +kernel
theorem dX3_xOf_0 : decode cX3_xOf 0 = .ok (.aload_n 0, 1) := by decide +kernel
theorem dX3_xOf_1 : decode cX3_xOf 1 = .ok (.getfield 33, 3) := by decide +kernel
theorem dX3_xOf_4 : decode cX3_xOf 4 = .ok (.ifCond .le 12, 3) := by decide +kernel
theorem dX3_xOf_16 : decode cX3_xOf 16 = .ok (.iconst 0, 1) := by decide +kernel
theorem dX3_xOf_17 : decode cX3_xOf 17 = .ok (.ireturn, 1) := by decide +kernel
theorem dX3_xOf_7 : decode cX3_xOf 7 = .ok (.iload_n 1, 1) := by decide +kernel
theorem dX3_xOf_8 : decode cX3_xOf 8 = .ok (.aload_n 0, 1) := by decide +kernel
theorem dX3_xOf_9 : decode cX3_xOf 9 = .ok (.getfield 33, 3) := by decide +kernel
theorem dX3_xOf_12 : decode cX3_xOf 12 = .ok (.irem, 1) := by decide +kernel
theorem dX3_xOf_13 : decode cX3_xOf 13 = .ok (.goto 4, 3) := by decide +kernel
theorem dX3_yOf_0 : decode cX3_yOf 0 = .ok (.aload_n 0, 1) := by decide +kernel
theorem dX3_yOf_1 : decode cX3_yOf 1 = .ok (.getfield 33, 3) := by decide +kernel
theorem dX3_yOf_4 : decode cX3_yOf 4 = .ok (.ifCond .le 12, 3) := by decide +kernel
theorem dX3_yOf_16 : decode cX3_yOf 16 = .ok (.iconst 0, 1) := by decide +kernel
theorem dX3_yOf_17 : decode cX3_yOf 17 = .ok (.ireturn, 1) := by decide +kernel
theorem dX3_yOf_7 : decode cX3_yOf 7 = .ok (.iload_n 1, 1) := by decide +kernel
theorem dX3_yOf_8 : decode cX3_yOf 8 = .ok (.aload_n 0, 1) := by decide +kernel
theorem dX3_yOf_9 : decode cX3_yOf 9 = .ok (.getfield 33, 3) := by decide +kernel
theorem dX3_yOf_12 : decode cX3_yOf 12 = .ok (.idiv, 1) := by decide +kernel
theorem dX3_yOf_13 : decode cX3_yOf 13 = .ok (.goto 4, 3) := by decide +kernel
theorem dX3_yardsOf_0 : decode cX3_yardsOf 0 = .ok (.aload_n 0, 1) := by decide +kernel
theorem dX3_yardsOf_1 : decode cX3_yardsOf 1 = .ok (.iload_n 1, 1) := by decide +kernel
set_option maxRecDepth 20000 in
theorem ggX3_yardsOf_X3_xOf : GoodIn wsX3_yardsOf wsX3_xOf := goodIn_r _ [9, 10, 15, 16, 17, 18, 19, 20, 21, 22, 23, 24, 25, 26, 27, 28, 29, 30] (by decide +kernel) (by decide +kernel)
set_option maxRecDepth 20000 in
theorem gX3_yardsOf_X3_xOf : GoodIn wsX3_yardsOf (wsV RX3 87 RX3 yX3_xOf wsX3_xOf) := goodIn_app (goodIn_of _ (by decide +kernel)) ggX3_yardsOf_X3_xOf
theorem dX3_yardsOf_2 : decode cX3_yardsOf 2 = .ok (.invokevirtual 87, 3) := by decide +kernel
theorem dX3_yardsOf_5 : decode cX3_yardsOf 5 = .ok (.aload_n 0, 1) := by decide +kernel
theorem dX3_yardsOf_6 : decode cX3_yardsOf 6 = .ok (.iload_n 2, 1) := by decide +kernel
theorem dX3_yardsOf_7 : decode cX3_yardsOf 7 = .ok (.invokevirtual 87, 3) := by decide +kernel
theorem dX3_yardsOf_10 : decode cX3_yardsOf 10 = .ok (.isub, 1) := by decide +kernel
theorem dX3_yardsOf_11 : decode cX3_yardsOf 11 = .ok (.invokestatic 91, 3) := by decide +kernel
theorem dX3_yardsOf_14 : decode cX3_yardsOf 14 = .ok (.aload_n 0, 1) := by decide +kernel
theorem dX3_yardsOf_15 : decode cX3_yardsOf 15 = .ok (.iload_n 1, 1) := by decide +kernel
set_option maxRecDepth 20000 in
theorem ggX3_yardsOf_X3_yOf : GoodIn wsX3_yardsOf wsX3_yOf := goodIn_r _ [14, 10, 15, 16, 17, 18, 19, 20, 21, 22, 23, 24, 25, 26, 27, 28, 29, 30] (by decide +kernel) (by decide +kernel)
set_option maxRecDepth 20000 in
theorem gX3_yardsOf_X3_yOf : GoodIn wsX3_yardsOf (wsV RX3 96 RX3 yX3_yOf wsX3_yOf) := goodIn_app (goodIn_of _ (by decide +kernel)) ggX3_yardsOf_X3_yOf
theorem dX3_yardsOf_16 : decode cX3_yardsOf 16 = .ok (.invokevirtual 96, 3) := by decide +kernel
theorem dX3_yardsOf_19 : decode cX3_yardsOf 19 = .ok (.aload_n 0, 1) := by decide +kernel
theorem dX3_yardsOf_20 : decode cX3_yardsOf 20 = .ok (.iload_n 2, 1) := by decide +kernel
theorem dX3_yardsOf_21 : decode cX3_yardsOf 21 = .ok (.invokevirtual 96, 3) := by decide +kernel
theorem dX3_yardsOf_24 : decode cX3_yardsOf 24 = .ok (.isub, 1) := by decide +kernel
theorem dX3_yardsOf_25 : decode cX3_yardsOf 25 = .ok (.invokestatic 91, 3) := by decide +kernel
theorem dX3_yardsOf_28 : decode cX3_yardsOf 28 = .ok (.iadd, 1) := by decide +kernel
theorem dX3_yardsOf_29 : decode cX3_yardsOf 29 = .ok (.ireturn, 1) := by decide +kernel
theorem dX3_drownedSquares_0 : decode cX3_drownedSquares 0 = .ok (.lconst 0, 1) := by decide +kernel
theorem dX3_drownedSquares_1 : decode cX3_drownedSquares 1 = .ok (.lstore_n 1, 1) := by decide +kernel
theorem dX3_drownedSquares_2 : decode cX3_drownedSquares 2 = .ok (.iconst 0, 1) := by decide +kernel
theorem dX3_drownedSquares_3 : decode cX3_drownedSquares 3 = .ok (.istore_n 3, 1) := by decide +kernel
theorem dX3_drownedSquares_4 : decode cX3_drownedSquares 4 = .ok (.iload_n 3, 1) := by decide +kernel
theorem dX3_drownedSquares_5 : decode cX3_drownedSquares 5 = .ok (.aload_n 0, 1) := by decide +kernel
set_option maxRecDepth 20000 in
theorem ggX3_drownedSquares_X3_squareCount : GoodIn wsX3_drownedSquares wsX3_squareCount := goodIn_r _ [6, 7, 8, 34, 35, 36, 37, 38, 39, 40, 41, 42, 43, 44, 45, 46, 47, 48, 49] (by decide +kernel) (by decide +kernel)
set_option maxRecDepth 20000 in
theorem gX3_drownedSquares_X3_squareCount : GoodIn wsX3_drownedSquares (wsV RX3 68 RX3 yX3_squareCount wsX3_squareCount) := goodIn_app (goodIn_of _ (by decide +kernel)) ggX3_drownedSquares_X3_squareCount
theorem dX3_drownedSquares_6 : decode cX3_drownedSquares 6 = .ok (.invokevirtual 68, 3) := by decide +kernel
theorem dX3_drownedSquares_9 : decode cX3_drownedSquares 9 = .ok (.if_icmp .ge 57, 3) := by decide +kernel
theorem dX3_drownedSquares_66 : decode cX3_drownedSquares 66 = .ok (.lload_n 1, 1) := by decide +kernel
theorem dX3_drownedSquares_67 : decode cX3_drownedSquares 67 = .ok (.lreturn, 1) := by decide +kernel
theorem dX3_drownedSquares_12 : decode cX3_drownedSquares 12 = .ok (.iconst 0, 1) := by decide +kernel
theorem dX3_drownedSquares_13 : decode cX3_drownedSquares 13 = .ok (.istore 4, 2) := by decide +kernel
theorem dX3_drownedSquares_15 : decode cX3_drownedSquares 15 = .ok (.iload 4, 2) := by decide +kernel
theorem dX3_drownedSquares_17 : decode cX3_drownedSquares 17 = .ok (.aload_n 0, 1) := by decide +kernel
theorem dX3_drownedSquares_18 : decode cX3_drownedSquares 18 = .ok (.invokevirtual 68, 3) := by decide +kernel
theorem dX3_drownedSquares_21 : decode cX3_drownedSquares 21 = .ok (.if_icmp .ge 39, 3) := by decide +kernel
theorem dX3_drownedSquares_60 : decode cX3_drownedSquares 60 = .ok (.iinc 3 1, 3) := by decide +kernel
theorem dX3_drownedSquares_63 : decode cX3_drownedSquares 63 = .ok (.goto (-59), 3) := by decide +kernel
theorem dX3_drownedSquares_24 : decode cX3_drownedSquares 24 = .ok (.aload_n 0, 1) := by decide +kernel
theorem dX3_drownedSquares_25 : decode cX3_drownedSquares 25 = .ok (.iconst 1, 1) := by decide +kernel
theorem dX3_drownedSquares_26 : decode cX3_drownedSquares 26 = .ok (.iload_n 3, 1) := by decide +kernel
set_option maxRecDepth 20000 in
theorem ggX3_drownedSquares_X3_has : GoodIn wsX3_drownedSquares wsX3_has := goodIn_r _ [12, 13, 14, 15, 16, 17, 34, 35, 36, 37, 38, 39, 40, 41, 42, 43, 44, 45, 46, 47, 48, 49] (by decide +kernel) (by decide +kernel)
set_option maxRecDepth 20000 in
theorem gX3_drownedSquares_X3_has : GoodIn wsX3_drownedSquares (wsV RX3 80 RX3 yX3_has wsX3_has) := goodIn_app (goodIn_of _ (by decide +kernel)) ggX3_drownedSquares_X3_has
theorem dX3_drownedSquares_27 : decode cX3_drownedSquares 27 = .ok (.invokevirtual 80, 3) := by decide +kernel
theorem dX3_drownedSquares_30 : decode cX3_drownedSquares 30 = .ok (.ifCond .eq 30, 3) := by decide +kernel
theorem dX3_drownedSquares_33 : decode cX3_drownedSquares 33 = .ok (.aload_n 0, 1) := by decide +kernel
theorem dX3_drownedSquares_34 : decode cX3_drownedSquares 34 = .ok (.iload 4, 2) := by decide +kernel
theorem dX3_drownedSquares_36 : decode cX3_drownedSquares 36 = .ok (.iload_n 3, 1) := by decide +kernel
set_option maxRecDepth 20000 in
theorem ggX3_drownedSquares_X3_yardsOf : GoodIn wsX3_drownedSquares wsX3_yardsOf := goodIn_r _ [21, 22, 23, 24, 25, 26, 27, 28, 5, 29, 7, 30, 31, 32, 33, 34, 35, 36, 37, 38, 39, 40, 41, 42, 43, 44, 45, 46, 47, 48, 49] (by decide +kernel) (by decide +kernel)
set_option maxRecDepth 20000 in
theorem gX3_drownedSquares_X3_yardsOf : GoodIn wsX3_drownedSquares (wsV RX3 110 RX3 yX3_yardsOf wsX3_yardsOf) := goodIn_app (goodIn_of _ (by decide +kernel)) ggX3_drownedSquares_X3_yardsOf
theorem dX3_drownedSquares_37 : decode cX3_drownedSquares 37 = .ok (.invokevirtual 110, 3) := by decide +kernel
theorem dX3_drownedSquares_40 : decode cX3_drownedSquares 40 = .ok (.aload_n 0, 1) := by decide +kernel
theorem dX3_drownedSquares_41 : decode cX3_drownedSquares 41 = .ok (.getfield 40, 3) := by decide +kernel
theorem dX3_drownedSquares_44 : decode cX3_drownedSquares 44 = .ok (.if_icmp .gt 10, 3) := by decide +kernel
theorem dX3_drownedSquares_54 : decode cX3_drownedSquares 54 = .ok (.iinc 4 1, 3) := by decide +kernel
theorem dX3_drownedSquares_57 : decode cX3_drownedSquares 57 = .ok (.goto (-42), 3) := by decide +kernel
theorem dX3_drownedSquares_47 : decode cX3_drownedSquares 47 = .ok (.lload_n 1, 1) := by decide +kernel
theorem dX3_drownedSquares_48 : decode cX3_drownedSquares 48 = .ok (.lconst 1, 1) := by decide +kernel
theorem dX3_drownedSquares_49 : decode cX3_drownedSquares 49 = .ok (.iload 4, 2) := by decide +kernel
theorem dX3_drownedSquares_51 : decode cX3_drownedSquares 51 = .ok (.lshl, 1) := by decide +kernel
theorem dX3_drownedSquares_52 : decode cX3_drownedSquares 52 = .ok (.lor, 1) := by decide +kernel
theorem dX3_drownedSquares_53 : decode cX3_drownedSquares 53 = .ok (.lstore_n 1, 1) := by decide +kernel
set_option maxHeartbeats 4000000 in
set_option maxRecDepth 100000 in
theorem c_X3_everybody (l : Launch) (D : va_G) (cy : Nat → ClassId) (g : Nat) (wd hi dr wi : Int32) (he fo : Int64) (pe te re : Int32) (k0 k1 k2 k3 k4 k5 k6 : Nat) (sz : Nat)  : Met l yX3_everybody wsX3_everybody ({ frames := 0, cells := 0, slots := 0, locals := 0 }) (va_Pc [.ref g] (kPre D cy [(g, .inr (3, [.int wd, .int hi, .int dr, .int wi, .long he, .long fo, .int pe, .int te, .int re, .ref k0, .ref k1, .ref k2, .ref k3, .ref k4, .ref k5, .ref k6]))] sz)) (va_Qi (fun (r : Int32) (_ : Unit) => r = (1 : Int32) <<< (pe &&& 31) - 1) (fun _ _ => True) (fun q : Nat => sz ≤ q)) 0 0 (fun q : Nat => sz ≤ q) := by
  refine Met.ofW (cc := cX3_everybody) (maxL := 1) (ret := (some .int)) (by decide) rfl ?_
  intro p e s m args below meth c s₁ B hml hv
  obtain ⟨rfl, hsz, hP, hKA, hD0⟩ := hv
  have hx := B.exec
  have hb := B.bytes
  have hr := B.returns
  have hts := atoms_spec (ws := wsX3_everybody) B.pre
  have hown : s.vm.findClass RX3 = some m.cls := findClass_of_methodNamed B.named
  have hlocks := B.notSynchronized
  subst hsz
  have hK := hKA.1
  have hD := hD0
  generalize hAe : (fun q : Nat => s.heap.size ≤ q) = A
  have hA : ∀ q : Nat, s.heap.size ≤ q → A q := fun q h => by rw [← hAe]; exact h
  have hS : va_S A s.heap s.heap [] := va_S.rf
  have hP : va_P D vwCl [(g, .inr (3, [.int wd, .int hi, .int dr, .int wi, .long he, .long fo, .int pe, .int te, .int re, .ref k0, .ref k1, .ref k2, .ref k3, .ref k4, .ref k5, .ref k6]))] s.heap := hP
  have hl := lv_entry ([.ref g]) (n := 1) (Nat.le_of_ble_eq_true rfl)
  rw [lg_entry_eq]
  generalize (lg_sl ([.ref g]) ++ List.replicate (1 - (lg_sl ([.ref g])).length) Slot.unset).toArray = ls at hl ⊢
  have hl : lv_has ls 1 [(0, .ref g)] := hl
  have z0_ := hts (.fieldLink RX3 53 "HeardSeen$Garden" "people" "I") (by decide +kernel)
  have zi3_ : ∀ w ∈ u_ws RX3 TX3 16, w ∈ wsX3_everybody := by decide +kernel
  refine lv_iconst (v := 1) hx hb dX3_everybody_0 (by decide) ?_
  refine lv_aload_n hx hb dX3_everybody_1 rfl (lv_at hl 0 rfl) ?_
  refine va_get (D := D) (ci := 3) (v := .int pe) (C := RX3) (T := TX3) (N := 16) hx hb hts zi3_ hown hK hP 0 rfl rfl 6 (by decide) z0_ (fun _ h9 => h9) rfl dX3_everybody_2 ?_
  refine lv_ishl hx hb dX3_everybody_5 ?_
  refine lv_iconst (v := 1) hx hb dX3_everybody_6 (by decide) ?_
  refine lv_isub hx hb dX3_everybody_7 ?_
  exact W.iret (v := (1 <<< (pe &&& 31)) - 1) hx hb hr (fun t ht hW => ⟨⟨(1 <<< (pe &&& 31)) - 1, (), rfl, rfl, trivial⟩, hS.F ht⟩) hS.2.2 dX3_everybody_8

set_option maxHeartbeats 4000000 in
set_option maxRecDepth 100000 in
theorem c0_isTaken (l : Launch) (D : va_G) (cy : Nat → ClassId) (g : Nat) (wd hi dr wi : Int32) (he fo : Int64) (k0 k1 k2 k3 k4 k5 k6 : Nat) (q : Int32) (sz : Nat)  : Met l yX3_isTaken wsX3_isTaken ({ frames := 0, cells := 0, slots := 0, locals := 0 }) (va_Pc [.ref g, .int q] (kPre D cy [(g, .inr (3, [.int wd, .int hi, .int dr, .int wi, .long he, .long fo, .int 0, .int 0, .int 0, .ref k0, .ref k1, .ref k2, .ref k3, .ref k4, .ref k5, .ref k6]))] sz)) (va_Qi (fun (r : Int32) (_ : Unit) => r = 0) (fun _ _ => True) (fun q : Nat => sz ≤ q)) 0 0 (fun q : Nat => sz ≤ q) := by
  refine Met.ofW (cc := cX3_isTaken) (maxL := 3) (ret := (some .boolean)) (by decide) rfl ?_
  intro p e s m args below meth c s₁ B hml hv
  obtain ⟨rfl, hsz, hP, hKA, hD0⟩ := hv
  have hx := B.exec
  have hb := B.bytes
  have hr := B.returns
  have hts := atoms_spec (ws := wsX3_isTaken) B.pre
  have hown : s.vm.findClass RX3 = some m.cls := findClass_of_methodNamed B.named
  have hlocks := B.notSynchronized
  subst hsz
  have hK := hKA.1
  have hD := hD0
  generalize hAe : (fun q : Nat => s.heap.size ≤ q) = A
  have hA : ∀ q : Nat, s.heap.size ≤ q → A q := fun q h => by rw [← hAe]; exact h
  have hS : va_S A s.heap s.heap [] := va_S.rf
  have hP : va_P D vwCl [(g, .inr (3, [.int wd, .int hi, .int dr, .int wi, .long he, .long fo, .int 0, .int 0, .int 0, .ref k0, .ref k1, .ref k2, .ref k3, .ref k4, .ref k5, .ref k6]))] s.heap := hP
  have hl := lv_entry ([.ref g, .int q]) (n := 3) (Nat.le_of_ble_eq_true rfl)
  rw [lg_entry_eq]
  generalize (lg_sl ([.ref g, .int q]) ++ List.replicate (3 - (lg_sl ([.ref g, .int q])).length) Slot.unset).toArray = ls at hl ⊢
  have hl : lv_has ls 3 [(0, .ref g), (1, .int q)] := hl
  have z0_ := hts (.fieldLink RX3 53 "HeardSeen$Garden" "people" "I") (by decide +kernel)
  have zi3_ : ∀ w ∈ u_ws RX3 TX3 16, w ∈ wsX3_isTaken := by decide +kernel
  refine lv_iconst (v := 0) hx hb dX3_isTaken_0 (by decide) ?_
  refine lv_istore_n (lv' := [(2, .int 0), (0, .ref g), (1, .int q)]) hx hb dX3_isTaken_1 rfl hl (by decide) rfl (fun ls hl => ?_)
  refine lv_iload_n hx hb dX3_isTaken_2 rfl (lv_at hl 0 rfl) ?_
  refine lv_aload_n hx hb dX3_isTaken_3 rfl (lv_at hl 1 rfl) ?_
  refine va_get (D := D) (ci := 3) (v := .int 0) (C := RX3) (T := TX3) (N := 16) hx hb hts zi3_ hown hK hP 0 rfl rfl 6 (by decide) z0_ (fun _ h9 => h9) rfl dX3_isTaken_4 ?_
  refine lv_icmp_ge (tgt := 33) hx hb dX3_isTaken_7 (by decide) (fun c1 => ?_) (fun c1 => absurd c1 (by decide))
  refine lv_iconst (v := 0) hx hb dX3_isTaken_33 (by decide) ?_
  exact W.zret (v := 0) hx hb hr rfl (fun t ht hW => ⟨⟨0, (), rfl, rfl, trivial⟩, hS.F ht⟩) hS.2.2 dX3_isTaken_34

set_option maxHeartbeats 4000000 in
set_option maxRecDepth 100000 in
theorem c0_isFree (l : Launch) (D : va_G) (cy : Nat → ClassId) (g : Nat) (wd hi dr wi : Int32) (he fo : Int64) (k0 k1 k2 k3 k4 k5 k6 : Nat) (q : Int32) (sz : Nat)  : Met l yX3_isFree wsX3_isFree ({ frames := 2, cells := 0, slots := 0, locals := 44 }) (va_Pc [.ref g, .int q] (kPre D cy [(g, .inr (3, [.int wd, .int hi, .int dr, .int wi, .long he, .long fo, .int 0, .int 0, .int 0, .ref k0, .ref k1, .ref k2, .ref k3, .ref k4, .ref k5, .ref k6]))] sz)) (va_Qi (fun (r : Int32) (_ : Unit) => (r = 1 ∧ ¬ he >>> (q.toInt64 &&& 63) &&& 1 = 1) ∨ (r = 0 ∧ he >>> (q.toInt64 &&& 63) &&& 1 = 1)) (fun _ _ => True) (fun q : Nat => sz ≤ q)) 0 0 (fun q : Nat => sz ≤ q) := by
  refine Met.ofW (cc := cX3_isFree) (maxL := 2) (ret := (some .boolean)) (by decide) rfl ?_
  intro p e s m args below meth c s₁ B hml hv
  obtain ⟨rfl, hsz, hP, hKA, hD0⟩ := hv
  have hx := B.exec
  have hb := B.bytes
  have hr := B.returns
  have hts := atoms_spec (ws := wsX3_isFree) B.pre
  have hown : s.vm.findClass RX3 = some m.cls := findClass_of_methodNamed B.named
  have hlocks := B.notSynchronized
  subst hsz
  have hK := hKA.1
  have hD := hD0
  generalize hAe : (fun q : Nat => s.heap.size ≤ q) = A
  have hA : ∀ q : Nat, s.heap.size ≤ q → A q := fun q h => by rw [← hAe]; exact h
  have hS : va_S A s.heap s.heap [] := va_S.rf
  have hP : va_P D vwCl [(g, .inr (3, [.int wd, .int hi, .int dr, .int wi, .long he, .long fo, .int 0, .int 0, .int 0, .ref k0, .ref k1, .ref k2, .ref k3, .ref k4, .ref k5, .ref k6]))] s.heap := hP
  have hl := lv_entry ([.ref g, .int q]) (n := 2) (Nat.le_of_ble_eq_true rfl)
  rw [lg_entry_eq]
  generalize (lg_sl ([.ref g, .int q]) ++ List.replicate (2 - (lg_sl ([.ref g, .int q])).length) Slot.unset).toArray = ls at hl ⊢
  have hl : lv_has ls 2 [(0, .ref g), (1, .int q)] := hl
  refine lv_aload_n hx hb dX3_isFree_0 rfl (lv_at hl 0 rfl) ?_
  refine lv_iconst (v := 0) hx hb dX3_isFree_1 (by decide) ?_
  refine lv_iload_n hx hb dX3_isFree_2 rfl (lv_at hl 1 rfl) ?_
  refine rd_i (va_runV (As := [.int 0, .int q]) (rest := []) ⟨hx, hb, hml, hown, hts⟩ (c_X3_has l D cy g wd hi dr wi he fo 0 0 0 k0 k1 k2 k3 k4 k5 k6 0 q _) (cwV 2 hts gX3_isFree_X3_has rfl rfl rfl (by decide +kernel) ⟨Nat.le_of_ble_eq_true rfl, Nat.le_of_ble_eq_true rfl⟩) (pV (ci := 3) (k := 0) hKA (hP.sub (ws' := [(g, .inr (3, [.int wd, .int hi, .int dr, .int wi, .long he, .long fo, .int 0, .int 0, .int 0, .ref k0, .ref k1, .ref k2, .ref k3, .ref k4, .ref k5, .ref k6]))]) [0] rfl) (hD.sub (ws' := [(g, .inr (3, [.int wd, .int hi, .int dr, .int wi, .long he, .long fo, .int 0, .int 0, .int 0, .ref k0, .ref k1, .ref k2, .ref k3, .ref k4, .ref k5, .ref k6]))]) [0] (by decide) rfl) rfl rfl) rfl rfl hl.1 rfl (lv_room (Nat.le_of_ble_eq_true rfl)) dX3_isFree_3 ⟨Nat.le_of_ble_eq_true rfl, Nat.le_of_ble_eq_true rfl⟩) hP hS hA (fun r1 H locs hwr1 hP hS => ?_)
  rcases hwr1 with ⟨rfl, hhr1⟩ | ⟨rfl, hhr1⟩
  · skip
    refine lv_if_ne (tgt := 21) hx hb dX3_isFree_6 (by decide) (fun c2 => ?_) (fun c2 => absurd c2 (by decide))
    refine lv_iconst (v := 0) hx hb dX3_isFree_21 (by decide) ?_
    exact W.zret (v := 0) hx hb hr rfl (fun t ht hW => ⟨⟨0, (), rfl, (by first | exact Or.inl ⟨rfl, by assumption⟩ | exact Or.inr ⟨rfl, by assumption⟩), trivial⟩, hS.F ht⟩) hS.2.2 dX3_isFree_22
  · skip
    refine lv_if_ne (tgt := 21) hx hb dX3_isFree_6 (by decide) (fun c3 => absurd c3 (by decide)) (fun c3 => ?_)
    refine lv_aload_n hx hb dX3_isFree_9 rfl (lv_at hl 0 rfl) ?_
    refine lv_iload_n hx hb dX3_isFree_10 rfl (lv_at hl 1 rfl) ?_
    refine rd_i (va_runV (As := [.int q]) (rest := []) ⟨hx, hb, hml, hown, hts⟩ (c0_isTaken l D cy g wd hi dr wi he fo k0 k1 k2 k3 k4 k5 k6 q _) (cwV 1 hts gX3_isFree_X3_isTaken rfl rfl rfl (by decide +kernel) ⟨Nat.le_of_ble_eq_true rfl, Nat.le_of_ble_eq_true rfl⟩) (pV (ci := 3) (k := 0) hKA (hP.sub (ws' := [(g, .inr (3, [.int wd, .int hi, .int dr, .int wi, .long he, .long fo, .int 0, .int 0, .int 0, .ref k0, .ref k1, .ref k2, .ref k3, .ref k4, .ref k5, .ref k6]))]) [0] rfl) (hD.sub (ws' := [(g, .inr (3, [.int wd, .int hi, .int dr, .int wi, .long he, .long fo, .int 0, .int 0, .int 0, .ref k0, .ref k1, .ref k2, .ref k3, .ref k4, .ref k5, .ref k6]))]) [0] (by decide) rfl) rfl rfl) rfl rfl hl.1 rfl (lv_room (Nat.le_of_ble_eq_true rfl)) dX3_isFree_11 ⟨Nat.le_of_ble_eq_true rfl, Nat.le_of_ble_eq_true rfl⟩) hP hS hA (fun r4 H locs hwr4 hP hS => ?_)
    rcases hwr4 with rfl
    · skip
      refine lv_if_ne (tgt := 21) hx hb dX3_isFree_14 (by decide) (fun c5 => absurd c5 (by decide)) (fun c5 => ?_)
      refine lv_iconst (v := 1) hx hb dX3_isFree_17 (by decide) ?_
      refine lv_goto (tgt := 22) hx hb dX3_isFree_18 (by decide) ?_
      exact W.zret (v := 1) hx hb hr rfl (fun t ht hW => ⟨⟨1, (), rfl, (by first | exact Or.inl ⟨rfl, by assumption⟩ | exact Or.inr ⟨rfl, by assumption⟩), trivial⟩, hS.F ht⟩) hS.2.2 dX3_isFree_22

set_option maxHeartbeats 4000000 in
set_option maxRecDepth 100000 in
theorem c_X3_turn (l : Launch) (D : va_G) (cy : Nat → ClassId) (g : Nat) (wd hi dr wi : Int32) (he fo : Int64) (pe te re : Int32) (k0 k1 k2 k3 k4 k5 k6 : Nat) (what q : Int32) (sz : Nat)  : Met l yX3_turn wsX3_turn ({ frames := 0, cells := 0, slots := 0, locals := 0 }) (va_Pc [.ref g, .int what, .int q] (kPre D cy [(g, .inr (3, [.int wd, .int hi, .int dr, .int wi, .long he, .long fo, .int pe, .int te, .int re, .ref k0, .ref k1, .ref k2, .ref k3, .ref k4, .ref k5, .ref k6]))] sz)) (va_Qv (fun (u : Int64 × Int64) => u.1 = (if what = 0 then he ^^^ (1 : Int64) <<< (q.toInt64 &&& 63) else he) ∧ u.2 = (if what = 0 then fo else fo ^^^ (1 : Int64) <<< (q.toInt64 &&& 63))) (fun (u : Int64 × Int64) t => va_P D vwCl ([(g, .inr (3, [.int wd, .int hi, .int dr, .int wi, .long u.1, .long u.2, .int pe, .int te, .int re, .ref k0, .ref k1, .ref k2, .ref k3, .ref k4, .ref k5, .ref k6]))]) t.heap ∧ va_D (va_A [(g, .inr (3, [.int wd, .int hi, .int dr, .int wi, .long he, .long fo, .int pe, .int te, .int re, .ref k0, .ref k1, .ref k2, .ref k3, .ref k4, .ref k5, .ref k6]))] sz) ([(g, .inr (3, [.int wd, .int hi, .int dr, .int wi, .long u.1, .long u.2, .int pe, .int te, .int re, .ref k0, .ref k1, .ref k2, .ref k3, .ref k4, .ref k5, .ref k6]))])) (va_A [(g, .inr (3, [.int wd, .int hi, .int dr, .int wi, .long he, .long fo, .int pe, .int te, .int re, .ref k0, .ref k1, .ref k2, .ref k3, .ref k4, .ref k5, .ref k6]))] sz)) 0 0 (va_A [(g, .inr (3, [.int wd, .int hi, .int dr, .int wi, .long he, .long fo, .int pe, .int te, .int re, .ref k0, .ref k1, .ref k2, .ref k3, .ref k4, .ref k5, .ref k6]))] sz) := by
  refine Met.ofW (cc := cX3_turn) (maxL := 3) (ret := none) (by decide) rfl ?_
  intro p e s m args below meth c s₁ B hml hv
  obtain ⟨rfl, hsz, hP, hKA, hD0⟩ := hv
  have hx := B.exec
  have hb := B.bytes
  have hr := B.returns
  have hts := atoms_spec (ws := wsX3_turn) B.pre
  have hown : s.vm.findClass RX3 = some m.cls := findClass_of_methodNamed B.named
  have hlocks := B.notSynchronized
  subst hsz
  have hK := hKA.1
  have hD := hD0.self (sz := s.heap.size)
  generalize hAe : va_A [(g, .inr (3, [.int wd, .int hi, .int dr, .int wi, .long he, .long fo, .int pe, .int te, .int re, .ref k0, .ref k1, .ref k2, .ref k3, .ref k4, .ref k5, .ref k6]))] s.heap.size = A at hD ⊢
  have hA : ∀ q : Nat, s.heap.size ≤ q → A q := fun q h => by rw [← hAe]; exact Or.inr h
  have hS : va_S A s.heap s.heap [] := va_S.rf
  have hP : va_P D vwCl [(g, .inr (3, [.int wd, .int hi, .int dr, .int wi, .long he, .long fo, .int pe, .int te, .int re, .ref k0, .ref k1, .ref k2, .ref k3, .ref k4, .ref k5, .ref k6]))] s.heap := hP
  have hl := lv_entry ([.ref g, .int what, .int q]) (n := 3) (Nat.le_of_ble_eq_true rfl)
  rw [lg_entry_eq]
  generalize (lg_sl ([.ref g, .int what, .int q]) ++ List.replicate (3 - (lg_sl ([.ref g, .int what, .int q])).length) Slot.unset).toArray = ls at hl ⊢
  have hl : lv_has ls 3 [(0, .ref g), (1, .int what), (2, .int q)] := hl
  have z0_ := hts (.fieldLink RX3 50 "HeardSeen$Garden" "fountains" "J") (by decide +kernel)
  have zi3_ : ∀ w ∈ u_ws RX3 TX3 16, w ∈ wsX3_turn := by decide +kernel
  have z2_ := hts (.fieldLink RX3 46 "HeardSeen$Garden" "hedges" "J") (by decide +kernel)
  refine lv_iload_n hx hb dX3_turn_0 rfl (lv_at hl 1 rfl) ?_
  refine lv_if_ne (tgt := 19) hx hb dX3_turn_1 (by decide) (fun c1 => ?_) (fun c1 => ?_)
  · skip
    refine lv_aload_n hx hb dX3_turn_19 rfl (lv_at hl 0 rfl) ?_
    refine lv_dup hx hb dX3_turn_20 rfl ?_
    refine va_get (D := D) (ci := 3) (v := .long fo) (C := RX3) (T := TX3) (N := 16) hx hb hts zi3_ hown hK hP 0 rfl rfl 5 (by decide) z0_ (fun _ h9 => h9) rfl dX3_turn_21 ?_
    refine lv_lconst (v := 1) hx hb dX3_turn_24 (by decide) ?_
    refine lv_iload_n hx hb dX3_turn_25 rfl (lv_at hl 2 rfl) ?_
    refine lv_lshl hx hb dX3_turn_26 rfl ?_
    refine lv_lxor hx hb dX3_turn_27 ?_
    refine lv_topl (fun x2 ex2 => ?_)
    refine va_put (D := D) (ci := 3) (v := .long x2) (ty := .long) (C := RX3) (T := TX3) (N := 16) hx hb hts zi3_ tyX3 tyX3_ok nmX3 hown hK hP hD hS 0 rfl rfl 5 (by decide) z0_ (fun _ h9 => h9) rfl (by decide +kernel) rfl rfl (Nat.le_of_ble_eq_true rfl) dX3_turn_28 (fun H locs hP hD hS => ?_)
    have hP : va_P D vwCl [(g, .inr (3, [.int wd, .int hi, .int dr, .int wi, .long he, .long x2, .int pe, .int te, .int re, .ref k0, .ref k1, .ref k2, .ref k3, .ref k4, .ref k5, .ref k6]))] H := hP
    have hD : va_D A [(g, .inr (3, [.int wd, .int hi, .int dr, .int wi, .long he, .long x2, .int pe, .int te, .int re, .ref k0, .ref k1, .ref k2, .ref k3, .ref k4, .ref k5, .ref k6]))] := hD
    have hP9 := hP.sub (ws' := [(g, .inr (3, [.int wd, .int hi, .int dr, .int wi, .long he, .long x2, .int pe, .int te, .int re, .ref k0, .ref k1, .ref k2, .ref k3, .ref k4, .ref k5, .ref k6]))]) [0] rfl
    have hD9 := hD.sub (ws' := [(g, .inr (3, [.int wd, .int hi, .int dr, .int wi, .long he, .long x2, .int pe, .int te, .int re, .ref k0, .ref k1, .ref k2, .ref k3, .ref k4, .ref k5, .ref k6]))]) [0] (by decide) rfl
    exact W.vret hx hb hr (fun t ht hW => ⟨⟨(he, x2), rfl, (by simp [*]), by rw [ht]; exact hP9, hD9⟩, hS.F ht⟩) hS.2.2 dX3_turn_31
  · skip
    refine lv_aload_n hx hb dX3_turn_4 rfl (lv_at hl 0 rfl) ?_
    refine lv_dup hx hb dX3_turn_5 rfl ?_
    refine va_get (D := D) (ci := 3) (v := .long he) (C := RX3) (T := TX3) (N := 16) hx hb hts zi3_ hown hK hP 0 rfl rfl 4 (by decide) z2_ (fun _ h9 => h9) rfl dX3_turn_6 ?_
    refine lv_lconst (v := 1) hx hb dX3_turn_9 (by decide) ?_
    refine lv_iload_n hx hb dX3_turn_10 rfl (lv_at hl 2 rfl) ?_
    refine lv_lshl hx hb dX3_turn_11 rfl ?_
    refine lv_lxor hx hb dX3_turn_12 ?_
    refine lv_topl (fun x3 ex3 => ?_)
    refine va_put (D := D) (ci := 3) (v := .long x3) (ty := .long) (C := RX3) (T := TX3) (N := 16) hx hb hts zi3_ tyX3 tyX3_ok nmX3 hown hK hP hD hS 0 rfl rfl 4 (by decide) z2_ (fun _ h9 => h9) rfl (by decide +kernel) rfl rfl (Nat.le_of_ble_eq_true rfl) dX3_turn_13 (fun H locs hP hD hS => ?_)
    have hP : va_P D vwCl [(g, .inr (3, [.int wd, .int hi, .int dr, .int wi, .long x3, .long fo, .int pe, .int te, .int re, .ref k0, .ref k1, .ref k2, .ref k3, .ref k4, .ref k5, .ref k6]))] H := hP
    have hD : va_D A [(g, .inr (3, [.int wd, .int hi, .int dr, .int wi, .long x3, .long fo, .int pe, .int te, .int re, .ref k0, .ref k1, .ref k2, .ref k3, .ref k4, .ref k5, .ref k6]))] := hD
    refine lv_goto (tgt := 31) hx hb dX3_turn_16 (by decide) ?_
    have hP9 := hP.sub (ws' := [(g, .inr (3, [.int wd, .int hi, .int dr, .int wi, .long x3, .long fo, .int pe, .int te, .int re, .ref k0, .ref k1, .ref k2, .ref k3, .ref k4, .ref k5, .ref k6]))]) [0] rfl
    have hD9 := hD.sub (ws' := [(g, .inr (3, [.int wd, .int hi, .int dr, .int wi, .long x3, .long fo, .int pe, .int te, .int re, .ref k0, .ref k1, .ref k2, .ref k3, .ref k4, .ref k5, .ref k6]))]) [0] (by decide) rfl
    exact W.vret hx hb hr (fun t ht hW => ⟨⟨(x3, fo), rfl, (by simp [*]), by rw [ht]; exact hP9, hD9⟩, hS.F ht⟩) hS.2.2 dX3_turn_31

set_option maxHeartbeats 4000000 in
set_option maxRecDepth 100000 in
theorem c0_addPerson (l : Launch) (D : va_G) (cy : Nat → ClassId) (g : Nat) (wd hi dr wi : Int32) (he fo : Int64) (k0 k1 k2 k3 k4 k5 k6 : Nat) (f0 f1 f2 : Nat → Int32) (kind q voice : Int32) (sz : Nat)  : Met l yX3_addPerson wsX3_addPerson ({ frames := 0, cells := 0, slots := 0, locals := 0 }) (va_Pc [.ref g, .int kind, .int q, .int voice] (kPre D cy [(g, .inr (3, [.int wd, .int hi, .int dr, .int wi, .long he, .long fo, .int 0, .int 0, .int 0, .ref k0, .ref k1, .ref k2, .ref k3, .ref k4, .ref k5, .ref k6])), (k0, .inl (cy 1, 5, .inl f0)), (k1, .inl (cy 1, 5, .inl f1)), (k2, .inl (cy 1, 5, .inl f2))] sz)) (va_Qi (fun (r : Int32) (_ : Unit) => r = 0) (fun (u : Unit) t => va_P D vwCl ([]) t.heap ∧ va_D (va_A [(g, .inr (3, [.int wd, .int hi, .int dr, .int wi, .long he, .long fo, .int 0, .int 0, .int 0, .ref k0, .ref k1, .ref k2, .ref k3, .ref k4, .ref k5, .ref k6])), (k0, .inl (cy 1, 5, .inl f0)), (k1, .inl (cy 1, 5, .inl f1)), (k2, .inl (cy 1, 5, .inl f2))] sz) ([])) (va_A [(g, .inr (3, [.int wd, .int hi, .int dr, .int wi, .long he, .long fo, .int 0, .int 0, .int 0, .ref k0, .ref k1, .ref k2, .ref k3, .ref k4, .ref k5, .ref k6])), (k0, .inl (cy 1, 5, .inl f0)), (k1, .inl (cy 1, 5, .inl f1)), (k2, .inl (cy 1, 5, .inl f2))] sz)) 0 0 (va_A [(g, .inr (3, [.int wd, .int hi, .int dr, .int wi, .long he, .long fo, .int 0, .int 0, .int 0, .ref k0, .ref k1, .ref k2, .ref k3, .ref k4, .ref k5, .ref k6])), (k0, .inl (cy 1, 5, .inl f0)), (k1, .inl (cy 1, 5, .inl f1)), (k2, .inl (cy 1, 5, .inl f2))] sz) := by
  refine Met.ofW (cc := cX3_addPerson) (maxL := 4) (ret := (some .int)) (by decide) rfl ?_
  intro p e s m args below meth c s₁ B hml hv
  obtain ⟨rfl, hsz, hP, hKA, hD0⟩ := hv
  have hx := B.exec
  have hb := B.bytes
  have hr := B.returns
  have hts := atoms_spec (ws := wsX3_addPerson) B.pre
  have hown : s.vm.findClass RX3 = some m.cls := findClass_of_methodNamed B.named
  have hlocks := B.notSynchronized
  subst hsz
  have hK := hKA.1
  have hD := hD0.self (sz := s.heap.size)
  generalize hAe : va_A [(g, .inr (3, [.int wd, .int hi, .int dr, .int wi, .long he, .long fo, .int 0, .int 0, .int 0, .ref k0, .ref k1, .ref k2, .ref k3, .ref k4, .ref k5, .ref k6])), (k0, .inl (cy 1, 5, .inl f0)), (k1, .inl (cy 1, 5, .inl f1)), (k2, .inl (cy 1, 5, .inl f2))] s.heap.size = A at hD ⊢
  have hA : ∀ q : Nat, s.heap.size ≤ q → A q := fun q h => by rw [← hAe]; exact Or.inr h
  have hS : va_S A s.heap s.heap [] := va_S.rf
  have hP : va_P D vwCl [(g, .inr (3, [.int wd, .int hi, .int dr, .int wi, .long he, .long fo, .int 0, .int 0, .int 0, .ref k0, .ref k1, .ref k2, .ref k3, .ref k4, .ref k5, .ref k6])), (k0, .inl (cy 1, 5, .inl f0)), (k1, .inl (cy 1, 5, .inl f1)), (k2, .inl (cy 1, 5, .inl f2))] s.heap := hP
  have hl := lv_entry ([.ref g, .int kind, .int q, .int voice]) (n := 4) (Nat.le_of_ble_eq_true rfl)
  rw [lg_entry_eq]
  generalize (lg_sl ([.ref g, .int kind, .int q, .int voice]) ++ List.replicate (4 - (lg_sl ([.ref g, .int kind, .int q, .int voice])).length) Slot.unset).toArray = ls at hl ⊢
  have hl : lv_has ls 4 [(0, .ref g), (1, .int kind), (2, .int q), (3, .int voice)] := hl
  have z0_ := hts (.fieldLink RX3 53 "HeardSeen$Garden" "people" "I") (by decide +kernel)
  have zi3_ : ∀ w ∈ u_ws RX3 TX3 16, w ∈ wsX3_addPerson := by decide +kernel
  have z2_ := hts (.fieldLink RX3 9 "HeardSeen$Garden" "kinds" "[I") (by decide +kernel)
  have z3_ := hts (.fieldLink RX3 15 "HeardSeen$Garden" "squares" "[I") (by decide +kernel)
  have z4_ := hts (.fieldLink RX3 18 "HeardSeen$Garden" "voices" "[I") (by decide +kernel)
  refine lv_aload_n hx hb dX3_addPerson_0 rfl (lv_at hl 0 rfl) ?_
  refine va_get (D := D) (ci := 3) (v := .int 0) (C := RX3) (T := TX3) (N := 16) hx hb hts zi3_ hown hK hP 0 rfl rfl 6 (by decide) z0_ (fun _ h9 => h9) rfl dX3_addPerson_1 ?_
  refine lv_if_lt (tgt := 15) hx hb dX3_addPerson_4 (by decide) (fun c1 => absurd c1 (by decide)) (fun c1 => ?_)
  refine lv_aload_n hx hb dX3_addPerson_7 rfl (lv_at hl 0 rfl) ?_
  refine va_get (D := D) (ci := 3) (v := .int 0) (C := RX3) (T := TX3) (N := 16) hx hb hts zi3_ hown hK hP 0 rfl rfl 6 (by decide) z0_ (fun _ h9 => h9) rfl dX3_addPerson_8 ?_
  refine lv_iconst (v := 5) hx hb dX3_addPerson_11 (by decide) ?_
  refine lv_icmp_lt (tgt := 17) hx hb dX3_addPerson_12 (by decide) (fun c2 => ?_) (fun c2 => absurd c2 (by decide))
  refine lv_aload_n hx hb dX3_addPerson_17 rfl (lv_at hl 0 rfl) ?_
  refine va_get (D := D) (ci := 3) (v := .ref k0) (C := RX3) (T := TX3) (N := 16) hx hb hts zi3_ hown hK hP 0 rfl rfl 9 (by decide) z2_ (fun _ h9 => h9) rfl dX3_addPerson_18 ?_
  refine lv_aload_n hx hb dX3_addPerson_21 rfl (lv_at hl 0 rfl) ?_
  refine va_get (D := D) (ci := 3) (v := .int 0) (C := RX3) (T := TX3) (N := 16) hx hb hts zi3_ hown hK hP 0 rfl rfl 6 (by decide) z0_ (fun _ h9 => h9) rfl dX3_addPerson_22 ?_
  refine lv_iload_n hx hb dX3_addPerson_25 rfl (lv_at hl 1 rfl) ?_
  refine my_iast hx hb hK hP hD hS 1 1 rfl rfl (by rw [vp_in_iff]; decide +kernel) (k := 0) (by decide +kernel) dX3_addPerson_26 (fun H locs hP hD hS => ?_)
  have hP : va_P D vwCl [(g, .inr (3, [.int wd, .int hi, .int dr, .int wi, .long he, .long fo, .int 0, .int 0, .int 0, .ref k0, .ref k1, .ref k2, .ref k3, .ref k4, .ref k5, .ref k6])), (k0, .inl (cy 1, 5, .inl (upd f0 0 kind))), (k1, .inl (cy 1, 5, .inl f1)), (k2, .inl (cy 1, 5, .inl f2))] H := hP
  have hD : va_D A [(g, .inr (3, [.int wd, .int hi, .int dr, .int wi, .long he, .long fo, .int 0, .int 0, .int 0, .ref k0, .ref k1, .ref k2, .ref k3, .ref k4, .ref k5, .ref k6])), (k0, .inl (cy 1, 5, .inl (upd f0 0 kind))), (k1, .inl (cy 1, 5, .inl f1)), (k2, .inl (cy 1, 5, .inl f2))] := hD
  refine lv_aload_n hx hb dX3_addPerson_27 rfl (lv_at hl 0 rfl) ?_
  refine va_get (D := D) (ci := 3) (v := .ref k1) (C := RX3) (T := TX3) (N := 16) hx hb hts zi3_ hown hK hP 0 rfl rfl 10 (by decide) z3_ (fun _ h9 => h9) rfl dX3_addPerson_28 ?_
  refine lv_aload_n hx hb dX3_addPerson_31 rfl (lv_at hl 0 rfl) ?_
  refine va_get (D := D) (ci := 3) (v := .int 0) (C := RX3) (T := TX3) (N := 16) hx hb hts zi3_ hown hK hP 0 rfl rfl 6 (by decide) z0_ (fun _ h9 => h9) rfl dX3_addPerson_32 ?_
  refine lv_iload_n hx hb dX3_addPerson_35 rfl (lv_at hl 2 rfl) ?_
  refine my_iast hx hb hK hP hD hS 2 1 rfl rfl (by rw [vp_in_iff]; decide +kernel) (k := 0) (by decide +kernel) dX3_addPerson_36 (fun H locs hP hD hS => ?_)
  have hP : va_P D vwCl [(g, .inr (3, [.int wd, .int hi, .int dr, .int wi, .long he, .long fo, .int 0, .int 0, .int 0, .ref k0, .ref k1, .ref k2, .ref k3, .ref k4, .ref k5, .ref k6])), (k0, .inl (cy 1, 5, .inl (upd f0 0 kind))), (k1, .inl (cy 1, 5, .inl (upd f1 0 q))), (k2, .inl (cy 1, 5, .inl f2))] H := hP
  have hD : va_D A [(g, .inr (3, [.int wd, .int hi, .int dr, .int wi, .long he, .long fo, .int 0, .int 0, .int 0, .ref k0, .ref k1, .ref k2, .ref k3, .ref k4, .ref k5, .ref k6])), (k0, .inl (cy 1, 5, .inl (upd f0 0 kind))), (k1, .inl (cy 1, 5, .inl (upd f1 0 q))), (k2, .inl (cy 1, 5, .inl f2))] := hD
  refine lv_aload_n hx hb dX3_addPerson_37 rfl (lv_at hl 0 rfl) ?_
  refine va_get (D := D) (ci := 3) (v := .ref k2) (C := RX3) (T := TX3) (N := 16) hx hb hts zi3_ hown hK hP 0 rfl rfl 11 (by decide) z4_ (fun _ h9 => h9) rfl dX3_addPerson_38 ?_
  refine lv_aload_n hx hb dX3_addPerson_41 rfl (lv_at hl 0 rfl) ?_
  refine va_get (D := D) (ci := 3) (v := .int 0) (C := RX3) (T := TX3) (N := 16) hx hb hts zi3_ hown hK hP 0 rfl rfl 6 (by decide) z0_ (fun _ h9 => h9) rfl dX3_addPerson_42 ?_
  refine lv_iload_n hx hb dX3_addPerson_45 rfl (lv_at hl 3 rfl) ?_
  refine my_iast hx hb hK hP hD hS 3 1 rfl rfl (by rw [vp_in_iff]; decide +kernel) (k := 0) (by decide +kernel) dX3_addPerson_46 (fun H locs hP hD hS => ?_)
  have hP : va_P D vwCl [(g, .inr (3, [.int wd, .int hi, .int dr, .int wi, .long he, .long fo, .int 0, .int 0, .int 0, .ref k0, .ref k1, .ref k2, .ref k3, .ref k4, .ref k5, .ref k6])), (k0, .inl (cy 1, 5, .inl (upd f0 0 kind))), (k1, .inl (cy 1, 5, .inl (upd f1 0 q))), (k2, .inl (cy 1, 5, .inl (upd f2 0 voice)))] H := hP
  have hD : va_D A [(g, .inr (3, [.int wd, .int hi, .int dr, .int wi, .long he, .long fo, .int 0, .int 0, .int 0, .ref k0, .ref k1, .ref k2, .ref k3, .ref k4, .ref k5, .ref k6])), (k0, .inl (cy 1, 5, .inl (upd f0 0 kind))), (k1, .inl (cy 1, 5, .inl (upd f1 0 q))), (k2, .inl (cy 1, 5, .inl (upd f2 0 voice)))] := hD
  refine lv_aload_n hx hb dX3_addPerson_47 rfl (lv_at hl 0 rfl) ?_
  refine lv_dup hx hb dX3_addPerson_48 rfl ?_
  refine va_get (D := D) (ci := 3) (v := .int 0) (C := RX3) (T := TX3) (N := 16) hx hb hts zi3_ hown hK hP 0 rfl rfl 6 (by decide) z0_ (fun _ h9 => h9) rfl dX3_addPerson_49 ?_
  refine lv_dup_x1 hx hb dX3_addPerson_52 rfl rfl ?_
  refine lv_iconst (v := 1) hx hb dX3_addPerson_53 (by decide) ?_
  refine lv_iadd hx hb dX3_addPerson_54 ?_
  refine lv_topi (fun x3 ex3 => ?_)
  obtain rfl : x3 = 1 := by rw [ex3]; decide +kernel
  refine va_put (D := D) (ci := 3) (v := .int 1) (ty := .int) (C := RX3) (T := TX3) (N := 16) hx hb hts zi3_ tyX3 tyX3_ok nmX3 hown hK hP hD hS 0 rfl rfl 6 (by decide) z0_ (fun _ h9 => h9) rfl (by decide +kernel) rfl rfl (Nat.le_of_ble_eq_true rfl) dX3_addPerson_55 (fun H locs hP hD hS => ?_)
  have hP : va_P D vwCl [(g, .inr (3, [.int wd, .int hi, .int dr, .int wi, .long he, .long fo, .int 1, .int 0, .int 0, .ref k0, .ref k1, .ref k2, .ref k3, .ref k4, .ref k5, .ref k6])), (k0, .inl (cy 1, 5, .inl (upd f0 0 kind))), (k1, .inl (cy 1, 5, .inl (upd f1 0 q))), (k2, .inl (cy 1, 5, .inl (upd f2 0 voice)))] H := hP
  have hD : va_D A [(g, .inr (3, [.int wd, .int hi, .int dr, .int wi, .long he, .long fo, .int 1, .int 0, .int 0, .ref k0, .ref k1, .ref k2, .ref k3, .ref k4, .ref k5, .ref k6])), (k0, .inl (cy 1, 5, .inl (upd f0 0 kind))), (k1, .inl (cy 1, 5, .inl (upd f1 0 q))), (k2, .inl (cy 1, 5, .inl (upd f2 0 voice)))] := hD
  have hP9 := hP.sub (ws' := []) [] rfl
  have hD9 := hD.sub (ws' := []) [] (by decide) rfl
  exact W.iret (v := 0) hx hb hr (fun t ht hW => ⟨⟨0, (), rfl, rfl, by rw [ht]; exact hP9, hD9⟩, hS.F ht⟩) hS.2.2 dX3_addPerson_58

set_option maxHeartbeats 4000000 in
set_option maxRecDepth 100000 in
theorem c_X3_xOf (l : Launch) (D : va_G) (cy : Nat → ClassId) (g : Nat) (wd hi dr wi : Int32) (he fo : Int64) (pe te re : Int32) (k0 k1 k2 k3 k4 k5 k6 : Nat) (q : Int32) (sz : Nat)  : Met l yX3_xOf wsX3_xOf ({ frames := 0, cells := 0, slots := 0, locals := 0 }) (va_Pc [.ref g, .int q] (kPre D cy [(g, .inr (3, [.int wd, .int hi, .int dr, .int wi, .long he, .long fo, .int pe, .int te, .int re, .ref k0, .ref k1, .ref k2, .ref k3, .ref k4, .ref k5, .ref k6]))] sz)) (va_Qi (fun (r : Int32) (_ : Unit) => (0 < wd → r = q - q / wd * wd) ∧ (¬ 0 < wd → r = 0)) (fun _ _ => True) (fun q : Nat => sz ≤ q)) 0 0 (fun q : Nat => sz ≤ q) := by
  refine Met.ofW (cc := cX3_xOf) (maxL := 2) (ret := (some .int)) (by decide) rfl ?_
  intro p e s m args below meth c s₁ B hml hv
  obtain ⟨rfl, hsz, hP, hKA, hD0⟩ := hv
  have hx := B.exec
  have hb := B.bytes
  have hr := B.returns
  have hts := atoms_spec (ws := wsX3_xOf) B.pre
  have hown : s.vm.findClass RX3 = some m.cls := findClass_of_methodNamed B.named
  have hlocks := B.notSynchronized
  subst hsz
  have hK := hKA.1
  have hD := hD0
  generalize hAe : (fun q : Nat => s.heap.size ≤ q) = A
  have hA : ∀ q : Nat, s.heap.size ≤ q → A q := fun q h => by rw [← hAe]; exact h
  have hS : va_S A s.heap s.heap [] := va_S.rf
  have hP : va_P D vwCl [(g, .inr (3, [.int wd, .int hi, .int dr, .int wi, .long he, .long fo, .int pe, .int te, .int re, .ref k0, .ref k1, .ref k2, .ref k3, .ref k4, .ref k5, .ref k6]))] s.heap := hP
  have hl := lv_entry ([.ref g, .int q]) (n := 2) (Nat.le_of_ble_eq_true rfl)
  rw [lg_entry_eq]
  generalize (lg_sl ([.ref g, .int q]) ++ List.replicate (2 - (lg_sl ([.ref g, .int q])).length) Slot.unset).toArray = ls at hl ⊢
  have hl : lv_has ls 2 [(0, .ref g), (1, .int q)] := hl
  have z0_ := hts (.fieldLink RX3 33 "HeardSeen$Garden" "wide" "I") (by decide +kernel)
  have zi3_ : ∀ w ∈ u_ws RX3 TX3 16, w ∈ wsX3_xOf := by decide +kernel
  refine lv_aload_n hx hb dX3_xOf_0 rfl (lv_at hl 0 rfl) ?_
  refine va_get (D := D) (ci := 3) (v := .int wd) (C := RX3) (T := TX3) (N := 16) hx hb hts zi3_ hown hK hP 0 rfl rfl 0 (by decide) z0_ (fun _ h9 => h9) rfl dX3_xOf_1 ?_
  refine lv_if_le (tgt := 16) hx hb dX3_xOf_4 (by decide) (fun c1 => ?_) (fun c1 => ?_)
  · skip
    refine lv_iconst (v := 0) hx hb dX3_xOf_16 (by decide) ?_
    exact W.iret (v := 0) hx hb hr (fun t ht hW => ⟨⟨0, (), rfl, (by first | exact ⟨fun _ => rfl, fun h => absurd (Int32.not_le.mp (by assumption)) h⟩ | exact ⟨fun h => absurd h (Int32.not_lt.mpr (by assumption)), fun _ => rfl⟩), trivial⟩, hS.F ht⟩) hS.2.2 dX3_xOf_17
  · skip
    refine lv_iload_n hx hb dX3_xOf_7 rfl (lv_at hl 1 rfl) ?_
    refine lv_aload_n hx hb dX3_xOf_8 rfl (lv_at hl 0 rfl) ?_
    refine va_get (D := D) (ci := 3) (v := .int wd) (C := RX3) (T := TX3) (N := 16) hx hb hts zi3_ hown hK hP 0 rfl rfl 0 (by decide) z0_ (fun _ h9 => h9) rfl dX3_xOf_9 ?_
    refine lv_irem hx hb dX3_xOf_12 (fun hz => absurd (Int32.not_le.mp (by assumption)) (by rw [hz]; decide)) ?_
    refine lv_goto (tgt := 17) hx hb dX3_xOf_13 (by decide) ?_
    exact W.iret (v := q - q / wd * wd) hx hb hr (fun t ht hW => ⟨⟨q - q / wd * wd, (), rfl, (by first | exact ⟨fun _ => rfl, fun h => absurd (Int32.not_le.mp (by assumption)) h⟩ | exact ⟨fun h => absurd h (Int32.not_lt.mpr (by assumption)), fun _ => rfl⟩), trivial⟩, hS.F ht⟩) hS.2.2 dX3_xOf_17

set_option maxHeartbeats 4000000 in
set_option maxRecDepth 100000 in
theorem c_X3_yOf (l : Launch) (D : va_G) (cy : Nat → ClassId) (g : Nat) (wd hi dr wi : Int32) (he fo : Int64) (pe te re : Int32) (k0 k1 k2 k3 k4 k5 k6 : Nat) (q : Int32) (sz : Nat)  : Met l yX3_yOf wsX3_yOf ({ frames := 0, cells := 0, slots := 0, locals := 0 }) (va_Pc [.ref g, .int q] (kPre D cy [(g, .inr (3, [.int wd, .int hi, .int dr, .int wi, .long he, .long fo, .int pe, .int te, .int re, .ref k0, .ref k1, .ref k2, .ref k3, .ref k4, .ref k5, .ref k6]))] sz)) (va_Qi (fun (r : Int32) (_ : Unit) => (0 < wd → r = q / wd) ∧ (¬ 0 < wd → r = 0)) (fun _ _ => True) (fun q : Nat => sz ≤ q)) 0 0 (fun q : Nat => sz ≤ q) := by
  refine Met.ofW (cc := cX3_yOf) (maxL := 2) (ret := (some .int)) (by decide) rfl ?_
  intro p e s m args below meth c s₁ B hml hv
  obtain ⟨rfl, hsz, hP, hKA, hD0⟩ := hv
  have hx := B.exec
  have hb := B.bytes
  have hr := B.returns
  have hts := atoms_spec (ws := wsX3_yOf) B.pre
  have hown : s.vm.findClass RX3 = some m.cls := findClass_of_methodNamed B.named
  have hlocks := B.notSynchronized
  subst hsz
  have hK := hKA.1
  have hD := hD0
  generalize hAe : (fun q : Nat => s.heap.size ≤ q) = A
  have hA : ∀ q : Nat, s.heap.size ≤ q → A q := fun q h => by rw [← hAe]; exact h
  have hS : va_S A s.heap s.heap [] := va_S.rf
  have hP : va_P D vwCl [(g, .inr (3, [.int wd, .int hi, .int dr, .int wi, .long he, .long fo, .int pe, .int te, .int re, .ref k0, .ref k1, .ref k2, .ref k3, .ref k4, .ref k5, .ref k6]))] s.heap := hP
  have hl := lv_entry ([.ref g, .int q]) (n := 2) (Nat.le_of_ble_eq_true rfl)
  rw [lg_entry_eq]
  generalize (lg_sl ([.ref g, .int q]) ++ List.replicate (2 - (lg_sl ([.ref g, .int q])).length) Slot.unset).toArray = ls at hl ⊢
  have hl : lv_has ls 2 [(0, .ref g), (1, .int q)] := hl
  have z0_ := hts (.fieldLink RX3 33 "HeardSeen$Garden" "wide" "I") (by decide +kernel)
  have zi3_ : ∀ w ∈ u_ws RX3 TX3 16, w ∈ wsX3_yOf := by decide +kernel
  refine lv_aload_n hx hb dX3_yOf_0 rfl (lv_at hl 0 rfl) ?_
  refine va_get (D := D) (ci := 3) (v := .int wd) (C := RX3) (T := TX3) (N := 16) hx hb hts zi3_ hown hK hP 0 rfl rfl 0 (by decide) z0_ (fun _ h9 => h9) rfl dX3_yOf_1 ?_
  refine lv_if_le (tgt := 16) hx hb dX3_yOf_4 (by decide) (fun c1 => ?_) (fun c1 => ?_)
  · skip
    refine lv_iconst (v := 0) hx hb dX3_yOf_16 (by decide) ?_
    exact W.iret (v := 0) hx hb hr (fun t ht hW => ⟨⟨0, (), rfl, (by first | exact ⟨fun _ => rfl, fun h => absurd (Int32.not_le.mp (by assumption)) h⟩ | exact ⟨fun h => absurd h (Int32.not_lt.mpr (by assumption)), fun _ => rfl⟩), trivial⟩, hS.F ht⟩) hS.2.2 dX3_yOf_17
  · skip
    refine lv_iload_n hx hb dX3_yOf_7 rfl (lv_at hl 1 rfl) ?_
    refine lv_aload_n hx hb dX3_yOf_8 rfl (lv_at hl 0 rfl) ?_
    refine va_get (D := D) (ci := 3) (v := .int wd) (C := RX3) (T := TX3) (N := 16) hx hb hts zi3_ hown hK hP 0 rfl rfl 0 (by decide) z0_ (fun _ h9 => h9) rfl dX3_yOf_9 ?_
    refine lv_idiv hx hb dX3_yOf_12 (fun hz => absurd (Int32.not_le.mp (by assumption)) (by rw [hz]; decide)) ?_
    refine lv_goto (tgt := 17) hx hb dX3_yOf_13 (by decide) ?_
    exact W.iret (v := q / wd) hx hb hr (fun t ht hW => ⟨⟨q / wd, (), rfl, (by first | exact ⟨fun _ => rfl, fun h => absurd (Int32.not_le.mp (by assumption)) h⟩ | exact ⟨fun h => absurd h (Int32.not_lt.mpr (by assumption)), fun _ => rfl⟩), trivial⟩, hS.F ht⟩) hS.2.2 dX3_yOf_17

set_option maxHeartbeats 4000000 in
set_option maxRecDepth 100000 in
theorem c_X3_yardsOf (l : Launch) (D : va_G) (cy : Nat → ClassId) (g : Nat) (wd hi dr wi : Int32) (he fo : Int64) (pe te re : Int32) (k0 k1 k2 k3 k4 k5 k6 : Nat) (x y : Int32) (sz : Nat)  : Met l yX3_yardsOf wsX3_yardsOf ({ frames := 1, cells := 0, slots := 0, locals := 21 }) (va_Pc [.ref g, .int x, .int y] (kPre D cy [(g, .inr (3, [.int wd, .int hi, .int dr, .int wi, .long he, .long fo, .int pe, .int te, .int re, .ref k0, .ref k1, .ref k2, .ref k3, .ref k4, .ref k5, .ref k6]))] sz)) (va_Qi (fun (r : Int32) (_ : Unit) => True) (fun _ _ => True) (fun q : Nat => sz ≤ q)) 0 0 (fun q : Nat => sz ≤ q) := by
  refine Met.ofW (cc := cX3_yardsOf) (maxL := 3) (ret := (some .int)) (by decide) rfl ?_
  intro p e s m args below meth c s₁ B hml hv
  obtain ⟨rfl, hsz, hP, hKA, hD0⟩ := hv
  have hx := B.exec
  have hb := B.bytes
  have hr := B.returns
  have hts := atoms_spec (ws := wsX3_yardsOf) B.pre
  have hown : s.vm.findClass RX3 = some m.cls := findClass_of_methodNamed B.named
  have hlocks := B.notSynchronized
  subst hsz
  have hK := hKA.1
  have hD := hD0
  generalize hAe : (fun q : Nat => s.heap.size ≤ q) = A
  have hA : ∀ q : Nat, s.heap.size ≤ q → A q := fun q h => by rw [← hAe]; exact h
  have hS : va_S A s.heap s.heap [] := va_S.rf
  have hP : va_P D vwCl [(g, .inr (3, [.int wd, .int hi, .int dr, .int wi, .long he, .long fo, .int pe, .int te, .int re, .ref k0, .ref k1, .ref k2, .ref k3, .ref k4, .ref k5, .ref k6]))] s.heap := hP
  have hl := lv_entry ([.ref g, .int x, .int y]) (n := 3) (Nat.le_of_ble_eq_true rfl)
  rw [lg_entry_eq]
  generalize (lg_sl ([.ref g, .int x, .int y]) ++ List.replicate (3 - (lg_sl ([.ref g, .int x, .int y])).length) Slot.unset).toArray = ls at hl ⊢
  have hl : lv_has ls 3 [(0, .ref g), (1, .int x), (2, .int y)] := hl
  have z0_ := hts (.methodLink RX3 91 Lib.Math.abs.name) (by decide +kernel)
  have z1_ := hts (.static Lib.Math.abs.name) (by decide +kernel)
  have z2_ := hts (.initialized "java/lang/Math") (by decide +kernel)
  have z3_ := hts (.code Lib.Math.abs.name Lib.Math.abs.code 1 (some .int)) (by decide +kernel)
  refine lv_aload_n hx hb dX3_yardsOf_0 rfl (lv_at hl 0 rfl) ?_
  refine lv_iload_n hx hb dX3_yardsOf_1 rfl (lv_at hl 1 rfl) ?_
  refine rd_i (va_runV (As := [.int x]) (rest := []) ⟨hx, hb, hml, hown, hts⟩ (c_X3_xOf l D cy g wd hi dr wi he fo pe te re k0 k1 k2 k3 k4 k5 k6 x _) (cwV 1 hts gX3_yardsOf_X3_xOf rfl rfl rfl (by decide +kernel) ⟨Nat.le_of_ble_eq_true rfl, Nat.le_of_ble_eq_true rfl⟩) (pV (ci := 3) (k := 0) hKA (hP.sub (ws' := [(g, .inr (3, [.int wd, .int hi, .int dr, .int wi, .long he, .long fo, .int pe, .int te, .int re, .ref k0, .ref k1, .ref k2, .ref k3, .ref k4, .ref k5, .ref k6]))]) [0] rfl) (hD.sub (ws' := [(g, .inr (3, [.int wd, .int hi, .int dr, .int wi, .long he, .long fo, .int pe, .int te, .int re, .ref k0, .ref k1, .ref k2, .ref k3, .ref k4, .ref k5, .ref k6]))]) [0] (by decide) rfl) rfl rfl) rfl rfl hl.1 rfl (lv_room (Nat.le_of_ble_eq_true rfl)) dX3_yardsOf_2 ⟨Nat.le_of_ble_eq_true rfl, Nat.le_of_ble_eq_true rfl⟩) hP hS hA (fun r1 H locs hwr1 hP hS => ?_)
  refine lv_aload_n hx hb dX3_yardsOf_5 rfl (lv_at hl 0 rfl) ?_
  refine lv_iload_n hx hb dX3_yardsOf_6 rfl (lv_at hl 2 rfl) ?_
  refine rd_i (va_runV (As := [.int y]) (rest := [.int r1]) ⟨hx, hb, hml, hown, hts⟩ (c_X3_xOf l D cy g wd hi dr wi he fo pe te re k0 k1 k2 k3 k4 k5 k6 y _) (cwV 1 hts gX3_yardsOf_X3_xOf rfl rfl rfl (by decide +kernel) ⟨Nat.le_of_ble_eq_true rfl, Nat.le_of_ble_eq_true rfl⟩) (pV (ci := 3) (k := 0) hKA (hP.sub (ws' := [(g, .inr (3, [.int wd, .int hi, .int dr, .int wi, .long he, .long fo, .int pe, .int te, .int re, .ref k0, .ref k1, .ref k2, .ref k3, .ref k4, .ref k5, .ref k6]))]) [0] rfl) (hD.sub (ws' := [(g, .inr (3, [.int wd, .int hi, .int dr, .int wi, .long he, .long fo, .int pe, .int te, .int re, .ref k0, .ref k1, .ref k2, .ref k3, .ref k4, .ref k5, .ref k6]))]) [0] (by decide) rfl) rfl rfl) rfl rfl hl.1 rfl (lv_room (Nat.le_of_ble_eq_true rfl)) dX3_yardsOf_7 ⟨Nat.le_of_ble_eq_true rfl, Nat.le_of_ble_eq_true rfl⟩) hP hS hA (fun r2 H locs hwr2 hP hS => ?_)
  refine lv_isub hx hb dX3_yardsOf_10 ?_
  refine va_mabs hx hb (by rw [hml]; exact hl.1.symm) hown z0_ z1_ z2_ z3_ (Nat.le_of_ble_eq_true rfl) (Nat.le_of_ble_eq_true rfl) (Nat.zero_le _) (Nat.zero_le _) dX3_yardsOf_11 ?_
  refine lv_topi (fun x3 ex3 => ?_)
  refine lv_aload_n hx hb dX3_yardsOf_14 rfl (lv_at hl 0 rfl) ?_
  refine lv_iload_n hx hb dX3_yardsOf_15 rfl (lv_at hl 1 rfl) ?_
  refine rd_i (va_runV (As := [.int x]) (rest := [.int x3]) ⟨hx, hb, hml, hown, hts⟩ (c_X3_yOf l D cy g wd hi dr wi he fo pe te re k0 k1 k2 k3 k4 k5 k6 x _) (cwV 1 hts gX3_yardsOf_X3_yOf rfl rfl rfl (by decide +kernel) ⟨Nat.le_of_ble_eq_true rfl, Nat.le_of_ble_eq_true rfl⟩) (pV (ci := 3) (k := 0) hKA (hP.sub (ws' := [(g, .inr (3, [.int wd, .int hi, .int dr, .int wi, .long he, .long fo, .int pe, .int te, .int re, .ref k0, .ref k1, .ref k2, .ref k3, .ref k4, .ref k5, .ref k6]))]) [0] rfl) (hD.sub (ws' := [(g, .inr (3, [.int wd, .int hi, .int dr, .int wi, .long he, .long fo, .int pe, .int te, .int re, .ref k0, .ref k1, .ref k2, .ref k3, .ref k4, .ref k5, .ref k6]))]) [0] (by decide) rfl) rfl rfl) rfl rfl hl.1 rfl (lv_room (Nat.le_of_ble_eq_true rfl)) dX3_yardsOf_16 ⟨Nat.le_of_ble_eq_true rfl, Nat.le_of_ble_eq_true rfl⟩) hP hS hA (fun r4 H locs hwr4 hP hS => ?_)
  refine lv_aload_n hx hb dX3_yardsOf_19 rfl (lv_at hl 0 rfl) ?_
  refine lv_iload_n hx hb dX3_yardsOf_20 rfl (lv_at hl 2 rfl) ?_
  refine rd_i (va_runV (As := [.int y]) (rest := [.int r4, .int x3]) ⟨hx, hb, hml, hown, hts⟩ (c_X3_yOf l D cy g wd hi dr wi he fo pe te re k0 k1 k2 k3 k4 k5 k6 y _) (cwV 1 hts gX3_yardsOf_X3_yOf rfl rfl rfl (by decide +kernel) ⟨Nat.le_of_ble_eq_true rfl, Nat.le_of_ble_eq_true rfl⟩) (pV (ci := 3) (k := 0) hKA (hP.sub (ws' := [(g, .inr (3, [.int wd, .int hi, .int dr, .int wi, .long he, .long fo, .int pe, .int te, .int re, .ref k0, .ref k1, .ref k2, .ref k3, .ref k4, .ref k5, .ref k6]))]) [0] rfl) (hD.sub (ws' := [(g, .inr (3, [.int wd, .int hi, .int dr, .int wi, .long he, .long fo, .int pe, .int te, .int re, .ref k0, .ref k1, .ref k2, .ref k3, .ref k4, .ref k5, .ref k6]))]) [0] (by decide) rfl) rfl rfl) rfl rfl hl.1 rfl (lv_room (Nat.le_of_ble_eq_true rfl)) dX3_yardsOf_21 ⟨Nat.le_of_ble_eq_true rfl, Nat.le_of_ble_eq_true rfl⟩) hP hS hA (fun r5 H locs hwr5 hP hS => ?_)
  refine lv_isub hx hb dX3_yardsOf_24 ?_
  refine va_mabs hx hb (by rw [hml]; exact hl.1.symm) hown z0_ z1_ z2_ z3_ (Nat.le_of_ble_eq_true rfl) (Nat.le_of_ble_eq_true rfl) (Nat.zero_le _) (Nat.zero_le _) dX3_yardsOf_25 ?_
  refine lv_topi (fun x6 ex6 => ?_)
  refine lv_iadd hx hb dX3_yardsOf_28 ?_
  exact W.iret (v := x3 + x6) hx hb hr (fun t ht hW => ⟨⟨x3 + x6, (), rfl, trivial, trivial⟩, hS.F ht⟩) hS.2.2 dX3_yardsOf_29

set_option maxHeartbeats 4000000 in
set_option maxRecDepth 100000 in
theorem c_X3_drownedSquares (l : Launch) (D : va_G) (cy : Nat → ClassId) (g : Nat) (wd hi dr wi : Int32) (he fo : Int64) (pe te re : Int32) (k0 k1 k2 k3 k4 k5 k6 : Nat) (sz : Nat)  : Met l yX3_drownedSquares wsX3_drownedSquares ({ frames := 2, cells := 0, slots := 0, locals := 44 }) (va_Pc [.ref g] (kPre D cy [(g, .inr (3, [.int wd, .int hi, .int dr, .int wi, .long he, .long fo, .int pe, .int te, .int re, .ref k0, .ref k1, .ref k2, .ref k3, .ref k4, .ref k5, .ref k6]))] sz)) (va_Ql (fun (r : Int64) (_ : Unit) => True) (fun _ _ => True) (fun q : Nat => sz ≤ q)) 0 0 (fun q : Nat => sz ≤ q) := by
  refine Met.ofW (cc := cX3_drownedSquares) (maxL := 5) (ret := (some .long)) (by decide) rfl ?_
  intro p e s m args below meth c s₁ B hml hv
  obtain ⟨rfl, hsz, hP, hKA, hD0⟩ := hv
  have hx := B.exec
  have hb := B.bytes
  have hr := B.returns
  have hts := atoms_spec (ws := wsX3_drownedSquares) B.pre
  have hown : s.vm.findClass RX3 = some m.cls := findClass_of_methodNamed B.named
  have hlocks := B.notSynchronized
  subst hsz
  have hK := hKA.1
  have hD := hD0
  generalize hAe : (fun q : Nat => s.heap.size ≤ q) = A
  have hA : ∀ q : Nat, s.heap.size ≤ q → A q := fun q h => by rw [← hAe]; exact h
  have hS : va_S A s.heap s.heap [] := va_S.rf
  have hP : va_P D vwCl [(g, .inr (3, [.int wd, .int hi, .int dr, .int wi, .long he, .long fo, .int pe, .int te, .int re, .ref k0, .ref k1, .ref k2, .ref k3, .ref k4, .ref k5, .ref k6]))] s.heap := hP
  have hl := lv_entry ([.ref g]) (n := 5) (Nat.le_of_ble_eq_true rfl)
  rw [lg_entry_eq]
  generalize (lg_sl ([.ref g]) ++ List.replicate (5 - (lg_sl ([.ref g])).length) Slot.unset).toArray = ls at hl ⊢
  have hl : lv_has ls 5 [(0, .ref g)] := hl
  have z0_ := hts (.fieldLink RX3 40 "HeardSeen$Garden" "drown" "I") (by decide +kernel)
  have zi3_ : ∀ w ∈ u_ws RX3 TX3 16, w ∈ wsX3_drownedSquares := by decide +kernel
  refine lv_lconst (v := 0) hx hb dX3_drownedSquares_0 (by decide) ?_
  refine lv_lstore_n (lv' := [(1, .long 0), (0, .ref g)]) hx hb dX3_drownedSquares_1 rfl hl (by decide) rfl (fun ls hl => ?_)
  refine lv_iconst (v := 0) hx hb dX3_drownedSquares_2 (by decide) ?_
  refine lv_istore_n (lv' := [(3, .int 0), (1, .long 0), (0, .ref g)]) hx hb dX3_drownedSquares_3 rfl hl (by decide) rfl (fun ls hl => ?_)
  have lp4 : ∀ (n4 : Nat) (a : Nat) (d : Int64), a < 2147483648 → 2147483648 - a < n4 → ∀ (H : Heap) (locs : List Loc), va_P D vwCl [(g, .inr (3, [.int wd, .int hi, .int dr, .int wi, .long he, .long fo, .int pe, .int te, .int re, .ref k0, .ref k1, .ref k2, .ref k3, .ref k4, .ref k5, .ref k6]))] H → va_D (fun _ => True) [(g, .inr (3, [.int wd, .int hi, .int dr, .int wi, .long he, .long fo, .int pe, .int te, .int re, .ref k0, .ref k1, .ref k2, .ref k3, .ref k4, .ref k5, .ref k6]))] → va_S A s.heap H locs → ∀ ls : Array Slot, lv_has ls 5 [(0, .ref g), (1, .long d), (3, .int (nI a))] → W p l e (headSpec wsX3_drownedSquares ({ frames := 2, cells := 0, slots := 0, locals := 44 })).room s m [.ref g].toArray below meth c H locs 0 0 (MQ below (va_Ql (fun (r : Int64) (_ : Unit) => True) (fun _ _ => True) A) [.ref g].toArray s 0 0 A) (F0 m 4 ls []) := by
    intro n4
    induction n4 with
    | zero => intro a d ha hm; exact absurd hm (Nat.not_lt_zero _)
    | succ n4 ih4 =>
      intro a d ha hm4 H locs hP hD hS ls hl
      refine lv_iload_n hx hb dX3_drownedSquares_4 rfl (lv_at hl 2 rfl) ?_
      refine lv_aload_n hx hb dX3_drownedSquares_5 rfl (lv_at hl 0 rfl) ?_
      refine rd_i (va_runV (As := []) (rest := [.int (nI a)]) ⟨hx, hb, hml, hown, hts⟩ (c_X3_squareCount l D cy g wd hi dr wi he fo pe te re k0 k1 k2 k3 k4 k5 k6 _) (cwV 0 hts gX3_drownedSquares_X3_squareCount rfl rfl rfl (by decide +kernel) ⟨Nat.le_of_ble_eq_true rfl, Nat.le_of_ble_eq_true rfl⟩) (pV (ci := 3) (k := 0) hKA (hP.sub (ws' := [(g, .inr (3, [.int wd, .int hi, .int dr, .int wi, .long he, .long fo, .int pe, .int te, .int re, .ref k0, .ref k1, .ref k2, .ref k3, .ref k4, .ref k5, .ref k6]))]) [0] rfl) (hD.sub (ws' := [(g, .inr (3, [.int wd, .int hi, .int dr, .int wi, .long he, .long fo, .int pe, .int te, .int re, .ref k0, .ref k1, .ref k2, .ref k3, .ref k4, .ref k5, .ref k6]))]) [0] (by decide) rfl) rfl rfl) rfl rfl hl.1 rfl (lv_room (Nat.le_of_ble_eq_true rfl)) dX3_drownedSquares_6 ⟨Nat.le_of_ble_eq_true rfl, Nat.le_of_ble_eq_true rfl⟩) hP hS hA (fun r1 H locs hwr1 hP hS => ?_)
      subst hwr1
      refine lv_icmp_ge (tgt := 66) hx hb dX3_drownedSquares_9 (by decide) (fun c2 => ?_) (fun c2 => ?_)
      · skip
        refine lv_lload_n hx hb dX3_drownedSquares_66 rfl (lv_at hl 1 rfl) ?_
        exact W.lret (v := d) hx hb hr (fun t ht hW => ⟨⟨d, (), rfl, trivial, trivial⟩, hS.F ht⟩) hS.2.2 dX3_drownedSquares_67
      · skip
        refine lv_iconst (v := 0) hx hb dX3_drownedSquares_12 (by decide) ?_
        refine lv_istore (lv' := [(4, .int 0), (0, .ref g), (1, .long d), (3, .int (nI a))]) hx hb dX3_drownedSquares_13 hl (by decide) rfl (fun ls hl => ?_)
        have lp15 : ∀ (n15 : Nat) (b : Nat) (d : Int64), b < 2147483648 → 2147483648 - b < n15 → ∀ (H : Heap) (locs : List Loc), va_P D vwCl [(g, .inr (3, [.int wd, .int hi, .int dr, .int wi, .long he, .long fo, .int pe, .int te, .int re, .ref k0, .ref k1, .ref k2, .ref k3, .ref k4, .ref k5, .ref k6]))] H → va_D (fun _ => True) [(g, .inr (3, [.int wd, .int hi, .int dr, .int wi, .long he, .long fo, .int pe, .int te, .int re, .ref k0, .ref k1, .ref k2, .ref k3, .ref k4, .ref k5, .ref k6]))] → va_S A s.heap H locs → ∀ ls : Array Slot, lv_has ls 5 [(0, .ref g), (1, .long d), (3, .int (nI a)), (4, .int (nI b))] → W p l e (headSpec wsX3_drownedSquares ({ frames := 2, cells := 0, slots := 0, locals := 44 })).room s m [.ref g].toArray below meth c H locs 0 0 (MQ below (va_Ql (fun (r : Int64) (_ : Unit) => True) (fun _ _ => True) A) [.ref g].toArray s 0 0 A) (F0 m 15 ls []) := by
          intro n15
          induction n15 with
          | zero => intro b d hb2 hm; exact absurd hm (Nat.not_lt_zero _)
          | succ n15 ih15 =>
            intro b d hb2 hm15 H locs hP hD hS ls hl
            refine lv_iload hx hb dX3_drownedSquares_15 (lv_at hl 3 rfl) ?_
            refine lv_aload_n hx hb dX3_drownedSquares_17 rfl (lv_at hl 0 rfl) ?_
            refine rd_i (va_runV (As := []) (rest := [.int (nI b)]) ⟨hx, hb, hml, hown, hts⟩ (c_X3_squareCount l D cy g wd hi dr wi he fo pe te re k0 k1 k2 k3 k4 k5 k6 _) (cwV 0 hts gX3_drownedSquares_X3_squareCount rfl rfl rfl (by decide +kernel) ⟨Nat.le_of_ble_eq_true rfl, Nat.le_of_ble_eq_true rfl⟩) (pV (ci := 3) (k := 0) hKA (hP.sub (ws' := [(g, .inr (3, [.int wd, .int hi, .int dr, .int wi, .long he, .long fo, .int pe, .int te, .int re, .ref k0, .ref k1, .ref k2, .ref k3, .ref k4, .ref k5, .ref k6]))]) [0] rfl) (hD.sub (ws' := [(g, .inr (3, [.int wd, .int hi, .int dr, .int wi, .long he, .long fo, .int pe, .int te, .int re, .ref k0, .ref k1, .ref k2, .ref k3, .ref k4, .ref k5, .ref k6]))]) [0] (by decide) rfl) rfl rfl) rfl rfl hl.1 rfl (lv_room (Nat.le_of_ble_eq_true rfl)) dX3_drownedSquares_18 ⟨Nat.le_of_ble_eq_true rfl, Nat.le_of_ble_eq_true rfl⟩) hP hS hA (fun r3 H locs hwr3 hP hS => ?_)
            subst hwr3
            refine lv_icmp_ge (tgt := 60) hx hb dX3_drownedSquares_21 (by decide) (fun c4 => ?_) (fun c4 => ?_)
            · skip
              refine lv_iinc (v := nI (a + 1)) (lv' := [(3, .int (nI (a + 1))), (0, .ref g), (1, .long d), (4, .int (nI b))]) hx hb dX3_drownedSquares_60 hl (k := 2) rfl (nI_1 _) (by decide) rfl (fun ls hl => ?_)
              refine lv_goto (tgt := 4) hx hb dX3_drownedSquares_63 (by decide) ?_
              exact ih4 (a + 1) d (nlt_max ha (by assumption)) (by have := nlt_max ha (by assumption); omega) _ _ (hP.sub (ws' := [(g, .inr (3, [.int wd, .int hi, .int dr, .int wi, .long he, .long fo, .int pe, .int te, .int re, .ref k0, .ref k1, .ref k2, .ref k3, .ref k4, .ref k5, .ref k6]))]) [0] rfl) (hD.sub (ws' := [(g, .inr (3, [.int wd, .int hi, .int dr, .int wi, .long he, .long fo, .int pe, .int te, .int re, .ref k0, .ref k1, .ref k2, .ref k3, .ref k4, .ref k5, .ref k6]))]) [0] (by decide) rfl) hS ls (lv_sub hl [1, 2, 0] rfl)
            · skip
              refine lv_aload_n hx hb dX3_drownedSquares_24 rfl (lv_at hl 0 rfl) ?_
              refine lv_iconst (v := 1) hx hb dX3_drownedSquares_25 (by decide) ?_
              refine lv_iload_n hx hb dX3_drownedSquares_26 rfl (lv_at hl 2 rfl) ?_
              refine rd_i (va_runV (As := [.int 1, .int (nI a)]) (rest := []) ⟨hx, hb, hml, hown, hts⟩ (c_X3_has l D cy g wd hi dr wi he fo pe te re k0 k1 k2 k3 k4 k5 k6 1 (nI a) _) (cwV 2 hts gX3_drownedSquares_X3_has rfl rfl rfl (by decide +kernel) ⟨Nat.le_of_ble_eq_true rfl, Nat.le_of_ble_eq_true rfl⟩) (pV (ci := 3) (k := 0) hKA (hP.sub (ws' := [(g, .inr (3, [.int wd, .int hi, .int dr, .int wi, .long he, .long fo, .int pe, .int te, .int re, .ref k0, .ref k1, .ref k2, .ref k3, .ref k4, .ref k5, .ref k6]))]) [0] rfl) (hD.sub (ws' := [(g, .inr (3, [.int wd, .int hi, .int dr, .int wi, .long he, .long fo, .int pe, .int te, .int re, .ref k0, .ref k1, .ref k2, .ref k3, .ref k4, .ref k5, .ref k6]))]) [0] (by decide) rfl) rfl rfl) rfl rfl hl.1 rfl (lv_room (Nat.le_of_ble_eq_true rfl)) dX3_drownedSquares_27 ⟨Nat.le_of_ble_eq_true rfl, Nat.le_of_ble_eq_true rfl⟩) hP hS hA (fun r5 H locs hwr5 hP hS => ?_)
              rcases hwr5 with ⟨rfl, hhr5⟩ | ⟨rfl, hhr5⟩
              · skip
                refine lv_if_eq (tgt := 60) hx hb dX3_drownedSquares_30 (by decide) (fun c6 => absurd c6 (by decide)) (fun c6 => ?_)
                refine lv_aload_n hx hb dX3_drownedSquares_33 rfl (lv_at hl 0 rfl) ?_
                refine lv_iload hx hb dX3_drownedSquares_34 (lv_at hl 3 rfl) ?_
                refine lv_iload_n hx hb dX3_drownedSquares_36 rfl (lv_at hl 2 rfl) ?_
                refine rd_i (va_runV (As := [.int (nI b), .int (nI a)]) (rest := []) ⟨hx, hb, hml, hown, hts⟩ (c_X3_yardsOf l D cy g wd hi dr wi he fo pe te re k0 k1 k2 k3 k4 k5 k6 (nI b) (nI a) _) (cwV 2 hts gX3_drownedSquares_X3_yardsOf rfl rfl rfl (by decide +kernel) ⟨Nat.le_of_ble_eq_true rfl, Nat.le_of_ble_eq_true rfl⟩) (pV (ci := 3) (k := 0) hKA (hP.sub (ws' := [(g, .inr (3, [.int wd, .int hi, .int dr, .int wi, .long he, .long fo, .int pe, .int te, .int re, .ref k0, .ref k1, .ref k2, .ref k3, .ref k4, .ref k5, .ref k6]))]) [0] rfl) (hD.sub (ws' := [(g, .inr (3, [.int wd, .int hi, .int dr, .int wi, .long he, .long fo, .int pe, .int te, .int re, .ref k0, .ref k1, .ref k2, .ref k3, .ref k4, .ref k5, .ref k6]))]) [0] (by decide) rfl) rfl rfl) rfl rfl hl.1 rfl (lv_room (Nat.le_of_ble_eq_true rfl)) dX3_drownedSquares_37 ⟨Nat.le_of_ble_eq_true rfl, Nat.le_of_ble_eq_true rfl⟩) hP hS hA (fun r7 H locs hwr7 hP hS => ?_)
                refine lv_aload_n hx hb dX3_drownedSquares_40 rfl (lv_at hl 0 rfl) ?_
                refine va_get (D := D) (ci := 3) (v := .int dr) (C := RX3) (T := TX3) (N := 16) hx hb hts zi3_ hown hK hP 0 rfl rfl 2 (by decide) z0_ (fun _ h9 => h9) rfl dX3_drownedSquares_41 ?_
                refine lv_icmp_gt (tgt := 54) hx hb dX3_drownedSquares_44 (by decide) (fun c8 => ?_) (fun c8 => ?_)
                · skip
                  refine lv_iinc (v := nI (b + 1)) (lv' := [(4, .int (nI (b + 1))), (0, .ref g), (1, .long d), (3, .int (nI a))]) hx hb dX3_drownedSquares_54 hl (k := 3) rfl (nI_1 _) (by decide) rfl (fun ls hl => ?_)
                  refine lv_goto (tgt := 15) hx hb dX3_drownedSquares_57 (by decide) ?_
                  exact ih15 (b + 1) d (nlt_max hb2 (by assumption)) (by have := nlt_max hb2 (by assumption); omega) _ _ (hP.sub (ws' := [(g, .inr (3, [.int wd, .int hi, .int dr, .int wi, .long he, .long fo, .int pe, .int te, .int re, .ref k0, .ref k1, .ref k2, .ref k3, .ref k4, .ref k5, .ref k6]))]) [0] rfl) (hD.sub (ws' := [(g, .inr (3, [.int wd, .int hi, .int dr, .int wi, .long he, .long fo, .int pe, .int te, .int re, .ref k0, .ref k1, .ref k2, .ref k3, .ref k4, .ref k5, .ref k6]))]) [0] (by decide) rfl) hS ls (lv_sub hl [1, 2, 3, 0] rfl)
                · skip
                  refine lv_lload_n hx hb dX3_drownedSquares_47 rfl (lv_at hl 1 rfl) ?_
                  refine lv_lconst (v := 1) hx hb dX3_drownedSquares_48 (by decide) ?_
                  refine lv_iload hx hb dX3_drownedSquares_49 (lv_at hl 3 rfl) ?_
                  refine lv_lshl hx hb dX3_drownedSquares_51 rfl ?_
                  refine lv_lor hx hb dX3_drownedSquares_52 ?_
                  refine lv_topl (fun x9 ex9 => ?_)
                  refine lv_lstore_n (lv' := [(1, .long x9), (0, .ref g), (3, .int (nI a)), (4, .int (nI b))]) hx hb dX3_drownedSquares_53 rfl hl (by decide) rfl (fun ls hl => ?_)
                  refine lv_iinc (v := nI (b + 1)) (lv' := [(4, .int (nI (b + 1))), (1, .long x9), (0, .ref g), (3, .int (nI a))]) hx hb dX3_drownedSquares_54 hl (k := 3) rfl (nI_1 _) (by decide) rfl (fun ls hl => ?_)
                  refine lv_goto (tgt := 15) hx hb dX3_drownedSquares_57 (by decide) ?_
                  exact ih15 (b + 1) x9 (nlt_max hb2 (by assumption)) (by have := nlt_max hb2 (by assumption); omega) _ _ (hP.sub (ws' := [(g, .inr (3, [.int wd, .int hi, .int dr, .int wi, .long he, .long fo, .int pe, .int te, .int re, .ref k0, .ref k1, .ref k2, .ref k3, .ref k4, .ref k5, .ref k6]))]) [0] rfl) (hD.sub (ws' := [(g, .inr (3, [.int wd, .int hi, .int dr, .int wi, .long he, .long fo, .int pe, .int te, .int re, .ref k0, .ref k1, .ref k2, .ref k3, .ref k4, .ref k5, .ref k6]))]) [0] (by decide) rfl) hS ls (lv_sub hl [2, 1, 3, 0] rfl)
              · skip
                refine lv_if_eq (tgt := 60) hx hb dX3_drownedSquares_30 (by decide) (fun c10 => ?_) (fun c10 => absurd c10 (by decide))
                refine lv_iinc (v := nI (a + 1)) (lv' := [(3, .int (nI (a + 1))), (0, .ref g), (1, .long d), (4, .int (nI b))]) hx hb dX3_drownedSquares_60 hl (k := 2) rfl (nI_1 _) (by decide) rfl (fun ls hl => ?_)
                refine lv_goto (tgt := 4) hx hb dX3_drownedSquares_63 (by decide) ?_
                exact ih4 (a + 1) d (nlt_max ha (by assumption)) (by have := nlt_max ha (by assumption); omega) _ _ (hP.sub (ws' := [(g, .inr (3, [.int wd, .int hi, .int dr, .int wi, .long he, .long fo, .int pe, .int te, .int re, .ref k0, .ref k1, .ref k2, .ref k3, .ref k4, .ref k5, .ref k6]))]) [0] rfl) (hD.sub (ws' := [(g, .inr (3, [.int wd, .int hi, .int dr, .int wi, .long he, .long fo, .int pe, .int te, .int re, .ref k0, .ref k1, .ref k2, .ref k3, .ref k4, .ref k5, .ref k6]))]) [0] (by decide) rfl) hS ls (lv_sub hl [1, 2, 0] rfl)
        exact lp15 (2147483648 - 0 + 1) 0 d (by omega) (Nat.lt_succ_self _) _ _ (hP.sub (ws' := [(g, .inr (3, [.int wd, .int hi, .int dr, .int wi, .long he, .long fo, .int pe, .int te, .int re, .ref k0, .ref k1, .ref k2, .ref k3, .ref k4, .ref k5, .ref k6]))]) [0] rfl) (hD.sub (ws' := [(g, .inr (3, [.int wd, .int hi, .int dr, .int wi, .long he, .long fo, .int pe, .int te, .int re, .ref k0, .ref k1, .ref k2, .ref k3, .ref k4, .ref k5, .ref k6]))]) [0] (by decide) rfl) hS ls (lv_sub hl [1, 2, 3, 0] rfl)
  exact lp4 (2147483648 - 0 + 1) 0 0 (by omega) (Nat.lt_succ_self _) _ _ (hP.sub (ws' := [(g, .inr (3, [.int wd, .int hi, .int dr, .int wi, .long he, .long fo, .int pe, .int te, .int re, .ref k0, .ref k1, .ref k2, .ref k3, .ref k4, .ref k5, .ref k6]))]) [0] rfl) (hD.sub (ws' := [(g, .inr (3, [.int wd, .int hi, .int dr, .int wi, .long he, .long fo, .int pe, .int te, .int re, .ref k0, .ref k1, .ref k2, .ref k3, .ref k4, .ref k5, .ref k6]))]) [0] (by decide) rfl) hS ls (lv_sub hl [2, 1, 0] rfl)
