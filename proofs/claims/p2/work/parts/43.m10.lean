theorem dX11_nextSquares_0 : decode cX11_nextSquares 0 = .ok (.aload_n 0, 1) := by decide +kernel
theorem dX11_nextSquares_1 : decode cX11_nextSquares 1 = .ok (.getfield 38, 3) := by decide +kernel
theorem dX11_nextSquares_4 : decode cX11_nextSquares 4 = .ok (.iconst 0, 1) := by decide +kernel
theorem dX11_nextSquares_5 : decode cX11_nextSquares 5 = .ok (.iaload, 1) := by decide +kernel
theorem dX11_nextSquares_6 : decode cX11_nextSquares 6 = .ok (.aload_n 0, 1) := by decide +kernel
theorem dX11_nextSquares_7 : decode cX11_nextSquares 7 = .ok (.getfield 38, 3) := by decide +kernel
theorem dX11_nextSquares_10 : decode cX11_nextSquares 10 = .ok (.iconst 1, 1) := by decide +kernel
theorem dX11_nextSquares_11 : decode cX11_nextSquares 11 = .ok (.iaload, 1) := by decide +kernel
theorem dX11_nextSquares_12 : decode cX11_nextSquares 12 = .ok (.imul, 1) := by decide +kernel
theorem dX11_nextSquares_13 : decode cX11_nextSquares 13 = .ok (.ireturn, 1) := by decide +kernel
theorem dX11_isNextFree_0 : decode cX11_isNextFree 0 = .ok (.iload_n 1, 1) := by decide +kernel
theorem dX11_isNextFree_1 : decode cX11_isNextFree 1 = .ok (.i2l, 1) := by decide +kernel
theorem dX11_isNextFree_2 : decode cX11_isNextFree 2 = .ok (.lconst 0, 1) := by decide +kernel
theorem dX11_isNextFree_3 : decode cX11_isNextFree 3 = .ok (.aload_n 0, 1) := by decide +kernel
set_option maxRecDepth 20000 in
theorem ggX11_isNextFree_X11_nextSquares : GoodIn wsX11_isNextFree wsX11_nextSquares := goodIn_r _ [6, 1, 13, 14, 15, 16, 17, 18, 19, 20, 21, 22, 23, 24, 25, 26, 27, 28, 29, 30, 31] (by decide +kernel) (by decide +kernel)
set_option maxRecDepth 20000 in
theorem gX11_isNextFree_X11_nextSquares : GoodIn wsX11_isNextFree (wsV RX11 246 RX11 yX11_nextSquares wsX11_nextSquares) := goodIn_app (goodIn_of _ (by decide +kernel)) ggX11_isNextFree_X11_nextSquares
theorem dX11_isNextFree_4 : decode cX11_isNextFree 4 = .ok (.invokevirtual 246, 3) := by decide +kernel
theorem dX11_isNextFree_7 : decode cX11_isNextFree 7 = .ok (.iconst 1, 1) := by decide +kernel
theorem dX11_isNextFree_8 : decode cX11_isNextFree 8 = .ok (.isub, 1) := by decide +kernel
theorem dX11_isNextFree_9 : decode cX11_isNextFree 9 = .ok (.i2l, 1) := by decide +kernel
set_option maxRecDepth 20000 in
theorem ggX11_isNextFree_X11_in : GoodIn wsX11_isNextFree wsX11_in := goodIn_r _ [9] (by decide +kernel) (by decide +kernel)
set_option maxRecDepth 20000 in
theorem gX11_isNextFree_X11_in : GoodIn wsX11_isNextFree (va_wsS RX11 49 yX11_in wsX11_in) := goodIn_app (goodIn_of _ (by decide +kernel)) ggX11_isNextFree_X11_in
theorem dX11_isNextFree_10 : decode cX11_isNextFree 10 = .ok (.invokestatic 49, 3) := by decide +kernel
theorem dX11_isNextFree_13 : decode cX11_isNextFree 13 = .ok (.ifCond .eq 31, 3) := by decide +kernel
theorem dX11_isNextFree_44 : decode cX11_isNextFree 44 = .ok (.iconst 0, 1) := by decide +kernel
theorem dX11_isNextFree_45 : decode cX11_isNextFree 45 = .ok (.ireturn, 1) := by decide +kernel
theorem dX11_isNextFree_16 : decode cX11_isNextFree 16 = .ok (.aload_n 0, 1) := by decide +kernel
theorem dX11_isNextFree_17 : decode cX11_isNextFree 17 = .ok (.getfield 38, 3) := by decide +kernel
theorem dX11_isNextFree_20 : decode cX11_isNextFree 20 = .ok (.bipush 20, 2) := by decide +kernel
theorem dX11_isNextFree_22 : decode cX11_isNextFree 22 = .ok (.iload_n 1, 1) := by decide +kernel
theorem dX11_isNextFree_23 : decode cX11_isNextFree 23 = .ok (.iadd, 1) := by decide +kernel
theorem dX11_isNextFree_24 : decode cX11_isNextFree 24 = .ok (.iaload, 1) := by decide +kernel
theorem dX11_isNextFree_25 : decode cX11_isNextFree 25 = .ok (.ifCond .ne 19, 3) := by decide +kernel
theorem dX11_isNextFree_28 : decode cX11_isNextFree 28 = .ok (.aload_n 0, 1) := by decide +kernel
theorem dX11_isNextFree_29 : decode cX11_isNextFree 29 = .ok (.getfield 38, 3) := by decide +kernel
theorem dX11_isNextFree_32 : decode cX11_isNextFree 32 = .ok (.iload_n 1, 1) := by decide +kernel
theorem dX11_isNextFree_33 : decode cX11_isNextFree 33 = .ok (.iconst (-1), 1) := by decide +kernel
set_option maxRecDepth 20000 in
theorem ggX11_isNextFree_X11_isStood : GoodIn wsX11_isNextFree wsX11_isStood := goodIn_r _ [12] (by decide +kernel) (by decide +kernel)
set_option maxRecDepth 20000 in
theorem gX11_isNextFree_X11_isStood : GoodIn wsX11_isNextFree (va_wsS RX11 64 yX11_isStood wsX11_isStood) := goodIn_app (goodIn_of _ (by decide +kernel)) ggX11_isNextFree_X11_isStood
theorem dX11_isNextFree_34 : decode cX11_isNextFree 34 = .ok (.invokestatic 64, 3) := by decide +kernel
theorem dX11_isNextFree_37 : decode cX11_isNextFree 37 = .ok (.ifCond .ne 7, 3) := by decide +kernel
theorem dX11_isNextFree_40 : decode cX11_isNextFree 40 = .ok (.iconst 1, 1) := by decide +kernel
theorem dX11_isNextFree_41 : decode cX11_isNextFree 41 = .ok (.goto 4, 3) := by decide +kernel
theorem dX11_readsGarden_0 : decode cX11_readsGarden 0 = .ok (.aload_n 0, 1) := by decide +kernel
theorem dX11_readsGarden_1 : decode cX11_readsGarden 1 = .ok (.bipush 103, 2) := by decide +kernel
theorem dX11_readsGarden_3 : decode cX11_readsGarden 3 = .ok (.bipush 97, 2) := by decide +kernel
theorem dX11_readsGarden_5 : decode cX11_readsGarden 5 = .ok (.bipush 114, 2) := by decide +kernel
theorem dX11_readsGarden_7 : decode cX11_readsGarden 7 = .ok (.bipush 100, 2) := by decide +kernel
set_option maxRecDepth 20000 in
theorem ggX11_readsGarden_X11_isWord : GoodIn wsX11_readsGarden wsX11_isWord := goodIn_r _ [8, 3, 9, 10, 11, 46, 47, 48, 49, 50, 51, 52, 53, 54, 55, 56, 57, 58, 59, 60, 61, 62, 63, 64] (by decide +kernel) (by decide +kernel)
set_option maxRecDepth 20000 in
theorem gX11_readsGarden_X11_isWord : GoodIn wsX11_readsGarden (wsV RX11 236 RX11 yX11_isWord wsX11_isWord) := goodIn_app (goodIn_of _ (by decide +kernel)) ggX11_readsGarden_X11_isWord
theorem dX11_readsGarden_9 : decode cX11_readsGarden 9 = .ok (.invokevirtual 236, 3) := by decide +kernel
theorem dX11_readsGarden_12 : decode cX11_readsGarden 12 = .ok (.ifCond .eq 16, 3) := by decide +kernel
theorem dX11_readsGarden_28 : decode cX11_readsGarden 28 = .ok (.iconst 0, 1) := by decide +kernel
theorem dX11_readsGarden_29 : decode cX11_readsGarden 29 = .ok (.ireturn, 1) := by decide +kernel
theorem dX11_readsGarden_15 : decode cX11_readsGarden 15 = .ok (.aload_n 0, 1) := by decide +kernel
theorem dX11_readsGarden_16 : decode cX11_readsGarden 16 = .ok (.bipush 101, 2) := by decide +kernel
theorem dX11_readsGarden_18 : decode cX11_readsGarden 18 = .ok (.bipush 110, 2) := by decide +kernel
theorem dX11_readsGarden_20 : decode cX11_readsGarden 20 = .ok (.iconst 0, 1) := by decide +kernel
theorem dX11_readsGarden_21 : decode cX11_readsGarden 21 = .ok (.iconst 0, 1) := by decide +kernel
set_option maxRecDepth 20000 in
theorem ggX11_readsGarden_X11_goesOn : GoodIn wsX11_readsGarden wsX11_goesOn := goodIn_r _ [15, 9, 10, 11, 46, 47, 48, 49, 50, 51, 52, 53, 54, 55, 56, 57, 58, 59, 60, 61, 62, 63, 64] (by decide +kernel) (by decide +kernel)
set_option maxRecDepth 20000 in
theorem gX11_readsGarden_X11_goesOn : GoodIn wsX11_readsGarden (wsV RX11 240 RX11 yX11_goesOn wsX11_goesOn) := goodIn_app (goodIn_of _ (by decide +kernel)) ggX11_readsGarden_X11_goesOn
theorem dX11_readsGarden_22 : decode cX11_readsGarden 22 = .ok (.invokevirtual 240, 3) := by decide +kernel
theorem dX11_readsGarden_25 : decode cX11_readsGarden 25 = .ok (.ifCond .ne 5, 3) := by decide +kernel
theorem dX11_readsGarden_30 : decode cX11_readsGarden 30 = .ok (.aload_n 0, 1) := by decide +kernel
set_option maxRecDepth 20000 in
theorem ggX11_readsGarden_X11_goOn : GoodIn wsX11_readsGarden wsX11_goOn := goodIn_r _ [19, 11, 9, 20, 21, 22, 7, 23, 24, 10, 3, 25, 26, 27, 28, 29, 30, 31, 32, 33, 34, 35, 36, 37, 38, 46, 47, 48, 49, 50, 51, 52, 53, 54, 55, 56, 57, 58, 59, 60, 61, 62, 63, 64] (by decide +kernel) (by decide +kernel)
set_option maxRecDepth 20000 in
theorem gX11_readsGarden_X11_goOn : GoodIn wsX11_readsGarden (wsV RX11 233 RX11 yX11_goOn wsX11_goOn) := goodIn_app (goodIn_of _ (by decide +kernel)) ggX11_readsGarden_X11_goOn
theorem dX11_readsGarden_31 : decode cX11_readsGarden 31 = .ok (.invokevirtual 233, 3) := by decide +kernel
theorem dX11_readsGarden_34 : decode cX11_readsGarden 34 = .ok (.aload_n 0, 1) := by decide +kernel
theorem dX11_readsGarden_35 : decode cX11_readsGarden 35 = .ok (.iconst 2, 1) := by decide +kernel
theorem dX11_readsGarden_36 : decode cX11_readsGarden 36 = .ok (.bipush 6, 2) := by decide +kernel
set_option maxRecDepth 20000 in
theorem ggX11_readsGarden_X11_takes : GoodIn wsX11_readsGarden wsX11_takes := goodIn_r _ [42, 3, 25, 1, 31, 32, 7, 33, 16, 17, 18, 19, 11, 9, 20, 21, 22, 23, 24, 10, 26, 27, 28, 29, 30, 34, 35, 36, 37, 38, 46, 47, 48, 49, 50, 51, 52, 53, 54, 55, 56, 57, 58, 59, 60, 61, 62, 63, 64] (by decide +kernel) (by decide +kernel)
set_option maxRecDepth 20000 in
theorem gX11_readsGarden_X11_takes : GoodIn wsX11_readsGarden (wsV RX11 243 RX11 yX11_takes wsX11_takes) := goodIn_app (goodIn_of _ (by decide +kernel)) ggX11_readsGarden_X11_takes
theorem dX11_readsGarden_38 : decode cX11_readsGarden 38 = .ok (.invokevirtual 243, 3) := by decide +kernel
theorem dX11_readsGarden_41 : decode cX11_readsGarden 41 = .ok (.ifCond .ne 5, 3) := by decide +kernel
theorem dX11_readsGarden_46 : decode cX11_readsGarden 46 = .ok (.aload_n 0, 1) := by decide +kernel
theorem dX11_readsGarden_47 : decode cX11_readsGarden 47 = .ok (.getfield 230, 3) := by decide +kernel
theorem dX11_readsGarden_50 : decode cX11_readsGarden 50 = .ok (.istore_n 1, 1) := by decide +kernel
theorem dX11_readsGarden_51 : decode cX11_readsGarden 51 = .ok (.aload_n 0, 1) := by decide +kernel
theorem dX11_readsGarden_52 : decode cX11_readsGarden 52 = .ok (.iconst 2, 1) := by decide +kernel
theorem dX11_readsGarden_53 : decode cX11_readsGarden 53 = .ok (.bipush 6, 2) := by decide +kernel
theorem dX11_readsGarden_55 : decode cX11_readsGarden 55 = .ok (.invokevirtual 243, 3) := by decide +kernel
theorem dX11_readsGarden_58 : decode cX11_readsGarden 58 = .ok (.ifCond .ne 5, 3) := by decide +kernel
theorem dX11_readsGarden_63 : decode cX11_readsGarden 63 = .ok (.aload_n 0, 1) := by decide +kernel
theorem dX11_readsGarden_64 : decode cX11_readsGarden 64 = .ok (.getfield 38, 3) := by decide +kernel
theorem dX11_readsGarden_67 : decode cX11_readsGarden 67 = .ok (.iload_n 1, 1) := by decide +kernel
theorem dX11_readsGarden_68 : decode cX11_readsGarden 68 = .ok (.aload_n 0, 1) := by decide +kernel
theorem dX11_readsGarden_69 : decode cX11_readsGarden 69 = .ok (.getfield 230, 3) := by decide +kernel
set_option maxRecDepth 20000 in
theorem ggX11_readsGarden_X11_begin : GoodIn wsX11_readsGarden wsX11_begin := goodIn_r _ [45] (by decide +kernel) (by decide +kernel)
set_option maxRecDepth 20000 in
theorem gX11_readsGarden_X11_begin : GoodIn wsX11_readsGarden (va_wsS RX11 41 yX11_begin wsX11_begin) := goodIn_app (goodIn_of _ (by decide +kernel)) ggX11_readsGarden_X11_begin
theorem dX11_readsGarden_72 : decode cX11_readsGarden 72 = .ok (.invokestatic 41, 3) := by decide +kernel
theorem dX11_readsGarden_75 : decode cX11_readsGarden 75 = .ok (.aload_n 0, 1) := by decide +kernel
theorem dX11_readsGarden_76 : decode cX11_readsGarden 76 = .ok (.getfield 215, 3) := by decide +kernel
theorem dX11_readsGarden_79 : decode cX11_readsGarden 79 = .ok (.iconst 3, 1) := by decide +kernel
theorem dX11_readsGarden_80 : decode cX11_readsGarden 80 = .ok (.if_icmp .ne 7, 3) := by decide +kernel
theorem dX11_readsGarden_87 : decode cX11_readsGarden 87 = .ok (.iconst 0, 1) := by decide +kernel
theorem dX11_readsGarden_88 : decode cX11_readsGarden 88 = .ok (.ireturn, 1) := by decide +kernel
theorem dX11_readsGarden_83 : decode cX11_readsGarden 83 = .ok (.iconst 1, 1) := by decide +kernel
theorem dX11_readsGarden_84 : decode cX11_readsGarden 84 = .ok (.goto 4, 3) := by decide +kernel
theorem dX11_readsGarden_61 : decode cX11_readsGarden 61 = .ok (.iconst 0, 1) := by decide +kernel
theorem dX11_readsGarden_62 : decode cX11_readsGarden 62 = .ok (.ireturn, 1) := by decide +kernel
theorem dX11_readsGarden_44 : decode cX11_readsGarden 44 = .ok (.iconst 0, 1) := by decide +kernel
theorem dX11_readsGarden_45 : decode cX11_readsGarden 45 = .ok (.ireturn, 1) := by decide +kernel
theorem dX11_readsHedge_0 : decode cX11_readsHedge 0 = .ok (.aload_n 0, 1) := by decide +kernel
set_option maxRecDepth 20000 in
theorem ggX11_readsHedge_X11_goOn : GoodIn wsX11_readsHedge wsX11_goOn := goodIn_r _ [8, 9, 10, 11, 12, 13, 7, 14, 15, 16, 1, 2, 17, 18, 19, 20, 21, 22, 23, 24, 25, 26, 27, 28, 29, 41, 42, 43, 44, 45, 46, 47, 48, 49, 50, 51, 52, 53, 54, 55, 56, 57, 58, 59] (by decide +kernel) (by decide +kernel)
set_option maxRecDepth 20000 in
theorem gX11_readsHedge_X11_goOn : GoodIn wsX11_readsHedge (wsV RX11 233 RX11 yX11_goOn wsX11_goOn) := goodIn_app (goodIn_of _ (by decide +kernel)) ggX11_readsHedge_X11_goOn
theorem dX11_readsHedge_1 : decode cX11_readsHedge 1 = .ok (.invokevirtual 233, 3) := by decide +kernel
theorem dX11_readsHedge_4 : decode cX11_readsHedge 4 = .ok (.aload_n 0, 1) := by decide +kernel
theorem dX11_readsHedge_5 : decode cX11_readsHedge 5 = .ok (.getfield 215, 3) := by decide +kernel
theorem dX11_readsHedge_8 : decode cX11_readsHedge 8 = .ok (.iconst 2, 1) := by decide +kernel
theorem dX11_readsHedge_9 : decode cX11_readsHedge 9 = .ok (.if_icmp .ne 14, 3) := by decide +kernel
theorem dX11_readsHedge_23 : decode cX11_readsHedge 23 = .ok (.iconst 0, 1) := by decide +kernel
theorem dX11_readsHedge_24 : decode cX11_readsHedge 24 = .ok (.ireturn, 1) := by decide +kernel
theorem dX11_readsHedge_12 : decode cX11_readsHedge 12 = .ok (.aload_n 0, 1) := by decide +kernel
theorem dX11_readsHedge_13 : decode cX11_readsHedge 13 = .ok (.aload_n 0, 1) := by decide +kernel
theorem dX11_readsHedge_14 : decode cX11_readsHedge 14 = .ok (.getfield 218, 3) := by decide +kernel
set_option maxRecDepth 20000 in
theorem ggX11_readsHedge_X11_isNextFree : GoodIn wsX11_readsHedge wsX11_isNextFree := goodIn_r _ [33, 3, 34, 35, 36, 7, 37, 22, 23, 24, 38, 39, 40, 41, 42, 43, 44, 45, 46, 47, 48, 49, 50, 51, 52, 53, 54, 55, 56, 57, 58, 59] (by decide +kernel) (by decide +kernel)
set_option maxRecDepth 20000 in
theorem gX11_readsHedge_X11_isNextFree : GoodIn wsX11_readsHedge (wsV RX11 249 RX11 yX11_isNextFree wsX11_isNextFree) := goodIn_app (goodIn_of _ (by decide +kernel)) ggX11_readsHedge_X11_isNextFree
theorem dX11_readsHedge_17 : decode cX11_readsHedge 17 = .ok (.invokevirtual 249, 3) := by decide +kernel
theorem dX11_readsHedge_20 : decode cX11_readsHedge 20 = .ok (.ifCond .ne 5, 3) := by decide +kernel
theorem dX11_readsHedge_25 : decode cX11_readsHedge 25 = .ok (.aload_n 0, 1) := by decide +kernel
theorem dX11_readsHedge_26 : decode cX11_readsHedge 26 = .ok (.getfield 38, 3) := by decide +kernel
theorem dX11_readsHedge_29 : decode cX11_readsHedge 29 = .ok (.bipush 20, 2) := by decide +kernel
theorem dX11_readsHedge_31 : decode cX11_readsHedge 31 = .ok (.aload_n 0, 1) := by decide +kernel
theorem dX11_readsHedge_32 : decode cX11_readsHedge 32 = .ok (.getfield 218, 3) := by decide +kernel
theorem dX11_readsHedge_35 : decode cX11_readsHedge 35 = .ok (.iadd, 1) := by decide +kernel
theorem dX11_readsHedge_36 : decode cX11_readsHedge 36 = .ok (.iconst 1, 1) := by decide +kernel
theorem dX11_readsHedge_37 : decode cX11_readsHedge 37 = .ok (.iastore, 1) := by decide +kernel
theorem dX11_readsHedge_38 : decode cX11_readsHedge 38 = .ok (.aload_n 0, 1) := by decide +kernel
theorem dX11_readsHedge_39 : decode cX11_readsHedge 39 = .ok (.invokevirtual 233, 3) := by decide +kernel
theorem dX11_readsHedge_42 : decode cX11_readsHedge 42 = .ok (.iconst 1, 1) := by decide +kernel
theorem dX11_readsHedge_43 : decode cX11_readsHedge 43 = .ok (.ireturn, 1) := by decide +kernel
theorem dX11_readsWind_0 : decode cX11_readsWind 0 = .ok (.aload_n 0, 1) := by decide +kernel
set_option maxRecDepth 20000 in
theorem ggX11_readsWind_X11_goOn : GoodIn wsX11_readsWind wsX11_goOn := goodIn_r _ [8, 9, 10, 11, 12, 13, 7, 14, 15, 16, 1, 17, 18, 19, 20, 21, 22, 23, 24, 25, 26, 27, 28, 29, 30, 35, 36, 37, 38, 39, 40, 41, 42, 43, 44, 45, 46, 47, 48, 49, 50, 51, 52, 53] (by decide +kernel) (by decide +kernel)
set_option maxRecDepth 20000 in
theorem gX11_readsWind_X11_goOn : GoodIn wsX11_readsWind (wsV RX11 233 RX11 yX11_goOn wsX11_goOn) := goodIn_app (goodIn_of _ (by decide +kernel)) ggX11_readsWind_X11_goOn
theorem dX11_readsWind_1 : decode cX11_readsWind 1 = .ok (.invokevirtual 233, 3) := by decide +kernel
theorem dX11_readsWind_4 : decode cX11_readsWind 4 = .ok (.aload_n 0, 1) := by decide +kernel
theorem dX11_readsWind_5 : decode cX11_readsWind 5 = .ok (.getfield 215, 3) := by decide +kernel
theorem dX11_readsWind_8 : decode cX11_readsWind 8 = .ok (.iconst 5, 1) := by decide +kernel
theorem dX11_readsWind_17 : decode cX11_readsWind 17 = .ok (.istore_n 1, 1) := by decide +kernel
theorem dX11_readsWind_18 : decode cX11_readsWind 18 = .ok (.iload_n 1, 1) := by decide +kernel
theorem dX11_readsWind_26 : decode cX11_readsWind 26 = .ok (.aload_n 0, 1) := by decide +kernel
theorem dX11_readsWind_27 : decode cX11_readsWind 27 = .ok (.iconst 0, 1) := by decide +kernel
theorem dX11_readsWind_28 : decode cX11_readsWind 28 = .ok (.iconst 1, 1) := by decide +kernel
set_option maxRecDepth 20000 in
theorem ggX11_readsWind_X11_takes : GoodIn wsX11_readsWind wsX11_takes := goodIn_r _ [34, 1, 17, 3, 23, 24, 7, 25, 4, 5, 6, 8, 9, 10, 11, 12, 13, 14, 15, 16, 18, 19, 20, 21, 22, 26, 27, 28, 29, 30, 35, 36, 37, 38, 39, 40, 41, 42, 43, 44, 45, 46, 47, 48, 49, 50, 51, 52, 53] (by decide +kernel) (by decide +kernel)
set_option maxRecDepth 20000 in
theorem gX11_readsWind_X11_takes : GoodIn wsX11_readsWind (wsV RX11 243 RX11 yX11_takes wsX11_takes) := goodIn_app (goodIn_of _ (by decide +kernel)) ggX11_readsWind_X11_takes
theorem dX11_readsWind_29 : decode cX11_readsWind 29 = .ok (.invokevirtual 243, 3) := by decide +kernel
theorem dX11_readsWind_32 : decode cX11_readsWind 32 = .ok (.istore_n 2, 1) := by decide +kernel
theorem dX11_readsWind_33 : decode cX11_readsWind 33 = .ok (.aload_n 0, 1) := by decide +kernel
theorem dX11_readsWind_34 : decode cX11_readsWind 34 = .ok (.getfield 38, 3) := by decide +kernel
theorem dX11_readsWind_37 : decode cX11_readsWind 37 = .ok (.iconst 3, 1) := by decide +kernel
theorem dX11_readsWind_38 : decode cX11_readsWind 38 = .ok (.iload_n 1, 1) := by decide +kernel
theorem dX11_readsWind_39 : decode cX11_readsWind 39 = .ok (.ifCond .eq 11, 3) := by decide +kernel
theorem dX11_readsWind_50 : decode cX11_readsWind 50 = .ok (.aload_n 0, 1) := by decide +kernel
theorem dX11_readsWind_51 : decode cX11_readsWind 51 = .ok (.getfield 230, 3) := by decide +kernel
theorem dX11_readsWind_54 : decode cX11_readsWind 54 = .ok (.iastore, 1) := by decide +kernel
theorem dX11_readsWind_55 : decode cX11_readsWind 55 = .ok (.iload_n 2, 1) := by decide +kernel
theorem dX11_readsWind_56 : decode cX11_readsWind 56 = .ok (.ireturn, 1) := by decide +kernel
theorem dX11_readsWind_42 : decode cX11_readsWind 42 = .ok (.aload_n 0, 1) := by decide +kernel
theorem dX11_readsWind_43 : decode cX11_readsWind 43 = .ok (.getfield 230, 3) := by decide +kernel
theorem dX11_readsWind_46 : decode cX11_readsWind 46 = .ok (.ineg, 1) := by decide +kernel
theorem dX11_readsWind_47 : decode cX11_readsWind 47 = .ok (.goto 7, 3) := by decide +kernel
theorem dX11_readsWind_19 : decode cX11_readsWind 19 = .ok (.ifCond .eq 7, 3) := by decide +kernel
theorem dX11_readsWind_22 : decode cX11_readsWind 22 = .ok (.aload_n 0, 1) := by decide +kernel
theorem dX11_readsWind_23 : decode cX11_readsWind 23 = .ok (.invokevirtual 233, 3) := by decide +kernel
theorem dX11_readsWind_9 : decode cX11_readsWind 9 = .ok (.if_icmp .ne 7, 3) := by decide +kernel
theorem dX11_readsWind_16 : decode cX11_readsWind 16 = .ok (.iconst 0, 1) := by decide +kernel
theorem dX11_readsWind_12 : decode cX11_readsWind 12 = .ok (.iconst 1, 1) := by decide +kernel
theorem dX11_readsWind_13 : decode cX11_readsWind 13 = .ok (.goto 4, 3) := by decide +kernel
theorem dX11_readsPerson_0 : decode cX11_readsPerson 0 = .ok (.aload_n 0, 1) := by decide +kernel
theorem dX11_readsPerson_1 : decode cX11_readsPerson 1 = .ok (.getfield 38, 3) := by decide +kernel
theorem dX11_readsPerson_4 : decode cX11_readsPerson 4 = .ok (.iconst 4, 1) := by decide +kernel
theorem dX11_readsPerson_5 : decode cX11_readsPerson 5 = .ok (.iaload, 1) := by decide +kernel
theorem dX11_readsPerson_6 : decode cX11_readsPerson 6 = .ok (.iconst 5, 1) := by decide +kernel
theorem dX11_readsPerson_7 : decode cX11_readsPerson 7 = .ok (.if_icmp .ne 5, 3) := by decide +kernel
theorem dX11_readsPerson_12 : decode cX11_readsPerson 12 = .ok (.aload_n 0, 1) := by decide +kernel
set_option maxRecDepth 20000 in
theorem ggX11_readsPerson_X11_goOn : GoodIn wsX11_readsPerson wsX11_goOn := goodIn_r _ [9, 10, 11, 12, 13, 14, 8, 15, 16, 17, 3, 4, 18, 19, 20, 21, 22, 23, 24, 25, 26, 27, 28, 29, 30, 49, 50, 51, 52, 53, 54, 55, 56, 57, 58, 59, 60, 61, 62, 63, 64, 65, 66, 67] (by decide +kernel) (by decide +kernel)
set_option maxRecDepth 20000 in
theorem gX11_readsPerson_X11_goOn : GoodIn wsX11_readsPerson (wsV RX11 233 RX11 yX11_goOn wsX11_goOn) := goodIn_app (goodIn_of _ (by decide +kernel)) ggX11_readsPerson_X11_goOn
theorem dX11_readsPerson_13 : decode cX11_readsPerson 13 = .ok (.invokevirtual 233, 3) := by decide +kernel
theorem dX11_readsPerson_16 : decode cX11_readsPerson 16 = .ok (.aload_n 0, 1) := by decide +kernel
theorem dX11_readsPerson_17 : decode cX11_readsPerson 17 = .ok (.iconst 0, 1) := by decide +kernel
theorem dX11_readsPerson_18 : decode cX11_readsPerson 18 = .ok (.iconst 5, 1) := by decide +kernel
set_option maxRecDepth 20000 in
theorem ggX11_readsPerson_X11_takes : GoodIn wsX11_readsPerson wsX11_takes := goodIn_r _ [34, 3, 4, 2, 23, 24, 8, 25, 5, 6, 7, 9, 10, 11, 12, 13, 14, 15, 16, 17, 18, 19, 20, 21, 22, 26, 27, 28, 29, 30, 49, 50, 51, 52, 53, 54, 55, 56, 57, 58, 59, 60, 61, 62, 63, 64, 65, 66, 67] (by decide +kernel) (by decide +kernel)
set_option maxRecDepth 20000 in
theorem gX11_readsPerson_X11_takes : GoodIn wsX11_readsPerson (wsV RX11 243 RX11 yX11_takes wsX11_takes) := goodIn_app (goodIn_of _ (by decide +kernel)) ggX11_readsPerson_X11_takes
theorem dX11_readsPerson_19 : decode cX11_readsPerson 19 = .ok (.invokevirtual 243, 3) := by decide +kernel
theorem dX11_readsPerson_22 : decode cX11_readsPerson 22 = .ok (.ifCond .ne 5, 3) := by decide +kernel
theorem dX11_readsPerson_27 : decode cX11_readsPerson 27 = .ok (.aload_n 0, 1) := by decide +kernel
theorem dX11_readsPerson_28 : decode cX11_readsPerson 28 = .ok (.getfield 230, 3) := by decide +kernel
theorem dX11_readsPerson_31 : decode cX11_readsPerson 31 = .ok (.istore_n 1, 1) := by decide +kernel
theorem dX11_readsPerson_32 : decode cX11_readsPerson 32 = .ok (.aload_n 0, 1) := by decide +kernel
theorem dX11_readsPerson_33 : decode cX11_readsPerson 33 = .ok (.getfield 215, 3) := by decide +kernel
theorem dX11_readsPerson_36 : decode cX11_readsPerson 36 = .ok (.iconst 2, 1) := by decide +kernel
theorem dX11_readsPerson_37 : decode cX11_readsPerson 37 = .ok (.if_icmp .ne 14, 3) := by decide +kernel
theorem dX11_readsPerson_51 : decode cX11_readsPerson 51 = .ok (.iconst 0, 1) := by decide +kernel
theorem dX11_readsPerson_52 : decode cX11_readsPerson 52 = .ok (.ireturn, 1) := by decide +kernel
theorem dX11_readsPerson_40 : decode cX11_readsPerson 40 = .ok (.aload_n 0, 1) := by decide +kernel
theorem dX11_readsPerson_41 : decode cX11_readsPerson 41 = .ok (.aload_n 0, 1) := by decide +kernel
theorem dX11_readsPerson_42 : decode cX11_readsPerson 42 = .ok (.getfield 218, 3) := by decide +kernel
set_option maxRecDepth 20000 in
theorem ggX11_readsPerson_X11_isNextFree : GoodIn wsX11_readsPerson wsX11_isNextFree := goodIn_r _ [38, 1, 39, 40, 41, 8, 42, 23, 24, 25, 43, 44, 45, 49, 50, 51, 52, 53, 54, 55, 56, 57, 58, 59, 60, 61, 62, 63, 64, 65, 66, 67] (by decide +kernel) (by decide +kernel)
set_option maxRecDepth 20000 in
theorem gX11_readsPerson_X11_isNextFree : GoodIn wsX11_readsPerson (wsV RX11 249 RX11 yX11_isNextFree wsX11_isNextFree) := goodIn_app (goodIn_of _ (by decide +kernel)) ggX11_readsPerson_X11_isNextFree
theorem dX11_readsPerson_45 : decode cX11_readsPerson 45 = .ok (.invokevirtual 249, 3) := by decide +kernel
theorem dX11_readsPerson_48 : decode cX11_readsPerson 48 = .ok (.ifCond .ne 5, 3) := by decide +kernel
theorem dX11_readsPerson_53 : decode cX11_readsPerson 53 = .ok (.aload_n 0, 1) := by decide +kernel
theorem dX11_readsPerson_54 : decode cX11_readsPerson 54 = .ok (.getfield 218, 3) := by decide +kernel
theorem dX11_readsPerson_57 : decode cX11_readsPerson 57 = .ok (.istore_n 2, 1) := by decide +kernel
theorem dX11_readsPerson_58 : decode cX11_readsPerson 58 = .ok (.aload_n 0, 1) := by decide +kernel
theorem dX11_readsPerson_59 : decode cX11_readsPerson 59 = .ok (.invokevirtual 233, 3) := by decide +kernel
theorem dX11_readsPerson_62 : decode cX11_readsPerson 62 = .ok (.aload_n 0, 1) := by decide +kernel
theorem dX11_readsPerson_63 : decode cX11_readsPerson 63 = .ok (.iconst 0, 1) := by decide +kernel
theorem dX11_readsPerson_64 : decode cX11_readsPerson 64 = .ok (.bipush 9, 2) := by decide +kernel
theorem dX11_readsPerson_66 : decode cX11_readsPerson 66 = .ok (.invokevirtual 243, 3) := by decide +kernel
theorem dX11_readsPerson_69 : decode cX11_readsPerson 69 = .ok (.ifCond .ne 5, 3) := by decide +kernel
theorem dX11_readsPerson_74 : decode cX11_readsPerson 74 = .ok (.aload_n 0, 1) := by decide +kernel
theorem dX11_readsPerson_75 : decode cX11_readsPerson 75 = .ok (.getfield 38, 3) := by decide +kernel
theorem dX11_readsPerson_78 : decode cX11_readsPerson 78 = .ok (.iload_n 1, 1) := by decide +kernel
theorem dX11_readsPerson_79 : decode cX11_readsPerson 79 = .ok (.iload_n 2, 1) := by decide +kernel
theorem dX11_readsPerson_80 : decode cX11_readsPerson 80 = .ok (.aload_n 0, 1) := by decide +kernel
theorem dX11_readsPerson_81 : decode cX11_readsPerson 81 = .ok (.getfield 230, 3) := by decide +kernel
set_option maxRecDepth 20000 in
theorem ggX11_readsPerson_X11_layPerson : GoodIn wsX11_readsPerson wsX11_layPerson := goodIn_r _ [48] (by decide +kernel) (by decide +kernel)
set_option maxRecDepth 20000 in
theorem gX11_readsPerson_X11_layPerson : GoodIn wsX11_readsPerson (va_wsS RX11 90 yX11_layPerson wsX11_layPerson) := goodIn_app (goodIn_of _ (by decide +kernel)) ggX11_readsPerson_X11_layPerson
theorem dX11_readsPerson_84 : decode cX11_readsPerson 84 = .ok (.invokestatic 90, 3) := by decide +kernel
theorem dX11_readsPerson_87 : decode cX11_readsPerson 87 = .ok (.iconst 1, 1) := by decide +kernel
theorem dX11_readsPerson_88 : decode cX11_readsPerson 88 = .ok (.ireturn, 1) := by decide +kernel
theorem dX11_readsPerson_72 : decode cX11_readsPerson 72 = .ok (.iconst 0, 1) := by decide +kernel
theorem dX11_readsPerson_73 : decode cX11_readsPerson 73 = .ok (.ireturn, 1) := by decide +kernel
theorem dX11_readsPerson_25 : decode cX11_readsPerson 25 = .ok (.iconst 0, 1) := by decide +kernel
theorem dX11_readsPerson_26 : decode cX11_readsPerson 26 = .ok (.ireturn, 1) := by decide +kernel
theorem dX11_readsPerson_10 : decode cX11_readsPerson 10 = .ok (.iconst 0, 1) := by decide +kernel
theorem dX11_readsPerson_11 : decode cX11_readsPerson 11 = .ok (.ireturn, 1) := by decide +kernel
theorem dX11_readsTell_0 : decode cX11_readsTell 0 = .ok (.aload_n 0, 1) := by decide +kernel
theorem dX11_readsTell_1 : decode cX11_readsTell 1 = .ok (.getfield 38, 3) := by decide +kernel
theorem dX11_readsTell_4 : decode cX11_readsTell 4 = .ok (.bipush 92, 2) := by decide +kernel
theorem dX11_readsTell_6 : decode cX11_readsTell 6 = .ok (.iaload, 1) := by decide +kernel
theorem dX11_readsTell_7 : decode cX11_readsTell 7 = .ok (.istore_n 1, 1) := by decide +kernel
theorem dX11_readsTell_8 : decode cX11_readsTell 8 = .ok (.iload_n 1, 1) := by decide +kernel
theorem dX11_readsTell_9 : decode cX11_readsTell 9 = .ok (.bipush 6, 2) := by decide +kernel
theorem dX11_readsTell_11 : decode cX11_readsTell 11 = .ok (.if_icmp .ne 5, 3) := by decide +kernel
theorem dX11_readsTell_16 : decode cX11_readsTell 16 = .ok (.aload_n 0, 1) := by decide +kernel
set_option maxRecDepth 20000 in
theorem ggX11_readsTell_X11_goOn : GoodIn wsX11_readsTell wsX11_goOn := goodIn_r _ [9, 10, 11, 12, 13, 14, 8, 15, 16, 17, 3, 4, 18, 19, 20, 21, 22, 23, 24, 25, 26, 27, 28, 29, 30, 35, 36, 37, 38, 39, 40, 41, 42, 43, 44, 45, 46, 47, 48, 49, 50, 51, 52, 53] (by decide +kernel) (by decide +kernel)
set_option maxRecDepth 20000 in
theorem gX11_readsTell_X11_goOn : GoodIn wsX11_readsTell (wsV RX11 233 RX11 yX11_goOn wsX11_goOn) := goodIn_app (goodIn_of _ (by decide +kernel)) ggX11_readsTell_X11_goOn
theorem dX11_readsTell_17 : decode cX11_readsTell 17 = .ok (.invokevirtual 233, 3) := by decide +kernel
theorem dX11_readsTell_20 : decode cX11_readsTell 20 = .ok (.aload_n 0, 1) := by decide +kernel
theorem dX11_readsTell_21 : decode cX11_readsTell 21 = .ok (.iconst 0, 1) := by decide +kernel
theorem dX11_readsTell_22 : decode cX11_readsTell 22 = .ok (.aload_n 0, 1) := by decide +kernel
theorem dX11_readsTell_23 : decode cX11_readsTell 23 = .ok (.getfield 38, 3) := by decide +kernel
theorem dX11_readsTell_26 : decode cX11_readsTell 26 = .ok (.iconst 4, 1) := by decide +kernel
theorem dX11_readsTell_27 : decode cX11_readsTell 27 = .ok (.iaload, 1) := by decide +kernel
theorem dX11_readsTell_28 : decode cX11_readsTell 28 = .ok (.iconst 1, 1) := by decide +kernel
theorem dX11_readsTell_29 : decode cX11_readsTell 29 = .ok (.isub, 1) := by decide +kernel
set_option maxRecDepth 20000 in
theorem ggX11_readsTell_X11_takes : GoodIn wsX11_readsTell wsX11_takes := goodIn_r _ [34, 3, 4, 2, 23, 24, 8, 25, 5, 6, 7, 9, 10, 11, 12, 13, 14, 15, 16, 17, 18, 19, 20, 21, 22, 26, 27, 28, 29, 30, 35, 36, 37, 38, 39, 40, 41, 42, 43, 44, 45, 46, 47, 48, 49, 50, 51, 52, 53] (by decide +kernel) (by decide +kernel)
set_option maxRecDepth 20000 in
theorem gX11_readsTell_X11_takes : GoodIn wsX11_readsTell (wsV RX11 243 RX11 yX11_takes wsX11_takes) := goodIn_app (goodIn_of _ (by decide +kernel)) ggX11_readsTell_X11_takes
theorem dX11_readsTell_30 : decode cX11_readsTell 30 = .ok (.invokevirtual 243, 3) := by decide +kernel
theorem dX11_readsTell_33 : decode cX11_readsTell 33 = .ok (.ifCond .ne 5, 3) := by decide +kernel
theorem dX11_readsTell_38 : decode cX11_readsTell 38 = .ok (.aload_n 0, 1) := by decide +kernel
theorem dX11_readsTell_39 : decode cX11_readsTell 39 = .ok (.getfield 230, 3) := by decide +kernel
theorem dX11_readsTell_42 : decode cX11_readsTell 42 = .ok (.istore_n 2, 1) := by decide +kernel
theorem dX11_readsTell_43 : decode cX11_readsTell 43 = .ok (.aload_n 0, 1) := by decide +kernel
theorem dX11_readsTell_44 : decode cX11_readsTell 44 = .ok (.getfield 215, 3) := by decide +kernel
theorem dX11_readsTell_47 : decode cX11_readsTell 47 = .ok (.iconst 2, 1) := by decide +kernel
theorem dX11_readsTell_48 : decode cX11_readsTell 48 = .ok (.if_icmp .ne 11, 3) := by decide +kernel
theorem dX11_readsTell_59 : decode cX11_readsTell 59 = .ok (.aload_n 0, 1) := by decide +kernel
theorem dX11_readsTell_60 : decode cX11_readsTell 60 = .ok (.iconst 0, 1) := by decide +kernel
theorem dX11_readsTell_61 : decode cX11_readsTell 61 = .ok (.aload_n 0, 1) := by decide +kernel
theorem dX11_readsTell_62 : decode cX11_readsTell 62 = .ok (.getfield 38, 3) := by decide +kernel
theorem dX11_readsTell_65 : decode cX11_readsTell 65 = .ok (.iconst 4, 1) := by decide +kernel
theorem dX11_readsTell_66 : decode cX11_readsTell 66 = .ok (.iaload, 1) := by decide +kernel
theorem dX11_readsTell_67 : decode cX11_readsTell 67 = .ok (.iconst 1, 1) := by decide +kernel
theorem dX11_readsTell_68 : decode cX11_readsTell 68 = .ok (.isub, 1) := by decide +kernel
theorem dX11_readsTell_69 : decode cX11_readsTell 69 = .ok (.invokevirtual 243, 3) := by decide +kernel
theorem dX11_readsTell_72 : decode cX11_readsTell 72 = .ok (.ifCond .ne 5, 3) := by decide +kernel
theorem dX11_readsTell_77 : decode cX11_readsTell 77 = .ok (.aload_n 0, 1) := by decide +kernel
theorem dX11_readsTell_78 : decode cX11_readsTell 78 = .ok (.getfield 38, 3) := by decide +kernel
theorem dX11_readsTell_81 : decode cX11_readsTell 81 = .ok (.bipush 93, 2) := by decide +kernel
theorem dX11_readsTell_83 : decode cX11_readsTell 83 = .ok (.iconst 2, 1) := by decide +kernel
theorem dX11_readsTell_84 : decode cX11_readsTell 84 = .ok (.iload_n 1, 1) := by decide +kernel
theorem dX11_readsTell_85 : decode cX11_readsTell 85 = .ok (.imul, 1) := by decide +kernel
theorem dX11_readsTell_86 : decode cX11_readsTell 86 = .ok (.iadd, 1) := by decide +kernel
theorem dX11_readsTell_87 : decode cX11_readsTell 87 = .ok (.iload_n 2, 1) := by decide +kernel
theorem dX11_readsTell_88 : decode cX11_readsTell 88 = .ok (.iastore, 1) := by decide +kernel
theorem dX11_readsTell_89 : decode cX11_readsTell 89 = .ok (.aload_n 0, 1) := by decide +kernel
theorem dX11_readsTell_90 : decode cX11_readsTell 90 = .ok (.getfield 38, 3) := by decide +kernel
theorem dX11_readsTell_93 : decode cX11_readsTell 93 = .ok (.bipush 93, 2) := by decide +kernel
theorem dX11_readsTell_95 : decode cX11_readsTell 95 = .ok (.iconst 2, 1) := by decide +kernel
theorem dX11_readsTell_96 : decode cX11_readsTell 96 = .ok (.iload_n 1, 1) := by decide +kernel
theorem dX11_readsTell_97 : decode cX11_readsTell 97 = .ok (.imul, 1) := by decide +kernel
theorem dX11_readsTell_98 : decode cX11_readsTell 98 = .ok (.iadd, 1) := by decide +kernel
theorem dX11_readsTell_99 : decode cX11_readsTell 99 = .ok (.iconst 1, 1) := by decide +kernel
theorem dX11_readsTell_100 : decode cX11_readsTell 100 = .ok (.iadd, 1) := by decide +kernel
theorem dX11_readsTell_101 : decode cX11_readsTell 101 = .ok (.aload_n 0, 1) := by decide +kernel
theorem dX11_readsTell_102 : decode cX11_readsTell 102 = .ok (.getfield 230, 3) := by decide +kernel
theorem dX11_readsTell_105 : decode cX11_readsTell 105 = .ok (.iastore, 1) := by decide +kernel
theorem dX11_readsTell_106 : decode cX11_readsTell 106 = .ok (.aload_n 0, 1) := by decide +kernel
theorem dX11_readsTell_107 : decode cX11_readsTell 107 = .ok (.getfield 38, 3) := by decide +kernel
theorem dX11_readsTell_110 : decode cX11_readsTell 110 = .ok (.bipush 92, 2) := by decide +kernel
theorem dX11_readsTell_112 : decode cX11_readsTell 112 = .ok (.dup2, 1) := by decide +kernel
theorem dX11_readsTell_113 : decode cX11_readsTell 113 = .ok (.iaload, 1) := by decide +kernel
theorem dX11_readsTell_114 : decode cX11_readsTell 114 = .ok (.iconst 1, 1) := by decide +kernel
theorem dX11_readsTell_115 : decode cX11_readsTell 115 = .ok (.iadd, 1) := by decide +kernel
theorem dX11_readsTell_116 : decode cX11_readsTell 116 = .ok (.iastore, 1) := by decide +kernel
theorem dX11_readsTell_117 : decode cX11_readsTell 117 = .ok (.iconst 1, 1) := by decide +kernel
theorem dX11_readsTell_118 : decode cX11_readsTell 118 = .ok (.ireturn, 1) := by decide +kernel
theorem dX11_readsTell_75 : decode cX11_readsTell 75 = .ok (.iconst 0, 1) := by decide +kernel
theorem dX11_readsTell_76 : decode cX11_readsTell 76 = .ok (.ireturn, 1) := by decide +kernel
theorem dX11_readsTell_51 : decode cX11_readsTell 51 = .ok (.aload_n 0, 1) := by decide +kernel
theorem dX11_readsTell_52 : decode cX11_readsTell 52 = .ok (.getfield 218, 3) := by decide +kernel
theorem dX11_readsTell_55 : decode cX11_readsTell 55 = .ok (.iload_n 2, 1) := by decide +kernel
theorem dX11_readsTell_56 : decode cX11_readsTell 56 = .ok (.if_icmp .eq 19, 3) := by decide +kernel
theorem dX11_readsTell_36 : decode cX11_readsTell 36 = .ok (.iconst 0, 1) := by decide +kernel
theorem dX11_readsTell_37 : decode cX11_readsTell 37 = .ok (.ireturn, 1) := by decide +kernel
theorem dX11_readsTell_14 : decode cX11_readsTell 14 = .ok (.iconst 0, 1) := by decide +kernel
theorem dX11_readsTell_15 : decode cX11_readsTell 15 = .ok (.ireturn, 1) := by decide +kernel
set_option maxHeartbeats 4000000 in
set_option maxRecDepth 100000 in
theorem n_X11_nextSquares (l : Launch) (D : va_G) (cy : Nat → ClassId) (xW : Nat) (xH : Nat) (xS : Nat) (xP : Nat) (mm : Nat) (mm_now : Nat) (mm_kept : Nat) (mm_isKept : Nat) (mm_refused : Nat) (mm_lineFrom : Int32) (mm_lineTo : Int32) (mm_stands : Nat) (mm_far : Nat) (mm_queue : Nat) (mm_queued : Int32) (mm_meets : Nat) (mm_bytes : Nat) (bl : Nat) (ta : Nat) (tl : Nat) (mm_token : Int32) (mm_value : Int32) (mm_next : Nat) (tk : Nat) (mm_next_f : Nat → Int32) (sz : Nat) (hX : mV mm_next_f xW xH xS xP) : Met l yX11_nextSquares wsX11_nextSquares ({ frames := 0, cells := 0, slots := 0, locals := 0 }) (va_Pc [.ref mm] (kPre D cy [(mm, .inr (11, [.ref mm_now, .ref mm_kept, .ref mm_isKept, .ref mm_refused, .int mm_lineFrom, .int mm_lineTo, .ref mm_stands, .ref mm_far, .ref mm_queue, .int mm_queued, .ref mm_meets, .ref mm_bytes, .int (nI bl), .int (nI ta), .int (nI tl), .int mm_token, .int mm_value, .ref mm_next, .int (nI tk)])), (mm_next, .inl (cy 1, 122, .inl mm_next_f))] sz)) (va_Qi (fun (r : Int32) (u : Unit) => r = nI xS) (fun _ _ => True) (fun q : Nat => sz ≤ q)) 0 0 (fun q : Nat => sz ≤ q) := by
  refine Met.ofW (cc := cX11_nextSquares) (maxL := 1) (ret := (some .int)) (by decide) rfl ?_
  intro p e s m args below meth c s₁ B hml hv
  obtain ⟨rfl, hsz, hP, hKA, hD0⟩ := hv
  have hx := B.exec
  have hb := B.bytes
  have hr := B.returns
  have hts := atoms_spec (ws := wsX11_nextSquares) B.pre
  have hown : s.vm.findClass RX11 = some m.cls := findClass_of_methodNamed B.named
  have hlocks := B.notSynchronized
  subst hsz
  have hK := hKA.1
  have hD := hD0
  generalize hAe : (fun q : Nat => s.heap.size ≤ q) = A
  have hA : ∀ q : Nat, s.heap.size ≤ q → A q := fun q h => by rw [← hAe]; exact h
  have hS : va_S A s.heap s.heap [] := va_S.rf
  have hP : va_P D vwCl [(mm, .inr (11, [.ref mm_now, .ref mm_kept, .ref mm_isKept, .ref mm_refused, .int mm_lineFrom, .int mm_lineTo, .ref mm_stands, .ref mm_far, .ref mm_queue, .int mm_queued, .ref mm_meets, .ref mm_bytes, .int (nI bl), .int (nI ta), .int (nI tl), .int mm_token, .int mm_value, .ref mm_next, .int (nI tk)])), (mm_next, .inl (cy 1, 122, .inl mm_next_f))] s.heap := hP
  have hl := lv_entry ([.ref mm]) (n := 1) (Nat.le_of_ble_eq_true rfl)
  rw [lg_entry_eq]
  generalize (lg_sl ([.ref mm]) ++ List.replicate (1 - (lg_sl ([.ref mm])).length) Slot.unset).toArray = ls at hl ⊢
  have hl : lv_has ls 1 [(0, .ref mm)] := hl
  refine qW (fun QF hQF => ?_)
  have z0_ := hts (.fieldLink RX11 38 "HeardSeenModel" "next" "[I") (by decide +kernel)
  have zi11_ : ∀ w ∈ u_ws RX11 TX11 19, w ∈ wsX11_nextSquares := by decide +kernel
  refine lv_aload_n hx hb dX11_nextSquares_0 rfl (lv_at hl 0 rfl) ?_
  refine va_get (D := D) (ci := 11) (v := .ref mm_next) (C := RX11) (T := TX11) (N := 19) hx hb hts zi11_ hown hK hP 0 rfl rfl 17 (by decide) z0_ (fun _ h9 => h9) rfl dX11_nextSquares_1 ?_
  refine lv_iconst (v := 0) hx hb dX11_nextSquares_4 (by decide) ?_
  refine my_iald hx hb hK hP 1 1 rfl rfl (by rw [vp_in_iff]; decide +kernel) (k := 0) (by decide +kernel) dX11_nextSquares_5 ?_
  refine lv_aload_n hx hb dX11_nextSquares_6 rfl (lv_at hl 0 rfl) ?_
  refine va_get (D := D) (ci := 11) (v := .ref mm_next) (C := RX11) (T := TX11) (N := 19) hx hb hts zi11_ hown hK hP 0 rfl rfl 17 (by decide) z0_ (fun _ h9 => h9) rfl dX11_nextSquares_7 ?_
  refine lv_iconst (v := 1) hx hb dX11_nextSquares_10 (by decide) ?_
  refine my_iald hx hb hK hP 1 1 rfl rfl (by rw [vp_in_iff]; decide +kernel) (k := 1) (by decide +kernel) dX11_nextSquares_11 ?_
  refine lv_imul hx hb dX11_nextSquares_12 ?_
  subst hQF
  exact W.iret (v := (mm_next_f 0) * (mm_next_f 1)) hx hb hr (fun t ht hW => ⟨⟨(mm_next_f 0) * (mm_next_f 1), (), rfl, hX.sq, trivial⟩, hS.F ht⟩) hS.2.2 dX11_nextSquares_13

set_option maxHeartbeats 4000000 in
set_option maxRecDepth 100000 in
theorem n_X11_isNextFree (l : Launch) (D : va_G) (cy : Nat → ClassId) (xW : Nat) (xH : Nat) (xS : Nat) (xP : Nat) (mm : Nat) (mm_now : Nat) (mm_kept : Nat) (mm_isKept : Nat) (mm_refused : Nat) (mm_lineFrom : Int32) (mm_lineTo : Int32) (mm_stands : Nat) (mm_far : Nat) (mm_queue : Nat) (mm_queued : Int32) (mm_meets : Nat) (mm_bytes : Nat) (bl : Nat) (ta : Nat) (tl : Nat) (mm_token : Int32) (mm_value : Int32) (mm_next : Nat) (tk : Nat) (mm_next_f : Nat → Int32) (px : Int32) (sz : Nat) (hX : mV mm_next_f xW xH xS xP) : Met l yX11_isNextFree wsX11_isNextFree ({ frames := 1, cells := 0, slots := 0, locals := 25 }) (va_Pc [.ref mm, .int px] (kPre D cy [(mm, .inr (11, [.ref mm_now, .ref mm_kept, .ref mm_isKept, .ref mm_refused, .int mm_lineFrom, .int mm_lineTo, .ref mm_stands, .ref mm_far, .ref mm_queue, .int mm_queued, .ref mm_meets, .ref mm_bytes, .int (nI bl), .int (nI ta), .int (nI tl), .int mm_token, .int mm_value, .ref mm_next, .int (nI tk)])), (mm_next, .inl (cy 1, 122, .inl mm_next_f))] sz)) (va_Qi (fun (r : Int32) (u : Unit) => (r = 1 ∧ (∃ j : Nat, j < xS ∧ px = nI j)) ∨ (r = 0 ∧ True)) (fun _ _ => True) (fun q : Nat => sz ≤ q)) 0 0 (fun q : Nat => sz ≤ q) := by
  refine Met.ofW (cc := cX11_isNextFree) (maxL := 2) (ret := (some .boolean)) (by decide) rfl ?_
  intro p e s m args below meth c s₁ B hml hv
  obtain ⟨rfl, hsz, hP, hKA, hD0⟩ := hv
  have hx := B.exec
  have hb := B.bytes
  have hr := B.returns
  have hts := atoms_spec (ws := wsX11_isNextFree) B.pre
  have hown : s.vm.findClass RX11 = some m.cls := findClass_of_methodNamed B.named
  have hlocks := B.notSynchronized
  subst hsz
  have hK := hKA.1
  have hD := hD0
  generalize hAe : (fun q : Nat => s.heap.size ≤ q) = A
  have hA : ∀ q : Nat, s.heap.size ≤ q → A q := fun q h => by rw [← hAe]; exact h
  have hS : va_S A s.heap s.heap [] := va_S.rf
  have hP : va_P D vwCl [(mm, .inr (11, [.ref mm_now, .ref mm_kept, .ref mm_isKept, .ref mm_refused, .int mm_lineFrom, .int mm_lineTo, .ref mm_stands, .ref mm_far, .ref mm_queue, .int mm_queued, .ref mm_meets, .ref mm_bytes, .int (nI bl), .int (nI ta), .int (nI tl), .int mm_token, .int mm_value, .ref mm_next, .int (nI tk)])), (mm_next, .inl (cy 1, 122, .inl mm_next_f))] s.heap := hP
  have hl := lv_entry ([.ref mm, .int px]) (n := 2) (Nat.le_of_ble_eq_true rfl)
  rw [lg_entry_eq]
  generalize (lg_sl ([.ref mm, .int px]) ++ List.replicate (2 - (lg_sl ([.ref mm, .int px])).length) Slot.unset).toArray = ls at hl ⊢
  have hl : lv_has ls 2 [(0, .ref mm), (1, .int px)] := hl
  refine qW (fun QF hQF => ?_)
  have z0_ := hts (.fieldLink RX11 38 "HeardSeenModel" "next" "[I") (by decide +kernel)
  have zi11_ : ∀ w ∈ u_ws RX11 TX11 19, w ∈ wsX11_isNextFree := by decide +kernel
  obtain ⟨hxW2, hxW6, hxH2, hxH6, hxSe, hxS4, hxS6, hxP5⟩ := hX.rng
  refine lv_iload_n hx hb dX11_isNextFree_0 rfl (lv_at hl 1 rfl) ?_
  refine lv_i2l hx hb dX11_isNextFree_1 rfl ?_
  refine lv_lconst (v := 0) hx hb dX11_isNextFree_2 (by decide) ?_
  refine lv_aload_n hx hb dX11_isNextFree_3 rfl (lv_at hl 0 rfl) ?_
  refine rd_i (va_runV (As := []) (rest := [.long 0, .long px.toInt64]) ⟨hx, hb, hml, hown, hts⟩ (n_X11_nextSquares l D cy xW xH xS xP mm mm_now mm_kept mm_isKept mm_refused mm_lineFrom mm_lineTo mm_stands mm_far mm_queue mm_queued mm_meets mm_bytes bl ta tl mm_token mm_value mm_next tk mm_next_f _ (by first | assumption | omega)) (cwV 0 hts gX11_isNextFree_X11_nextSquares rfl rfl rfl (by decide +kernel) ⟨Nat.le_of_ble_eq_true rfl, Nat.le_of_ble_eq_true rfl⟩) (pV (ci := 11) (k := 0) hKA (hP.sub (ws' := [(mm, .inr (11, [.ref mm_now, .ref mm_kept, .ref mm_isKept, .ref mm_refused, .int mm_lineFrom, .int mm_lineTo, .ref mm_stands, .ref mm_far, .ref mm_queue, .int mm_queued, .ref mm_meets, .ref mm_bytes, .int (nI bl), .int (nI ta), .int (nI tl), .int mm_token, .int mm_value, .ref mm_next, .int (nI tk)])), (mm_next, .inl (cy 1, 122, .inl mm_next_f))]) [0, 1] rfl) (hD.sub (ws' := [(mm, .inr (11, [.ref mm_now, .ref mm_kept, .ref mm_isKept, .ref mm_refused, .int mm_lineFrom, .int mm_lineTo, .ref mm_stands, .ref mm_far, .ref mm_queue, .int mm_queued, .ref mm_meets, .ref mm_bytes, .int (nI bl), .int (nI ta), .int (nI tl), .int mm_token, .int mm_value, .ref mm_next, .int (nI tk)])), (mm_next, .inl (cy 1, 122, .inl mm_next_f))]) [0, 1] (by decide) rfl) rfl rfl) rfl rfl hl.1 rfl (lv_room (Nat.le_of_ble_eq_true rfl)) dX11_isNextFree_4 ⟨Nat.le_of_ble_eq_true rfl, Nat.le_of_ble_eq_true rfl⟩) hP hS hA (fun r1 H locs hwr1 hP hS => ?_)
  have hwr1 : r1 = nI xS := hwr1
  subst hwr1
  refine lv_iconst (v := 1) hx hb dX11_isNextFree_7 (by decide) ?_
  refine lv_isub hx hb dX11_isNextFree_8 ?_
  refine lv_i2l hx hb dX11_isNextFree_9 rfl ?_
  refine rd_i (va_runS (As := [.long px.toInt64, .long 0, .long (((nI xS) - 1).toInt64)]) (rest := []) ⟨hx, hb, hml, hown, hts⟩ (n_X11_in l D cy px.toInt64 (0) (((nI xS) - 1).toInt64) _ ) (va_cwS 3 hts gX11_isNextFree_X11_in rfl rfl rfl (by decide +kernel) ⟨Nat.le_of_ble_eq_true rfl, Nat.le_of_ble_eq_true rfl⟩) (pS hKA pE (dE (A := A))) rfl rfl hl.1 rfl (lv_room (Nat.le_of_ble_eq_true rfl)) dX11_isNextFree_10 ⟨Nat.le_of_ble_eq_true rfl, Nat.le_of_ble_eq_true rfl⟩) hP hS hA (fun r2 H locs hwr2 hP hS => ?_)
  have hwr2 : (r2 = 1 ∧ ((0) ≤ px.toInt64 ∧ px.toInt64 ≤ (((nI xS) - 1).toInt64))) ∨ (r2 = 0 ∧ (¬ ((0) ≤ px.toInt64 ∧ px.toInt64 ≤ (((nI xS) - 1).toInt64)))) := hwr2
  refine lv_if_eq (tgt := 44) hx hb dX11_isNextFree_13 (by decide) (fun c3 => ?_) (fun c3 => ?_)
  · skip
    have hq4 := z_b0 hwr2 c3
    refine lv_iconst (v := 0) hx hb dX11_isNextFree_44 (by decide) ?_
    subst hQF
    exact W.zret (v := 0) hx hb hr rfl (fun t ht hW => ⟨⟨0, (), rfl, (Or.inr ⟨rfl, trivial⟩), trivial⟩, hS.F ht⟩) hS.2.2 dX11_isNextFree_45
  · skip
    obtain ⟨hp5, hp6⟩ := z_b1 hwr2 c3
    obtain ⟨jq, hjq, ejq⟩ := z_ex (n := xS) (by omega) (by assumption) (by assumption)
    refine lv_aload_n hx hb dX11_isNextFree_16 rfl (lv_at hl 0 rfl) ?_
    refine va_get (D := D) (ci := 11) (v := .ref mm_next) (C := RX11) (T := TX11) (N := 19) hx hb hts zi11_ hown hK hP 0 rfl rfl 17 (by decide) z0_ (fun _ h9 => h9) rfl dX11_isNextFree_17 ?_
    refine lv_bipush (v := 20) hx hb dX11_isNextFree_20 (by decide) ?_
    refine lv_iload_n hx hb dX11_isNextFree_22 rfl (lv_at hl 1 rfl) ?_
    refine W.eq (g2 := F0 m 23 ls [.int (nI jq), .int 20, .ref mm_next]) (congrArg (fun v9 : Int32 => F0 m 23 ls [.int v9, .int 20, .ref mm_next]) ejq) ?_
    refine lv_iadd hx hb dX11_isNextFree_23 ?_
    refine lv_topi (fun x7 ex7 => ?_)
    obtain rfl : x7 = nI (20 + jq) := by rw [ex7]; exact nI_add _ _
    refine my_iald hx hb hK hP 1 1 rfl rfl (by first | exact in_ge (N := 122) (by decide) (by omega) (by assumption) | exact vp_in_nI (by omega) (by omega)) (nI_clamp (by omega)) dX11_isNextFree_24 ?_
    refine lv_if_ne (tgt := 44) hx hb dX11_isNextFree_25 (by decide) (fun c8 => ?_) (fun c8 => ?_)
    · skip
      refine lv_iconst (v := 0) hx hb dX11_isNextFree_44 (by decide) ?_
      subst hQF
      exact W.zret (v := 0) hx hb hr rfl (fun t ht hW => ⟨⟨0, (), rfl, (Or.inr ⟨rfl, trivial⟩), trivial⟩, hS.F ht⟩) hS.2.2 dX11_isNextFree_45
    · skip
      refine lv_aload_n hx hb dX11_isNextFree_28 rfl (lv_at hl 0 rfl) ?_
      refine va_get (D := D) (ci := 11) (v := .ref mm_next) (C := RX11) (T := TX11) (N := 19) hx hb hts zi11_ hown hK hP 0 rfl rfl 17 (by decide) z0_ (fun _ h9 => h9) rfl dX11_isNextFree_29 ?_
      refine lv_iload_n hx hb dX11_isNextFree_32 rfl (lv_at hl 1 rfl) ?_
      refine W.eq (g2 := F0 m 33 ls [.int (nI jq), .ref mm_next]) (congrArg (fun v9 : Int32 => F0 m 33 ls [.int v9, .ref mm_next]) ejq) ?_
      refine lv_iconst (v := (-1)) hx hb dX11_isNextFree_33 (by decide) ?_
      refine rd_i (va_runS (As := [.ref mm_next, .int (nI jq), .int (-1)]) (rest := []) ⟨hx, hb, hml, hown, hts⟩ (n_X11_isStood l D cy mm_next mm_next_f (nI jq) (-1) _ (mV.p5 (by assumption))) (va_cwS 3 hts gX11_isNextFree_X11_isStood rfl rfl rfl (by decide +kernel) ⟨Nat.le_of_ble_eq_true rfl, Nat.le_of_ble_eq_true rfl⟩) (pS hKA (hP.sub (ws' := [(mm_next, .inl (cy 1, 122, .inl mm_next_f))]) [1] rfl) (hD.sub (ws' := [(mm_next, .inl (cy 1, 122, .inl mm_next_f))]) [1] (by decide) rfl)) rfl rfl hl.1 rfl (lv_room (Nat.le_of_ble_eq_true rfl)) dX11_isNextFree_34 ⟨Nat.le_of_ble_eq_true rfl, Nat.le_of_ble_eq_true rfl⟩) hP hS hA (fun r9 H locs hwr9 hP hS => ?_)
      have hwr9 : (r9 = 1 ∧ True) ∨ (r9 = 0 ∧ True) := hwr9
      refine lv_if_ne (tgt := 44) hx hb dX11_isNextFree_37 (by decide) (fun c10 => ?_) (fun c10 => ?_)
      · skip
        refine lv_iconst (v := 0) hx hb dX11_isNextFree_44 (by decide) ?_
        subst hQF
        exact W.zret (v := 0) hx hb hr rfl (fun t ht hW => ⟨⟨0, (), rfl, (Or.inr ⟨rfl, trivial⟩), trivial⟩, hS.F ht⟩) hS.2.2 dX11_isNextFree_45
      · skip
        refine lv_iconst (v := 1) hx hb dX11_isNextFree_40 (by decide) ?_
        refine lv_goto (tgt := 45) hx hb dX11_isNextFree_41 (by decide) ?_
        subst hQF
        exact W.zret (v := 1) hx hb hr rfl (fun t ht hW => ⟨⟨1, (), rfl, (Or.inl ⟨rfl, jq, hjq, ejq⟩), trivial⟩, hS.F ht⟩) hS.2.2 dX11_isNextFree_45

set_option maxHeartbeats 4000000 in
set_option maxRecDepth 100000 in
theorem n_X11_readsGarden (l : Launch) (D : va_G) (cy : Nat → ClassId) (mm : Nat) (mm_now : Nat) (mm_kept : Nat) (mm_isKept : Nat) (mm_refused : Nat) (mm_lineFrom : Int32) (mm_lineTo : Int32) (mm_stands : Nat) (mm_far : Nat) (mm_queue : Nat) (mm_queued : Int32) (mm_meets : Nat) (mm_bytes : Nat) (bl : Nat) (ta : Nat) (tl : Nat) (mm_token : Int32) (mm_value : Int32) (mm_next : Nat) (tk : Nat) (mm_bytes_f : Nat → Int32) (mm_next_f : Nat → Int32) (sz : Nat) (hbl : bl ≤ 250) (htt : ta + tl ≤ bl) (htz : mm_token = 0 ∨ 1 ≤ tl) (htk : tk ≤ 35) : Met l yX11_readsGarden wsX11_readsGarden ({ frames := 5, cells := 0, slots := 0, locals := 111 }) (va_Pc [.ref mm] (kPre D cy [(mm, .inr (11, [.ref mm_now, .ref mm_kept, .ref mm_isKept, .ref mm_refused, .int mm_lineFrom, .int mm_lineTo, .ref mm_stands, .ref mm_far, .ref mm_queue, .int mm_queued, .ref mm_meets, .ref mm_bytes, .int (nI bl), .int (nI ta), .int (nI tl), .int mm_token, .int mm_value, .ref mm_next, .int (nI tk)])), (mm_bytes, .inl (cy 1, 250, .inl mm_bytes_f)), (mm_next, .inl (cy 1, 122, .inl mm_next_f))] sz)) (va_Qi (fun (r : Int32) (u : Nat × Nat × Int32 × Int32 × Nat × (Nat → Int32)) => (r = 1 ∧ (u.1 + u.2.1 ≤ bl ∧ (u.2.2.1 = 0 ∨ 1 ≤ u.2.1) ∧ ta ≤ u.1 ∧ u.2.2.2.2.1 ≤ 35 ∧ mN u.2.2.2.2.2)) ∨ (r = 0 ∧ (u.1 + u.2.1 ≤ bl ∧ (u.2.2.1 = 0 ∨ 1 ≤ u.2.1) ∧ ta ≤ u.1 ∧ u.2.2.2.2.1 ≤ 35))) (fun (u : Nat × Nat × Int32 × Int32 × Nat × (Nat → Int32)) t => va_P D vwCl ([(mm, .inr (11, [.ref mm_now, .ref mm_kept, .ref mm_isKept, .ref mm_refused, .int mm_lineFrom, .int mm_lineTo, .ref mm_stands, .ref mm_far, .ref mm_queue, .int mm_queued, .ref mm_meets, .ref mm_bytes, .int (nI bl), .int (nI u.1), .int (nI u.2.1), .int u.2.2.1, .int u.2.2.2.1, .ref mm_next, .int (nI u.2.2.2.2.1)])), (mm_bytes, .inl (cy 1, 250, .inl mm_bytes_f)), (mm_next, .inl (cy 1, 122, .inl u.2.2.2.2.2))]) t.heap ∧ va_D (va_A [(mm, .inr (11, [.ref mm_now, .ref mm_kept, .ref mm_isKept, .ref mm_refused, .int mm_lineFrom, .int mm_lineTo, .ref mm_stands, .ref mm_far, .ref mm_queue, .int mm_queued, .ref mm_meets, .ref mm_bytes, .int (nI bl), .int (nI ta), .int (nI tl), .int mm_token, .int mm_value, .ref mm_next, .int (nI tk)])), (mm_bytes, .inl (cy 1, 250, .inl mm_bytes_f)), (mm_next, .inl (cy 1, 122, .inl mm_next_f))] sz) ([(mm, .inr (11, [.ref mm_now, .ref mm_kept, .ref mm_isKept, .ref mm_refused, .int mm_lineFrom, .int mm_lineTo, .ref mm_stands, .ref mm_far, .ref mm_queue, .int mm_queued, .ref mm_meets, .ref mm_bytes, .int (nI bl), .int (nI u.1), .int (nI u.2.1), .int u.2.2.1, .int u.2.2.2.1, .ref mm_next, .int (nI u.2.2.2.2.1)])), (mm_bytes, .inl (cy 1, 250, .inl mm_bytes_f)), (mm_next, .inl (cy 1, 122, .inl u.2.2.2.2.2))])) (va_A [(mm, .inr (11, [.ref mm_now, .ref mm_kept, .ref mm_isKept, .ref mm_refused, .int mm_lineFrom, .int mm_lineTo, .ref mm_stands, .ref mm_far, .ref mm_queue, .int mm_queued, .ref mm_meets, .ref mm_bytes, .int (nI bl), .int (nI ta), .int (nI tl), .int mm_token, .int mm_value, .ref mm_next, .int (nI tk)])), (mm_bytes, .inl (cy 1, 250, .inl mm_bytes_f)), (mm_next, .inl (cy 1, 122, .inl mm_next_f))] sz)) 0 0 (va_A [(mm, .inr (11, [.ref mm_now, .ref mm_kept, .ref mm_isKept, .ref mm_refused, .int mm_lineFrom, .int mm_lineTo, .ref mm_stands, .ref mm_far, .ref mm_queue, .int mm_queued, .ref mm_meets, .ref mm_bytes, .int (nI bl), .int (nI ta), .int (nI tl), .int mm_token, .int mm_value, .ref mm_next, .int (nI tk)])), (mm_bytes, .inl (cy 1, 250, .inl mm_bytes_f)), (mm_next, .inl (cy 1, 122, .inl mm_next_f))] sz) := by
  refine Met.ofW (cc := cX11_readsGarden) (maxL := 2) (ret := (some .boolean)) (by decide) rfl ?_
  intro p e s m args below meth c s₁ B hml hv
  obtain ⟨rfl, hsz, hP, hKA, hD0⟩ := hv
  have hx := B.exec
  have hb := B.bytes
  have hr := B.returns
  have hts := atoms_spec (ws := wsX11_readsGarden) B.pre
  have hown : s.vm.findClass RX11 = some m.cls := findClass_of_methodNamed B.named
  have hlocks := B.notSynchronized
  subst hsz
  have hK := hKA.1
  have hD := hD0.self (sz := s.heap.size)
  generalize hAe : va_A [(mm, .inr (11, [.ref mm_now, .ref mm_kept, .ref mm_isKept, .ref mm_refused, .int mm_lineFrom, .int mm_lineTo, .ref mm_stands, .ref mm_far, .ref mm_queue, .int mm_queued, .ref mm_meets, .ref mm_bytes, .int (nI bl), .int (nI ta), .int (nI tl), .int mm_token, .int mm_value, .ref mm_next, .int (nI tk)])), (mm_bytes, .inl (cy 1, 250, .inl mm_bytes_f)), (mm_next, .inl (cy 1, 122, .inl mm_next_f))] s.heap.size = A at hD ⊢
  have hA : ∀ q : Nat, s.heap.size ≤ q → A q := fun q h => by rw [← hAe]; exact Or.inr h
  have hS : va_S A s.heap s.heap [] := va_S.rf
  have hP : va_P D vwCl [(mm, .inr (11, [.ref mm_now, .ref mm_kept, .ref mm_isKept, .ref mm_refused, .int mm_lineFrom, .int mm_lineTo, .ref mm_stands, .ref mm_far, .ref mm_queue, .int mm_queued, .ref mm_meets, .ref mm_bytes, .int (nI bl), .int (nI ta), .int (nI tl), .int mm_token, .int mm_value, .ref mm_next, .int (nI tk)])), (mm_bytes, .inl (cy 1, 250, .inl mm_bytes_f)), (mm_next, .inl (cy 1, 122, .inl mm_next_f))] s.heap := hP
  have hl := lv_entry ([.ref mm]) (n := 2) (Nat.le_of_ble_eq_true rfl)
  rw [lg_entry_eq]
  generalize (lg_sl ([.ref mm]) ++ List.replicate (2 - (lg_sl ([.ref mm])).length) Slot.unset).toArray = ls at hl ⊢
  have hl : lv_has ls 2 [(0, .ref mm)] := hl
  refine qW (fun QF hQF => ?_)
  have z0_ := hts (.fieldLink RX11 230 "HeardSeenModel" "taken" "I") (by decide +kernel)
  have zi11_ : ∀ w ∈ u_ws RX11 TX11 19, w ∈ wsX11_readsGarden := by decide +kernel
  have z2_ := hts (.fieldLink RX11 38 "HeardSeenModel" "next" "[I") (by decide +kernel)
  have z3_ := hts (.fieldLink RX11 215 "HeardSeenModel" "token" "I") (by decide +kernel)
  have c1 : (1 : Int32).toInt = 1 := by decide
  have c4 : (4 : Int32).toInt = 4 := by decide
  have c5 : (5 : Int32).toInt = 5 := by decide
  have c6 : (6 : Int32).toInt = 6 := by decide
  have c9 : (9 : Int32).toInt = 9 := by decide
  refine lv_aload_n hx hb dX11_readsGarden_0 rfl (lv_at hl 0 rfl) ?_
  refine lv_bipush (v := 103) hx hb dX11_readsGarden_1 (by decide) ?_
  refine lv_bipush (v := 97) hx hb dX11_readsGarden_3 (by decide) ?_
  refine lv_bipush (v := 114) hx hb dX11_readsGarden_5 (by decide) ?_
  refine lv_bipush (v := 100) hx hb dX11_readsGarden_7 (by decide) ?_
  refine rd_i (va_runV (As := [.int 103, .int 97, .int 114, .int 100]) (rest := []) ⟨hx, hb, hml, hown, hts⟩ (n_X11_isWord l D cy mm mm_now mm_kept mm_isKept mm_refused mm_lineFrom mm_lineTo mm_stands mm_far mm_queue mm_queued mm_meets mm_bytes bl ta tl mm_token mm_value mm_next tk mm_bytes_f (103) (97) (114) (100) _ (by first | assumption | omega) (by first | assumption | omega)) (cwV 4 hts gX11_readsGarden_X11_isWord rfl rfl rfl (by decide +kernel) ⟨Nat.le_of_ble_eq_true rfl, Nat.le_of_ble_eq_true rfl⟩) (pV (ci := 11) (k := 0) hKA (hP.sub (ws' := [(mm, .inr (11, [.ref mm_now, .ref mm_kept, .ref mm_isKept, .ref mm_refused, .int mm_lineFrom, .int mm_lineTo, .ref mm_stands, .ref mm_far, .ref mm_queue, .int mm_queued, .ref mm_meets, .ref mm_bytes, .int (nI bl), .int (nI ta), .int (nI tl), .int mm_token, .int mm_value, .ref mm_next, .int (nI tk)])), (mm_bytes, .inl (cy 1, 250, .inl mm_bytes_f))]) [0, 1] rfl) (hD.sub (ws' := [(mm, .inr (11, [.ref mm_now, .ref mm_kept, .ref mm_isKept, .ref mm_refused, .int mm_lineFrom, .int mm_lineTo, .ref mm_stands, .ref mm_far, .ref mm_queue, .int mm_queued, .ref mm_meets, .ref mm_bytes, .int (nI bl), .int (nI ta), .int (nI tl), .int mm_token, .int mm_value, .ref mm_next, .int (nI tk)])), (mm_bytes, .inl (cy 1, 250, .inl mm_bytes_f))]) [0, 1] (by decide) rfl) rfl rfl) rfl rfl hl.1 rfl (lv_room (Nat.le_of_ble_eq_true rfl)) dX11_readsGarden_9 ⟨Nat.le_of_ble_eq_true rfl, Nat.le_of_ble_eq_true rfl⟩) hP hS hA (fun r1 H locs hwr1 hP hS => ?_)
  have hwr1 : (r1 = 1 ∧ True) ∨ (r1 = 0 ∧ True) := hwr1
  refine lv_if_eq (tgt := 28) hx hb dX11_readsGarden_12 (by decide) (fun c2 => ?_) (fun c2 => ?_)
  · skip
    refine lv_iconst (v := 0) hx hb dX11_readsGarden_28 (by decide) ?_
    subst hQF
    have hP9 := hP
    have hD9 := hD
    exact W.zret (v := 0) hx hb hr rfl (fun t ht hW => ⟨⟨0, (ta, tl, mm_token, mm_value, tk, mm_next_f), rfl, (Or.inr ⟨rfl, (show ta + tl ≤ bl by omega), (by assumption), (show ta ≤ ta by omega), (show tk ≤ 35 by omega)⟩), by rw [ht]; exact hP9, hD9⟩, hS.F ht⟩) hS.2.2 dX11_readsGarden_29
  · skip
    refine lv_aload_n hx hb dX11_readsGarden_15 rfl (lv_at hl 0 rfl) ?_
    refine lv_bipush (v := 101) hx hb dX11_readsGarden_16 (by decide) ?_
    refine lv_bipush (v := 110) hx hb dX11_readsGarden_18 (by decide) ?_
    refine lv_iconst (v := 0) hx hb dX11_readsGarden_20 (by decide) ?_
    refine lv_iconst (v := 0) hx hb dX11_readsGarden_21 (by decide) ?_
    refine rd_i (va_runV (As := [.int 101, .int 110, .int 0, .int 0]) (rest := []) ⟨hx, hb, hml, hown, hts⟩ (n_X11_goesOn l D cy mm mm_now mm_kept mm_isKept mm_refused mm_lineFrom mm_lineTo mm_stands mm_far mm_queue mm_queued mm_meets mm_bytes bl ta tl mm_token mm_value mm_next tk mm_bytes_f (101) (110) (0) (0) _ (by first | assumption | omega) (by first | assumption | omega)) (cwV 4 hts gX11_readsGarden_X11_goesOn rfl rfl rfl (by decide +kernel) ⟨Nat.le_of_ble_eq_true rfl, Nat.le_of_ble_eq_true rfl⟩) (pV (ci := 11) (k := 0) hKA (hP.sub (ws' := [(mm, .inr (11, [.ref mm_now, .ref mm_kept, .ref mm_isKept, .ref mm_refused, .int mm_lineFrom, .int mm_lineTo, .ref mm_stands, .ref mm_far, .ref mm_queue, .int mm_queued, .ref mm_meets, .ref mm_bytes, .int (nI bl), .int (nI ta), .int (nI tl), .int mm_token, .int mm_value, .ref mm_next, .int (nI tk)])), (mm_bytes, .inl (cy 1, 250, .inl mm_bytes_f))]) [0, 1] rfl) (hD.sub (ws' := [(mm, .inr (11, [.ref mm_now, .ref mm_kept, .ref mm_isKept, .ref mm_refused, .int mm_lineFrom, .int mm_lineTo, .ref mm_stands, .ref mm_far, .ref mm_queue, .int mm_queued, .ref mm_meets, .ref mm_bytes, .int (nI bl), .int (nI ta), .int (nI tl), .int mm_token, .int mm_value, .ref mm_next, .int (nI tk)])), (mm_bytes, .inl (cy 1, 250, .inl mm_bytes_f))]) [0, 1] (by decide) rfl) rfl rfl) rfl rfl hl.1 rfl (lv_room (Nat.le_of_ble_eq_true rfl)) dX11_readsGarden_22 ⟨Nat.le_of_ble_eq_true rfl, Nat.le_of_ble_eq_true rfl⟩) hP hS hA (fun r3 H locs hwr3 hP hS => ?_)
    have hwr3 : (r3 = 1 ∧ True) ∨ (r3 = 0 ∧ True) := hwr3
    refine lv_if_ne (tgt := 30) hx hb dX11_readsGarden_25 (by decide) (fun c4 => ?_) (fun c4 => ?_)
    · skip
      refine lv_aload_n hx hb dX11_readsGarden_30 rfl (lv_at hl 0 rfl) ?_
      refine wr_v (wr := [(mm_next, .inl (cy 1, 122, .inl mm_next_f))]) (va_runV (As := []) (rest := []) ⟨hx, hb, hml, hown, hts⟩ (n_X11_goOn l D cy mm mm_now mm_kept mm_isKept mm_refused mm_lineFrom mm_lineTo mm_stands mm_far mm_queue mm_queued mm_meets mm_bytes bl ta tl mm_token mm_value mm_next tk mm_bytes_f _ (by first | assumption | omega) (by first | assumption | omega)) (cwV 0 hts gX11_readsGarden_X11_goOn rfl rfl rfl (by decide +kernel) ⟨Nat.le_of_ble_eq_true rfl, Nat.le_of_ble_eq_true rfl⟩) (pV (ci := 11) (k := 0) hKA (hP.sub (ws' := [(mm, .inr (11, [.ref mm_now, .ref mm_kept, .ref mm_isKept, .ref mm_refused, .int mm_lineFrom, .int mm_lineTo, .ref mm_stands, .ref mm_far, .ref mm_queue, .int mm_queued, .ref mm_meets, .ref mm_bytes, .int (nI bl), .int (nI ta), .int (nI tl), .int mm_token, .int mm_value, .ref mm_next, .int (nI tk)])), (mm_bytes, .inl (cy 1, 250, .inl mm_bytes_f))]) [0, 1] rfl) (hD.sub (ws' := [(mm, .inr (11, [.ref mm_now, .ref mm_kept, .ref mm_isKept, .ref mm_refused, .int mm_lineFrom, .int mm_lineTo, .ref mm_stands, .ref mm_far, .ref mm_queue, .int mm_queued, .ref mm_meets, .ref mm_bytes, .int (nI bl), .int (nI ta), .int (nI tl), .int mm_token, .int mm_value, .ref mm_next, .int (nI tk)])), (mm_bytes, .inl (cy 1, 250, .inl mm_bytes_f))]) [0, 1] (by decide) rfl) rfl rfl) rfl rfl hl.1 rfl (lv_room (Nat.le_of_ble_eq_true rfl)) dX11_readsGarden_31 ⟨Nat.le_of_ble_eq_true rfl, Nat.le_of_ble_eq_true rfl⟩) hP hD hS hA [0, 1] [2] rfl rfl (by decide +kernel) (by decide +kernel) (fun ur5 H locs hwr5 hP hD hS => ?_)
      obtain ⟨z6, z7, z8, z9⟩ := ur5
      have hP : va_P D vwCl [(mm_next, .inl (cy 1, 122, .inl mm_next_f)), (mm, .inr (11, [.ref mm_now, .ref mm_kept, .ref mm_isKept, .ref mm_refused, .int mm_lineFrom, .int mm_lineTo, .ref mm_stands, .ref mm_far, .ref mm_queue, .int mm_queued, .ref mm_meets, .ref mm_bytes, .int (nI bl), .int (nI z6), .int (nI z7), .int z8, .int z9, .ref mm_next, .int (nI tk)])), (mm_bytes, .inl (cy 1, 250, .inl mm_bytes_f))] H := hP
      have hD : va_D A [(mm_next, .inl (cy 1, 122, .inl mm_next_f)), (mm, .inr (11, [.ref mm_now, .ref mm_kept, .ref mm_isKept, .ref mm_refused, .int mm_lineFrom, .int mm_lineTo, .ref mm_stands, .ref mm_far, .ref mm_queue, .int mm_queued, .ref mm_meets, .ref mm_bytes, .int (nI bl), .int (nI z6), .int (nI z7), .int z8, .int z9, .ref mm_next, .int (nI tk)])), (mm_bytes, .inl (cy 1, 250, .inl mm_bytes_f))] := hD
      have hwr5 : z6 + z7 ≤ bl ∧ (z8 = 0 ∨ 1 ≤ z7) ∧ ta + tl ≤ z6 := hwr5
      obtain ⟨har5, hbr5, hcr5⟩ := hwr5
      refine lv_aload_n hx hb dX11_readsGarden_34 rfl (lv_at hl 0 rfl) ?_
      refine lv_iconst (v := 2) hx hb dX11_readsGarden_35 (by decide) ?_
      refine lv_bipush (v := 6) hx hb dX11_readsGarden_36 (by decide) ?_
      refine wr_i (wr := [(mm_next, .inl (cy 1, 122, .inl mm_next_f))]) (va_runV (As := [.int 2, .int 6]) (rest := []) ⟨hx, hb, hml, hown, hts⟩ (n_X11_takes l D cy mm mm_now mm_kept mm_isKept mm_refused mm_lineFrom mm_lineTo mm_stands mm_far mm_queue mm_queued mm_meets mm_bytes bl z6 z7 z8 z9 mm_next tk mm_bytes_f 2 (6) _ (by first | assumption | omega) (by first | assumption | omega) (by first | assumption | omega) (by first | assumption | omega) (by first | assumption | omega) (by first | decide | exact z_pmle (by omega))) (cwV 2 hts gX11_readsGarden_X11_takes rfl rfl rfl (by decide +kernel) ⟨Nat.le_of_ble_eq_true rfl, Nat.le_of_ble_eq_true rfl⟩) (pV (ci := 11) (k := 0) hKA (hP.sub (ws' := [(mm, .inr (11, [.ref mm_now, .ref mm_kept, .ref mm_isKept, .ref mm_refused, .int mm_lineFrom, .int mm_lineTo, .ref mm_stands, .ref mm_far, .ref mm_queue, .int mm_queued, .ref mm_meets, .ref mm_bytes, .int (nI bl), .int (nI z6), .int (nI z7), .int z8, .int z9, .ref mm_next, .int (nI tk)])), (mm_bytes, .inl (cy 1, 250, .inl mm_bytes_f))]) [1, 2] rfl) (hD.sub (ws' := [(mm, .inr (11, [.ref mm_now, .ref mm_kept, .ref mm_isKept, .ref mm_refused, .int mm_lineFrom, .int mm_lineTo, .ref mm_stands, .ref mm_far, .ref mm_queue, .int mm_queued, .ref mm_meets, .ref mm_bytes, .int (nI bl), .int (nI z6), .int (nI z7), .int z8, .int z9, .ref mm_next, .int (nI tk)])), (mm_bytes, .inl (cy 1, 250, .inl mm_bytes_f))]) [1, 2] (by decide) rfl) rfl rfl) rfl rfl hl.1 rfl (lv_room (Nat.le_of_ble_eq_true rfl)) dX11_readsGarden_38 ⟨Nat.le_of_ble_eq_true rfl, Nat.le_of_ble_eq_true rfl⟩) hP hD hS hA [1, 2] [0] rfl rfl (by decide +kernel) (by decide +kernel) (fun r10 ur10 H locs hwr10 hP hD hS => ?_)
      obtain ⟨z11, z12, z13, z14, z15⟩ := ur10
      have hP : va_P D vwCl [(mm_next, .inl (cy 1, 122, .inl mm_next_f)), (mm, .inr (11, [.ref mm_now, .ref mm_kept, .ref mm_isKept, .ref mm_refused, .int mm_lineFrom, .int mm_lineTo, .ref mm_stands, .ref mm_far, .ref mm_queue, .int mm_queued, .ref mm_meets, .ref mm_bytes, .int (nI bl), .int (nI z11), .int (nI z12), .int z13, .int z14, .ref mm_next, .int (nI z15)])), (mm_bytes, .inl (cy 1, 250, .inl mm_bytes_f))] H := hP
      have hD : va_D A [(mm_next, .inl (cy 1, 122, .inl mm_next_f)), (mm, .inr (11, [.ref mm_now, .ref mm_kept, .ref mm_isKept, .ref mm_refused, .int mm_lineFrom, .int mm_lineTo, .ref mm_stands, .ref mm_far, .ref mm_queue, .int mm_queued, .ref mm_meets, .ref mm_bytes, .int (nI bl), .int (nI z11), .int (nI z12), .int z13, .int z14, .ref mm_next, .int (nI z15)])), (mm_bytes, .inl (cy 1, 250, .inl mm_bytes_f))] := hD
      have hwr10 : (r10 = 1 ∧ (z11 + z12 ≤ bl ∧ (z13 = 0 ∨ 1 ≤ z12) ∧ z6 ≤ z11 ∧ z15 ≤ 35 ∧ 2 ≤ z15 ∧ (z15 : Int) ≤ ((6) : Int32).toInt)) ∨ (r10 = 0 ∧ (z11 + z12 ≤ bl ∧ (z13 = 0 ∨ 1 ≤ z12) ∧ z6 ≤ z11 ∧ z15 ≤ 35)) := hwr10
      refine lv_if_ne (tgt := 46) hx hb dX11_readsGarden_41 (by decide) (fun c16 => ?_) (fun c16 => ?_)
      · skip
        obtain ⟨hp17, hp18, hp19, hp20, hp21, hp22⟩ := z_b1 hwr10 c16
        refine lv_aload_n hx hb dX11_readsGarden_46 rfl (lv_at hl 0 rfl) ?_
        refine va_get (D := D) (ci := 11) (v := .int (nI z15)) (C := RX11) (T := TX11) (N := 19) hx hb hts zi11_ hown hK hP 1 rfl rfl 18 (by decide) z0_ (fun _ h9 => h9) rfl dX11_readsGarden_47 ?_
        refine lv_istore_n (lv' := [(1, .int (nI z15)), (0, .ref mm)]) hx hb dX11_readsGarden_50 rfl hl (by decide) rfl (fun ls hl => ?_)
        refine lv_aload_n hx hb dX11_readsGarden_51 rfl (lv_at hl 1 rfl) ?_
        refine lv_iconst (v := 2) hx hb dX11_readsGarden_52 (by decide) ?_
        refine lv_bipush (v := 6) hx hb dX11_readsGarden_53 (by decide) ?_
        refine wr_i (wr := [(mm_next, .inl (cy 1, 122, .inl mm_next_f))]) (va_runV (As := [.int 2, .int 6]) (rest := []) ⟨hx, hb, hml, hown, hts⟩ (n_X11_takes l D cy mm mm_now mm_kept mm_isKept mm_refused mm_lineFrom mm_lineTo mm_stands mm_far mm_queue mm_queued mm_meets mm_bytes bl z11 z12 z13 z14 mm_next z15 mm_bytes_f 2 (6) _ (by first | assumption | omega) (by first | assumption | omega) (by first | assumption | omega) (by first | assumption | omega) (by first | assumption | omega) (by first | decide | exact z_pmle (by omega))) (cwV 2 hts gX11_readsGarden_X11_takes rfl rfl rfl (by decide +kernel) ⟨Nat.le_of_ble_eq_true rfl, Nat.le_of_ble_eq_true rfl⟩) (pV (ci := 11) (k := 0) hKA (hP.sub (ws' := [(mm, .inr (11, [.ref mm_now, .ref mm_kept, .ref mm_isKept, .ref mm_refused, .int mm_lineFrom, .int mm_lineTo, .ref mm_stands, .ref mm_far, .ref mm_queue, .int mm_queued, .ref mm_meets, .ref mm_bytes, .int (nI bl), .int (nI z11), .int (nI z12), .int z13, .int z14, .ref mm_next, .int (nI z15)])), (mm_bytes, .inl (cy 1, 250, .inl mm_bytes_f))]) [1, 2] rfl) (hD.sub (ws' := [(mm, .inr (11, [.ref mm_now, .ref mm_kept, .ref mm_isKept, .ref mm_refused, .int mm_lineFrom, .int mm_lineTo, .ref mm_stands, .ref mm_far, .ref mm_queue, .int mm_queued, .ref mm_meets, .ref mm_bytes, .int (nI bl), .int (nI z11), .int (nI z12), .int z13, .int z14, .ref mm_next, .int (nI z15)])), (mm_bytes, .inl (cy 1, 250, .inl mm_bytes_f))]) [1, 2] (by decide) rfl) rfl rfl) rfl rfl hl.1 rfl (lv_room (Nat.le_of_ble_eq_true rfl)) dX11_readsGarden_55 ⟨Nat.le_of_ble_eq_true rfl, Nat.le_of_ble_eq_true rfl⟩) hP hD hS hA [1, 2] [0] rfl rfl (by decide +kernel) (by decide +kernel) (fun r23 ur23 H locs hwr23 hP hD hS => ?_)
        obtain ⟨z24, z25, z26, z27, z28⟩ := ur23
        have hP : va_P D vwCl [(mm_next, .inl (cy 1, 122, .inl mm_next_f)), (mm, .inr (11, [.ref mm_now, .ref mm_kept, .ref mm_isKept, .ref mm_refused, .int mm_lineFrom, .int mm_lineTo, .ref mm_stands, .ref mm_far, .ref mm_queue, .int mm_queued, .ref mm_meets, .ref mm_bytes, .int (nI bl), .int (nI z24), .int (nI z25), .int z26, .int z27, .ref mm_next, .int (nI z28)])), (mm_bytes, .inl (cy 1, 250, .inl mm_bytes_f))] H := hP
        have hD : va_D A [(mm_next, .inl (cy 1, 122, .inl mm_next_f)), (mm, .inr (11, [.ref mm_now, .ref mm_kept, .ref mm_isKept, .ref mm_refused, .int mm_lineFrom, .int mm_lineTo, .ref mm_stands, .ref mm_far, .ref mm_queue, .int mm_queued, .ref mm_meets, .ref mm_bytes, .int (nI bl), .int (nI z24), .int (nI z25), .int z26, .int z27, .ref mm_next, .int (nI z28)])), (mm_bytes, .inl (cy 1, 250, .inl mm_bytes_f))] := hD
        have hwr23 : (r23 = 1 ∧ (z24 + z25 ≤ bl ∧ (z26 = 0 ∨ 1 ≤ z25) ∧ z11 ≤ z24 ∧ z28 ≤ 35 ∧ 2 ≤ z28 ∧ (z28 : Int) ≤ ((6) : Int32).toInt)) ∨ (r23 = 0 ∧ (z24 + z25 ≤ bl ∧ (z26 = 0 ∨ 1 ≤ z25) ∧ z11 ≤ z24 ∧ z28 ≤ 35)) := hwr23
        refine lv_if_ne (tgt := 63) hx hb dX11_readsGarden_58 (by decide) (fun c29 => ?_) (fun c29 => ?_)
        · skip
          obtain ⟨hp30, hp31, hp32, hp33, hp34, hp35⟩ := z_b1 hwr23 c29
          refine lv_aload_n hx hb dX11_readsGarden_63 rfl (lv_at hl 1 rfl) ?_
          refine va_get (D := D) (ci := 11) (v := .ref mm_next) (C := RX11) (T := TX11) (N := 19) hx hb hts zi11_ hown hK hP 1 rfl rfl 17 (by decide) z2_ (fun _ h9 => h9) rfl dX11_readsGarden_64 ?_
          refine lv_iload_n hx hb dX11_readsGarden_67 rfl (lv_at hl 0 rfl) ?_
          refine lv_aload_n hx hb dX11_readsGarden_68 rfl (lv_at hl 1 rfl) ?_
          refine va_get (D := D) (ci := 11) (v := .int (nI z28)) (C := RX11) (T := TX11) (N := 19) hx hb hts zi11_ hown hK hP 1 rfl rfl 18 (by decide) z0_ (fun _ h9 => h9) rfl dX11_readsGarden_69 ?_
          refine wr_v (wr := [(mm, .inr (11, [.ref mm_now, .ref mm_kept, .ref mm_isKept, .ref mm_refused, .int mm_lineFrom, .int mm_lineTo, .ref mm_stands, .ref mm_far, .ref mm_queue, .int mm_queued, .ref mm_meets, .ref mm_bytes, .int (nI bl), .int (nI z24), .int (nI z25), .int z26, .int z27, .ref mm_next, .int (nI z28)])), (mm_bytes, .inl (cy 1, 250, .inl mm_bytes_f))]) (va_runS (As := [.ref mm_next, .int (nI z15), .int (nI z28)]) (rest := []) ⟨hx, hb, hml, hown, hts⟩ (n_X11_begin l D cy mm_next mm_next_f z15 z28 _ (by first | assumption | omega) (by first | assumption | omega)) (va_cwS 3 hts gX11_readsGarden_X11_begin rfl rfl rfl (by decide +kernel) ⟨Nat.le_of_ble_eq_true rfl, Nat.le_of_ble_eq_true rfl⟩) (pS hKA (hP.sub (ws' := [(mm_next, .inl (cy 1, 122, .inl mm_next_f))]) [0] rfl) (hD.sub (ws' := [(mm_next, .inl (cy 1, 122, .inl mm_next_f))]) [0] (by decide) rfl)) rfl rfl hl.1 rfl (lv_room (Nat.le_of_ble_eq_true rfl)) dX11_readsGarden_72 ⟨Nat.le_of_ble_eq_true rfl, Nat.le_of_ble_eq_true rfl⟩) hP hD hS hA [0] [1, 2] rfl rfl (by decide +kernel) (by decide +kernel) (fun ur36 H locs hwr36 hP hD hS => ?_)
          obtain ⟨z37, rfl⟩ : ∃ z, z = ur36 := ⟨_, rfl⟩
          have hP : va_P D vwCl [(mm, .inr (11, [.ref mm_now, .ref mm_kept, .ref mm_isKept, .ref mm_refused, .int mm_lineFrom, .int mm_lineTo, .ref mm_stands, .ref mm_far, .ref mm_queue, .int mm_queued, .ref mm_meets, .ref mm_bytes, .int (nI bl), .int (nI z24), .int (nI z25), .int z26, .int z27, .ref mm_next, .int (nI z28)])), (mm_bytes, .inl (cy 1, 250, .inl mm_bytes_f)), (mm_next, .inl (cy 1, 122, .inl z37))] H := hP
          have hD : va_D A [(mm, .inr (11, [.ref mm_now, .ref mm_kept, .ref mm_isKept, .ref mm_refused, .int mm_lineFrom, .int mm_lineTo, .ref mm_stands, .ref mm_far, .ref mm_queue, .int mm_queued, .ref mm_meets, .ref mm_bytes, .int (nI bl), .int (nI z24), .int (nI z25), .int z26, .int z27, .ref mm_next, .int (nI z28)])), (mm_bytes, .inl (cy 1, 250, .inl mm_bytes_f)), (mm_next, .inl (cy 1, 122, .inl z37))] := hD
          have hwr36 : mV z37 z15 z28 (z15 * z28) 0 := hwr36
          refine lv_aload_n hx hb dX11_readsGarden_75 rfl (lv_at hl 1 rfl) ?_
          refine va_get (D := D) (ci := 11) (v := .int z26) (C := RX11) (T := TX11) (N := 19) hx hb hts zi11_ hown hK hP 0 rfl rfl 15 (by decide) z3_ (fun _ h9 => h9) rfl dX11_readsGarden_76 ?_
          refine lv_iconst (v := 3) hx hb dX11_readsGarden_79 (by decide) ?_
          refine lv_icmp_ne (tgt := 87) hx hb dX11_readsGarden_80 (by decide) (fun c38 => ?_) (fun c38 => ?_)
          · skip
            refine lv_iconst (v := 0) hx hb dX11_readsGarden_87 (by decide) ?_
            subst hQF
            have hP9 := hP
            have hD9 := hD
            exact W.zret (v := 0) hx hb hr rfl (fun t ht hW => ⟨⟨0, (z24, z25, z26, z27, z28, z37), rfl, (Or.inr ⟨rfl, (show z24 + z25 ≤ bl by omega), (by assumption), (show ta ≤ z24 by omega), (show z28 ≤ 35 by omega)⟩), by rw [ht]; exact hP9, hD9⟩, hS.F ht⟩) hS.2.2 dX11_readsGarden_88
          · skip
            refine lv_iconst (v := 1) hx hb dX11_readsGarden_83 (by decide) ?_
            refine lv_goto (tgt := 88) hx hb dX11_readsGarden_84 (by decide) ?_
            subst hQF
            have hP9 := hP
            have hD9 := hD
            exact W.zret (v := 1) hx hb hr rfl (fun t ht hW => ⟨⟨1, (z24, z25, z26, z27, z28, z37), rfl, (Or.inl ⟨rfl, (show z24 + z25 ≤ bl by omega), (by assumption), (show ta ≤ z24 by omega), (show z28 ≤ 35 by omega), ⟨_, _, _, _, hwr36⟩⟩), by rw [ht]; exact hP9, hD9⟩, hS.F ht⟩) hS.2.2 dX11_readsGarden_88
        · skip
          obtain ⟨hq39, hq40, hq41, hq42⟩ := z_b0 hwr23 c29
          refine lv_iconst (v := 0) hx hb dX11_readsGarden_61 (by decide) ?_
          subst hQF
          have hP9 := hP.sub (ws' := [(mm, .inr (11, [.ref mm_now, .ref mm_kept, .ref mm_isKept, .ref mm_refused, .int mm_lineFrom, .int mm_lineTo, .ref mm_stands, .ref mm_far, .ref mm_queue, .int mm_queued, .ref mm_meets, .ref mm_bytes, .int (nI bl), .int (nI z24), .int (nI z25), .int z26, .int z27, .ref mm_next, .int (nI z28)])), (mm_bytes, .inl (cy 1, 250, .inl mm_bytes_f)), (mm_next, .inl (cy 1, 122, .inl mm_next_f))]) [1, 2, 0] rfl
          have hD9 := hD.sub (ws' := [(mm, .inr (11, [.ref mm_now, .ref mm_kept, .ref mm_isKept, .ref mm_refused, .int mm_lineFrom, .int mm_lineTo, .ref mm_stands, .ref mm_far, .ref mm_queue, .int mm_queued, .ref mm_meets, .ref mm_bytes, .int (nI bl), .int (nI z24), .int (nI z25), .int z26, .int z27, .ref mm_next, .int (nI z28)])), (mm_bytes, .inl (cy 1, 250, .inl mm_bytes_f)), (mm_next, .inl (cy 1, 122, .inl mm_next_f))]) [1, 2, 0] (by decide) rfl
          exact W.zret (v := 0) hx hb hr rfl (fun t ht hW => ⟨⟨0, (z24, z25, z26, z27, z28, mm_next_f), rfl, (Or.inr ⟨rfl, (show z24 + z25 ≤ bl by omega), (by assumption), (show ta ≤ z24 by omega), (show z28 ≤ 35 by omega)⟩), by rw [ht]; exact hP9, hD9⟩, hS.F ht⟩) hS.2.2 dX11_readsGarden_62
      · skip
        obtain ⟨hq43, hq44, hq45, hq46⟩ := z_b0 hwr10 c16
        refine lv_iconst (v := 0) hx hb dX11_readsGarden_44 (by decide) ?_
        subst hQF
        have hP9 := hP.sub (ws' := [(mm, .inr (11, [.ref mm_now, .ref mm_kept, .ref mm_isKept, .ref mm_refused, .int mm_lineFrom, .int mm_lineTo, .ref mm_stands, .ref mm_far, .ref mm_queue, .int mm_queued, .ref mm_meets, .ref mm_bytes, .int (nI bl), .int (nI z11), .int (nI z12), .int z13, .int z14, .ref mm_next, .int (nI z15)])), (mm_bytes, .inl (cy 1, 250, .inl mm_bytes_f)), (mm_next, .inl (cy 1, 122, .inl mm_next_f))]) [1, 2, 0] rfl
        have hD9 := hD.sub (ws' := [(mm, .inr (11, [.ref mm_now, .ref mm_kept, .ref mm_isKept, .ref mm_refused, .int mm_lineFrom, .int mm_lineTo, .ref mm_stands, .ref mm_far, .ref mm_queue, .int mm_queued, .ref mm_meets, .ref mm_bytes, .int (nI bl), .int (nI z11), .int (nI z12), .int z13, .int z14, .ref mm_next, .int (nI z15)])), (mm_bytes, .inl (cy 1, 250, .inl mm_bytes_f)), (mm_next, .inl (cy 1, 122, .inl mm_next_f))]) [1, 2, 0] (by decide) rfl
        exact W.zret (v := 0) hx hb hr rfl (fun t ht hW => ⟨⟨0, (z11, z12, z13, z14, z15, mm_next_f), rfl, (Or.inr ⟨rfl, (show z11 + z12 ≤ bl by omega), (by assumption), (show ta ≤ z11 by omega), (show z15 ≤ 35 by omega)⟩), by rw [ht]; exact hP9, hD9⟩, hS.F ht⟩) hS.2.2 dX11_readsGarden_45
    · skip
      refine lv_iconst (v := 0) hx hb dX11_readsGarden_28 (by decide) ?_
      subst hQF
      have hP9 := hP
      have hD9 := hD
      exact W.zret (v := 0) hx hb hr rfl (fun t ht hW => ⟨⟨0, (ta, tl, mm_token, mm_value, tk, mm_next_f), rfl, (Or.inr ⟨rfl, (show ta + tl ≤ bl by omega), (by assumption), (show ta ≤ ta by omega), (show tk ≤ 35 by omega)⟩), by rw [ht]; exact hP9, hD9⟩, hS.F ht⟩) hS.2.2 dX11_readsGarden_29

set_option maxHeartbeats 4000000 in
set_option maxRecDepth 100000 in
theorem n_X11_readsHedge (l : Launch) (D : va_G) (cy : Nat → ClassId) (mm : Nat) (mm_now : Nat) (mm_kept : Nat) (mm_isKept : Nat) (mm_refused : Nat) (mm_lineFrom : Int32) (mm_lineTo : Int32) (mm_stands : Nat) (mm_far : Nat) (mm_queue : Nat) (mm_queued : Int32) (mm_meets : Nat) (mm_bytes : Nat) (bl : Nat) (ta : Nat) (tl : Nat) (mm_token : Int32) (mm_value : Int32) (mm_next : Nat) (tk : Nat) (mm_bytes_f : Nat → Int32) (mm_next_f : Nat → Int32) (sz : Nat) (hbl : bl ≤ 250) (htt : ta + tl ≤ bl) (htz : mm_token = 0 ∨ 1 ≤ tl) (htk : tk ≤ 35) (hXN : mN mm_next_f) : Met l yX11_readsHedge wsX11_readsHedge ({ frames := 4, cells := 0, slots := 0, locals := 89 }) (va_Pc [.ref mm] (kPre D cy [(mm, .inr (11, [.ref mm_now, .ref mm_kept, .ref mm_isKept, .ref mm_refused, .int mm_lineFrom, .int mm_lineTo, .ref mm_stands, .ref mm_far, .ref mm_queue, .int mm_queued, .ref mm_meets, .ref mm_bytes, .int (nI bl), .int (nI ta), .int (nI tl), .int mm_token, .int mm_value, .ref mm_next, .int (nI tk)])), (mm_bytes, .inl (cy 1, 250, .inl mm_bytes_f)), (mm_next, .inl (cy 1, 122, .inl mm_next_f))] sz)) (va_Qi (fun (r : Int32) (u : Nat × Nat × Int32 × Int32 × (Nat → Int32)) => (r = 1 ∧ (u.1 + u.2.1 ≤ bl ∧ (u.2.2.1 = 0 ∨ 1 ≤ u.2.1) ∧ ta ≤ u.1 ∧ tk ≤ 35 ∧ mN u.2.2.2.2)) ∨ (r = 0 ∧ (u.1 + u.2.1 ≤ bl ∧ (u.2.2.1 = 0 ∨ 1 ≤ u.2.1) ∧ ta ≤ u.1 ∧ tk ≤ 35 ∧ mN u.2.2.2.2))) (fun (u : Nat × Nat × Int32 × Int32 × (Nat → Int32)) t => va_P D vwCl ([(mm, .inr (11, [.ref mm_now, .ref mm_kept, .ref mm_isKept, .ref mm_refused, .int mm_lineFrom, .int mm_lineTo, .ref mm_stands, .ref mm_far, .ref mm_queue, .int mm_queued, .ref mm_meets, .ref mm_bytes, .int (nI bl), .int (nI u.1), .int (nI u.2.1), .int u.2.2.1, .int u.2.2.2.1, .ref mm_next, .int (nI tk)])), (mm_bytes, .inl (cy 1, 250, .inl mm_bytes_f)), (mm_next, .inl (cy 1, 122, .inl u.2.2.2.2))]) t.heap ∧ va_D (va_A [(mm, .inr (11, [.ref mm_now, .ref mm_kept, .ref mm_isKept, .ref mm_refused, .int mm_lineFrom, .int mm_lineTo, .ref mm_stands, .ref mm_far, .ref mm_queue, .int mm_queued, .ref mm_meets, .ref mm_bytes, .int (nI bl), .int (nI ta), .int (nI tl), .int mm_token, .int mm_value, .ref mm_next, .int (nI tk)])), (mm_bytes, .inl (cy 1, 250, .inl mm_bytes_f)), (mm_next, .inl (cy 1, 122, .inl mm_next_f))] sz) ([(mm, .inr (11, [.ref mm_now, .ref mm_kept, .ref mm_isKept, .ref mm_refused, .int mm_lineFrom, .int mm_lineTo, .ref mm_stands, .ref mm_far, .ref mm_queue, .int mm_queued, .ref mm_meets, .ref mm_bytes, .int (nI bl), .int (nI u.1), .int (nI u.2.1), .int u.2.2.1, .int u.2.2.2.1, .ref mm_next, .int (nI tk)])), (mm_bytes, .inl (cy 1, 250, .inl mm_bytes_f)), (mm_next, .inl (cy 1, 122, .inl u.2.2.2.2))])) (va_A [(mm, .inr (11, [.ref mm_now, .ref mm_kept, .ref mm_isKept, .ref mm_refused, .int mm_lineFrom, .int mm_lineTo, .ref mm_stands, .ref mm_far, .ref mm_queue, .int mm_queued, .ref mm_meets, .ref mm_bytes, .int (nI bl), .int (nI ta), .int (nI tl), .int mm_token, .int mm_value, .ref mm_next, .int (nI tk)])), (mm_bytes, .inl (cy 1, 250, .inl mm_bytes_f)), (mm_next, .inl (cy 1, 122, .inl mm_next_f))] sz)) 0 0 (va_A [(mm, .inr (11, [.ref mm_now, .ref mm_kept, .ref mm_isKept, .ref mm_refused, .int mm_lineFrom, .int mm_lineTo, .ref mm_stands, .ref mm_far, .ref mm_queue, .int mm_queued, .ref mm_meets, .ref mm_bytes, .int (nI bl), .int (nI ta), .int (nI tl), .int mm_token, .int mm_value, .ref mm_next, .int (nI tk)])), (mm_bytes, .inl (cy 1, 250, .inl mm_bytes_f)), (mm_next, .inl (cy 1, 122, .inl mm_next_f))] sz) := by
  refine Met.ofW (cc := cX11_readsHedge) (maxL := 1) (ret := (some .boolean)) (by decide) rfl ?_
  intro p e s m args below meth c s₁ B hml hv
  obtain ⟨rfl, hsz, hP, hKA, hD0⟩ := hv
  have hx := B.exec
  have hb := B.bytes
  have hr := B.returns
  have hts := atoms_spec (ws := wsX11_readsHedge) B.pre
  have hown : s.vm.findClass RX11 = some m.cls := findClass_of_methodNamed B.named
  have hlocks := B.notSynchronized
  subst hsz
  have hK := hKA.1
  have hD := hD0.self (sz := s.heap.size)
  generalize hAe : va_A [(mm, .inr (11, [.ref mm_now, .ref mm_kept, .ref mm_isKept, .ref mm_refused, .int mm_lineFrom, .int mm_lineTo, .ref mm_stands, .ref mm_far, .ref mm_queue, .int mm_queued, .ref mm_meets, .ref mm_bytes, .int (nI bl), .int (nI ta), .int (nI tl), .int mm_token, .int mm_value, .ref mm_next, .int (nI tk)])), (mm_bytes, .inl (cy 1, 250, .inl mm_bytes_f)), (mm_next, .inl (cy 1, 122, .inl mm_next_f))] s.heap.size = A at hD ⊢
  have hA : ∀ q : Nat, s.heap.size ≤ q → A q := fun q h => by rw [← hAe]; exact Or.inr h
  have hS : va_S A s.heap s.heap [] := va_S.rf
  have hP : va_P D vwCl [(mm, .inr (11, [.ref mm_now, .ref mm_kept, .ref mm_isKept, .ref mm_refused, .int mm_lineFrom, .int mm_lineTo, .ref mm_stands, .ref mm_far, .ref mm_queue, .int mm_queued, .ref mm_meets, .ref mm_bytes, .int (nI bl), .int (nI ta), .int (nI tl), .int mm_token, .int mm_value, .ref mm_next, .int (nI tk)])), (mm_bytes, .inl (cy 1, 250, .inl mm_bytes_f)), (mm_next, .inl (cy 1, 122, .inl mm_next_f))] s.heap := hP
  have hl := lv_entry ([.ref mm]) (n := 1) (Nat.le_of_ble_eq_true rfl)
  rw [lg_entry_eq]
  generalize (lg_sl ([.ref mm]) ++ List.replicate (1 - (lg_sl ([.ref mm])).length) Slot.unset).toArray = ls at hl ⊢
  have hl : lv_has ls 1 [(0, .ref mm)] := hl
  refine qW (fun QF hQF => ?_)
  have z0_ := hts (.fieldLink RX11 215 "HeardSeenModel" "token" "I") (by decide +kernel)
  have zi11_ : ∀ w ∈ u_ws RX11 TX11 19, w ∈ wsX11_readsHedge := by decide +kernel
  have z2_ := hts (.fieldLink RX11 218 "HeardSeenModel" "value" "I") (by decide +kernel)
  have z3_ := hts (.fieldLink RX11 38 "HeardSeenModel" "next" "[I") (by decide +kernel)
  obtain ⟨xW, xH, xS, xP, hX⟩ := hXN
  obtain ⟨hxW2, hxW6, hxH2, hxH6, hxSe, hxS4, hxS6, hxP5⟩ := hX.rng
  have c1 : (1 : Int32).toInt = 1 := by decide
  have c4 : (4 : Int32).toInt = 4 := by decide
  have c5 : (5 : Int32).toInt = 5 := by decide
  have c6 : (6 : Int32).toInt = 6 := by decide
  have c9 : (9 : Int32).toInt = 9 := by decide
  refine lv_aload_n hx hb dX11_readsHedge_0 rfl (lv_at hl 0 rfl) ?_
  refine wr_v (wr := [(mm_next, .inl (cy 1, 122, .inl mm_next_f))]) (va_runV (As := []) (rest := []) ⟨hx, hb, hml, hown, hts⟩ (n_X11_goOn l D cy mm mm_now mm_kept mm_isKept mm_refused mm_lineFrom mm_lineTo mm_stands mm_far mm_queue mm_queued mm_meets mm_bytes bl ta tl mm_token mm_value mm_next tk mm_bytes_f _ (by first | assumption | omega) (by first | assumption | omega)) (cwV 0 hts gX11_readsHedge_X11_goOn rfl rfl rfl (by decide +kernel) ⟨Nat.le_of_ble_eq_true rfl, Nat.le_of_ble_eq_true rfl⟩) (pV (ci := 11) (k := 0) hKA (hP.sub (ws' := [(mm, .inr (11, [.ref mm_now, .ref mm_kept, .ref mm_isKept, .ref mm_refused, .int mm_lineFrom, .int mm_lineTo, .ref mm_stands, .ref mm_far, .ref mm_queue, .int mm_queued, .ref mm_meets, .ref mm_bytes, .int (nI bl), .int (nI ta), .int (nI tl), .int mm_token, .int mm_value, .ref mm_next, .int (nI tk)])), (mm_bytes, .inl (cy 1, 250, .inl mm_bytes_f))]) [0, 1] rfl) (hD.sub (ws' := [(mm, .inr (11, [.ref mm_now, .ref mm_kept, .ref mm_isKept, .ref mm_refused, .int mm_lineFrom, .int mm_lineTo, .ref mm_stands, .ref mm_far, .ref mm_queue, .int mm_queued, .ref mm_meets, .ref mm_bytes, .int (nI bl), .int (nI ta), .int (nI tl), .int mm_token, .int mm_value, .ref mm_next, .int (nI tk)])), (mm_bytes, .inl (cy 1, 250, .inl mm_bytes_f))]) [0, 1] (by decide) rfl) rfl rfl) rfl rfl hl.1 rfl (lv_room (Nat.le_of_ble_eq_true rfl)) dX11_readsHedge_1 ⟨Nat.le_of_ble_eq_true rfl, Nat.le_of_ble_eq_true rfl⟩) hP hD hS hA [0, 1] [2] rfl rfl (by decide +kernel) (by decide +kernel) (fun ur1 H locs hwr1 hP hD hS => ?_)
  obtain ⟨z2, z3, z4, z5⟩ := ur1
  have hP : va_P D vwCl [(mm_next, .inl (cy 1, 122, .inl mm_next_f)), (mm, .inr (11, [.ref mm_now, .ref mm_kept, .ref mm_isKept, .ref mm_refused, .int mm_lineFrom, .int mm_lineTo, .ref mm_stands, .ref mm_far, .ref mm_queue, .int mm_queued, .ref mm_meets, .ref mm_bytes, .int (nI bl), .int (nI z2), .int (nI z3), .int z4, .int z5, .ref mm_next, .int (nI tk)])), (mm_bytes, .inl (cy 1, 250, .inl mm_bytes_f))] H := hP
  have hD : va_D A [(mm_next, .inl (cy 1, 122, .inl mm_next_f)), (mm, .inr (11, [.ref mm_now, .ref mm_kept, .ref mm_isKept, .ref mm_refused, .int mm_lineFrom, .int mm_lineTo, .ref mm_stands, .ref mm_far, .ref mm_queue, .int mm_queued, .ref mm_meets, .ref mm_bytes, .int (nI bl), .int (nI z2), .int (nI z3), .int z4, .int z5, .ref mm_next, .int (nI tk)])), (mm_bytes, .inl (cy 1, 250, .inl mm_bytes_f))] := hD
  have hwr1 : z2 + z3 ≤ bl ∧ (z4 = 0 ∨ 1 ≤ z3) ∧ ta + tl ≤ z2 := hwr1
  obtain ⟨har1, hbr1, hcr1⟩ := hwr1
  refine lv_aload_n hx hb dX11_readsHedge_4 rfl (lv_at hl 0 rfl) ?_
  refine va_get (D := D) (ci := 11) (v := .int z4) (C := RX11) (T := TX11) (N := 19) hx hb hts zi11_ hown hK hP 1 rfl rfl 15 (by decide) z0_ (fun _ h9 => h9) rfl dX11_readsHedge_5 ?_
  refine lv_iconst (v := 2) hx hb dX11_readsHedge_8 (by decide) ?_
  refine lv_icmp_ne (tgt := 23) hx hb dX11_readsHedge_9 (by decide) (fun c6 => ?_) (fun c6 => ?_)
  · skip
    refine lv_iconst (v := 0) hx hb dX11_readsHedge_23 (by decide) ?_
    subst hQF
    have hP9 := hP.sub (ws' := [(mm, .inr (11, [.ref mm_now, .ref mm_kept, .ref mm_isKept, .ref mm_refused, .int mm_lineFrom, .int mm_lineTo, .ref mm_stands, .ref mm_far, .ref mm_queue, .int mm_queued, .ref mm_meets, .ref mm_bytes, .int (nI bl), .int (nI z2), .int (nI z3), .int z4, .int z5, .ref mm_next, .int (nI tk)])), (mm_bytes, .inl (cy 1, 250, .inl mm_bytes_f)), (mm_next, .inl (cy 1, 122, .inl mm_next_f))]) [1, 2, 0] rfl
    have hD9 := hD.sub (ws' := [(mm, .inr (11, [.ref mm_now, .ref mm_kept, .ref mm_isKept, .ref mm_refused, .int mm_lineFrom, .int mm_lineTo, .ref mm_stands, .ref mm_far, .ref mm_queue, .int mm_queued, .ref mm_meets, .ref mm_bytes, .int (nI bl), .int (nI z2), .int (nI z3), .int z4, .int z5, .ref mm_next, .int (nI tk)])), (mm_bytes, .inl (cy 1, 250, .inl mm_bytes_f)), (mm_next, .inl (cy 1, 122, .inl mm_next_f))]) [1, 2, 0] (by decide) rfl
    exact W.zret (v := 0) hx hb hr rfl (fun t ht hW => ⟨⟨0, (z2, z3, z4, z5, mm_next_f), rfl, (Or.inr ⟨rfl, ⟨(show z2 + z3 ≤ bl by omega), (by assumption), (show ta ≤ z2 by omega), (show tk ≤ 35 by omega), ⟨_, _, _, _, hX⟩⟩⟩), by rw [ht]; exact hP9, hD9⟩, hS.F ht⟩) hS.2.2 dX11_readsHedge_24
  · skip
    refine lv_aload_n hx hb dX11_readsHedge_12 rfl (lv_at hl 0 rfl) ?_
    refine lv_aload_n hx hb dX11_readsHedge_13 rfl (lv_at hl 0 rfl) ?_
    refine va_get (D := D) (ci := 11) (v := .int z5) (C := RX11) (T := TX11) (N := 19) hx hb hts zi11_ hown hK hP 1 rfl rfl 16 (by decide) z2_ (fun _ h9 => h9) rfl dX11_readsHedge_14 ?_
    refine rd_i (va_runV (As := [.int z5]) (rest := []) ⟨hx, hb, hml, hown, hts⟩ (n_X11_isNextFree l D cy xW xH xS xP mm mm_now mm_kept mm_isKept mm_refused mm_lineFrom mm_lineTo mm_stands mm_far mm_queue mm_queued mm_meets mm_bytes bl z2 z3 z4 z5 mm_next tk mm_next_f z5 _ (by first | assumption | omega)) (cwV 1 hts gX11_readsHedge_X11_isNextFree rfl rfl rfl (by decide +kernel) ⟨Nat.le_of_ble_eq_true rfl, Nat.le_of_ble_eq_true rfl⟩) (pV (ci := 11) (k := 0) hKA (hP.sub (ws' := [(mm, .inr (11, [.ref mm_now, .ref mm_kept, .ref mm_isKept, .ref mm_refused, .int mm_lineFrom, .int mm_lineTo, .ref mm_stands, .ref mm_far, .ref mm_queue, .int mm_queued, .ref mm_meets, .ref mm_bytes, .int (nI bl), .int (nI z2), .int (nI z3), .int z4, .int z5, .ref mm_next, .int (nI tk)])), (mm_next, .inl (cy 1, 122, .inl mm_next_f))]) [1, 0] rfl) (hD.sub (ws' := [(mm, .inr (11, [.ref mm_now, .ref mm_kept, .ref mm_isKept, .ref mm_refused, .int mm_lineFrom, .int mm_lineTo, .ref mm_stands, .ref mm_far, .ref mm_queue, .int mm_queued, .ref mm_meets, .ref mm_bytes, .int (nI bl), .int (nI z2), .int (nI z3), .int z4, .int z5, .ref mm_next, .int (nI tk)])), (mm_next, .inl (cy 1, 122, .inl mm_next_f))]) [1, 0] (by decide) rfl) rfl rfl) rfl rfl hl.1 rfl (lv_room (Nat.le_of_ble_eq_true rfl)) dX11_readsHedge_17 ⟨Nat.le_of_ble_eq_true rfl, Nat.le_of_ble_eq_true rfl⟩) hP hS hA (fun r7 H locs hwr7 hP hS => ?_)
    have hwr7 : (r7 = 1 ∧ (∃ j : Nat, j < xS ∧ z5 = nI j)) ∨ (r7 = 0 ∧ True) := hwr7
    refine lv_if_ne (tgt := 25) hx hb dX11_readsHedge_20 (by decide) (fun c8 => ?_) (fun c8 => ?_)
    · skip
      have hp9 := z_b1 hwr7 c8
      obtain ⟨j10, hj10, ej10⟩ := hp9
      refine lv_aload_n hx hb dX11_readsHedge_25 rfl (lv_at hl 0 rfl) ?_
      refine va_get (D := D) (ci := 11) (v := .ref mm_next) (C := RX11) (T := TX11) (N := 19) hx hb hts zi11_ hown hK hP 1 rfl rfl 17 (by decide) z3_ (fun _ h9 => h9) rfl dX11_readsHedge_26 ?_
      refine lv_bipush (v := 20) hx hb dX11_readsHedge_29 (by decide) ?_
      refine lv_aload_n hx hb dX11_readsHedge_31 rfl (lv_at hl 0 rfl) ?_
      refine va_get (D := D) (ci := 11) (v := .int z5) (C := RX11) (T := TX11) (N := 19) hx hb hts zi11_ hown hK hP 1 rfl rfl 16 (by decide) z2_ (fun _ h9 => h9) rfl dX11_readsHedge_32 ?_
      refine W.eq (g2 := F0 m 35 ls [.int (nI j10), .int 20, .ref mm_next]) (congrArg (fun v9 : Int32 => F0 m 35 ls [.int v9, .int 20, .ref mm_next]) ej10) ?_
      refine lv_iadd hx hb dX11_readsHedge_35 ?_
      refine lv_topi (fun x11 ex11 => ?_)
      obtain rfl : x11 = nI (20 + j10) := by rw [ex11]; exact nI_add _ _
      refine lv_iconst (v := 1) hx hb dX11_readsHedge_36 (by decide) ?_
      refine my_iast hx hb hK hP hD hS 0 1 rfl rfl (by first | exact in_ge (N := 122) (by decide) (by omega) (by assumption) | exact vp_in_nI (by omega) (by omega)) (nI_clamp (by omega)) dX11_readsHedge_37 (fun H locs hP hD hS => ?_)
      have hP : va_P D vwCl [(mm_next, .inl (cy 1, 122, .inl (upd mm_next_f (20 + j10) 1))), (mm, .inr (11, [.ref mm_now, .ref mm_kept, .ref mm_isKept, .ref mm_refused, .int mm_lineFrom, .int mm_lineTo, .ref mm_stands, .ref mm_far, .ref mm_queue, .int mm_queued, .ref mm_meets, .ref mm_bytes, .int (nI bl), .int (nI z2), .int (nI z3), .int z4, .int z5, .ref mm_next, .int (nI tk)])), (mm_bytes, .inl (cy 1, 250, .inl mm_bytes_f))] H := hP
      have hD : va_D A [(mm_next, .inl (cy 1, 122, .inl (upd mm_next_f (20 + j10) 1))), (mm, .inr (11, [.ref mm_now, .ref mm_kept, .ref mm_isKept, .ref mm_refused, .int mm_lineFrom, .int mm_lineTo, .ref mm_stands, .ref mm_far, .ref mm_queue, .int mm_queued, .ref mm_meets, .ref mm_bytes, .int (nI bl), .int (nI z2), .int (nI z3), .int z4, .int z5, .ref mm_next, .int (nI tk)])), (mm_bytes, .inl (cy 1, 250, .inl mm_bytes_f))] := hD
      obtain ⟨f12, ef12⟩ : ∃ y : Nat → Int32, y = upd mm_next_f (20 + j10) 1 := ⟨_, rfl⟩
      rw [← ef12] at hP hD
      have hf12 : mV f12 xW xH xS xP := by rw [ef12]; exact mV.put hX (20 + j10) 1 rfl (by omega) (by unfold mHi; (repeat' split) <;> omega)
      have hP : va_P D vwCl [(mm_next, .inl (cy 1, 122, .inl f12)), (mm, .inr (11, [.ref mm_now, .ref mm_kept, .ref mm_isKept, .ref mm_refused, .int mm_lineFrom, .int mm_lineTo, .ref mm_stands, .ref mm_far, .ref mm_queue, .int mm_queued, .ref mm_meets, .ref mm_bytes, .int (nI bl), .int (nI z2), .int (nI z3), .int z4, .int z5, .ref mm_next, .int (nI tk)])), (mm_bytes, .inl (cy 1, 250, .inl mm_bytes_f))] H := hP
      have hD : va_D A [(mm_next, .inl (cy 1, 122, .inl f12)), (mm, .inr (11, [.ref mm_now, .ref mm_kept, .ref mm_isKept, .ref mm_refused, .int mm_lineFrom, .int mm_lineTo, .ref mm_stands, .ref mm_far, .ref mm_queue, .int mm_queued, .ref mm_meets, .ref mm_bytes, .int (nI bl), .int (nI z2), .int (nI z3), .int z4, .int z5, .ref mm_next, .int (nI tk)])), (mm_bytes, .inl (cy 1, 250, .inl mm_bytes_f))] := hD
      refine lv_aload_n hx hb dX11_readsHedge_38 rfl (lv_at hl 0 rfl) ?_
      refine wr_v (wr := [(mm_next, .inl (cy 1, 122, .inl f12))]) (va_runV (As := []) (rest := []) ⟨hx, hb, hml, hown, hts⟩ (n_X11_goOn l D cy mm mm_now mm_kept mm_isKept mm_refused mm_lineFrom mm_lineTo mm_stands mm_far mm_queue mm_queued mm_meets mm_bytes bl z2 z3 z4 z5 mm_next tk mm_bytes_f _ (by first | assumption | omega) (by first | assumption | omega)) (cwV 0 hts gX11_readsHedge_X11_goOn rfl rfl rfl (by decide +kernel) ⟨Nat.le_of_ble_eq_true rfl, Nat.le_of_ble_eq_true rfl⟩) (pV (ci := 11) (k := 0) hKA (hP.sub (ws' := [(mm, .inr (11, [.ref mm_now, .ref mm_kept, .ref mm_isKept, .ref mm_refused, .int mm_lineFrom, .int mm_lineTo, .ref mm_stands, .ref mm_far, .ref mm_queue, .int mm_queued, .ref mm_meets, .ref mm_bytes, .int (nI bl), .int (nI z2), .int (nI z3), .int z4, .int z5, .ref mm_next, .int (nI tk)])), (mm_bytes, .inl (cy 1, 250, .inl mm_bytes_f))]) [1, 2] rfl) (hD.sub (ws' := [(mm, .inr (11, [.ref mm_now, .ref mm_kept, .ref mm_isKept, .ref mm_refused, .int mm_lineFrom, .int mm_lineTo, .ref mm_stands, .ref mm_far, .ref mm_queue, .int mm_queued, .ref mm_meets, .ref mm_bytes, .int (nI bl), .int (nI z2), .int (nI z3), .int z4, .int z5, .ref mm_next, .int (nI tk)])), (mm_bytes, .inl (cy 1, 250, .inl mm_bytes_f))]) [1, 2] (by decide) rfl) rfl rfl) rfl rfl hl.1 rfl (lv_room (Nat.le_of_ble_eq_true rfl)) dX11_readsHedge_39 ⟨Nat.le_of_ble_eq_true rfl, Nat.le_of_ble_eq_true rfl⟩) hP hD hS hA [1, 2] [0] rfl rfl (by decide +kernel) (by decide +kernel) (fun ur13 H locs hwr13 hP hD hS => ?_)
      obtain ⟨z14, z15, z16, z17⟩ := ur13
      have hP : va_P D vwCl [(mm_next, .inl (cy 1, 122, .inl f12)), (mm, .inr (11, [.ref mm_now, .ref mm_kept, .ref mm_isKept, .ref mm_refused, .int mm_lineFrom, .int mm_lineTo, .ref mm_stands, .ref mm_far, .ref mm_queue, .int mm_queued, .ref mm_meets, .ref mm_bytes, .int (nI bl), .int (nI z14), .int (nI z15), .int z16, .int z17, .ref mm_next, .int (nI tk)])), (mm_bytes, .inl (cy 1, 250, .inl mm_bytes_f))] H := hP
      have hD : va_D A [(mm_next, .inl (cy 1, 122, .inl f12)), (mm, .inr (11, [.ref mm_now, .ref mm_kept, .ref mm_isKept, .ref mm_refused, .int mm_lineFrom, .int mm_lineTo, .ref mm_stands, .ref mm_far, .ref mm_queue, .int mm_queued, .ref mm_meets, .ref mm_bytes, .int (nI bl), .int (nI z14), .int (nI z15), .int z16, .int z17, .ref mm_next, .int (nI tk)])), (mm_bytes, .inl (cy 1, 250, .inl mm_bytes_f))] := hD
      have hwr13 : z14 + z15 ≤ bl ∧ (z16 = 0 ∨ 1 ≤ z15) ∧ z2 + z3 ≤ z14 := hwr13
      obtain ⟨har13, hbr13, hcr13⟩ := hwr13
      refine lv_iconst (v := 1) hx hb dX11_readsHedge_42 (by decide) ?_
      subst hQF
      have hP9 := hP.sub (ws' := [(mm, .inr (11, [.ref mm_now, .ref mm_kept, .ref mm_isKept, .ref mm_refused, .int mm_lineFrom, .int mm_lineTo, .ref mm_stands, .ref mm_far, .ref mm_queue, .int mm_queued, .ref mm_meets, .ref mm_bytes, .int (nI bl), .int (nI z14), .int (nI z15), .int z16, .int z17, .ref mm_next, .int (nI tk)])), (mm_bytes, .inl (cy 1, 250, .inl mm_bytes_f)), (mm_next, .inl (cy 1, 122, .inl f12))]) [1, 2, 0] rfl
      have hD9 := hD.sub (ws' := [(mm, .inr (11, [.ref mm_now, .ref mm_kept, .ref mm_isKept, .ref mm_refused, .int mm_lineFrom, .int mm_lineTo, .ref mm_stands, .ref mm_far, .ref mm_queue, .int mm_queued, .ref mm_meets, .ref mm_bytes, .int (nI bl), .int (nI z14), .int (nI z15), .int z16, .int z17, .ref mm_next, .int (nI tk)])), (mm_bytes, .inl (cy 1, 250, .inl mm_bytes_f)), (mm_next, .inl (cy 1, 122, .inl f12))]) [1, 2, 0] (by decide) rfl
      exact W.zret (v := 1) hx hb hr rfl (fun t ht hW => ⟨⟨1, (z14, z15, z16, z17, f12), rfl, (Or.inl ⟨rfl, ⟨(show z14 + z15 ≤ bl by omega), (by assumption), (show ta ≤ z14 by omega), (show tk ≤ 35 by omega), ⟨_, _, _, _, hf12⟩⟩⟩), by rw [ht]; exact hP9, hD9⟩, hS.F ht⟩) hS.2.2 dX11_readsHedge_43
    · skip
      refine lv_iconst (v := 0) hx hb dX11_readsHedge_23 (by decide) ?_
      subst hQF
      have hP9 := hP.sub (ws' := [(mm, .inr (11, [.ref mm_now, .ref mm_kept, .ref mm_isKept, .ref mm_refused, .int mm_lineFrom, .int mm_lineTo, .ref mm_stands, .ref mm_far, .ref mm_queue, .int mm_queued, .ref mm_meets, .ref mm_bytes, .int (nI bl), .int (nI z2), .int (nI z3), .int z4, .int z5, .ref mm_next, .int (nI tk)])), (mm_bytes, .inl (cy 1, 250, .inl mm_bytes_f)), (mm_next, .inl (cy 1, 122, .inl mm_next_f))]) [1, 2, 0] rfl
      have hD9 := hD.sub (ws' := [(mm, .inr (11, [.ref mm_now, .ref mm_kept, .ref mm_isKept, .ref mm_refused, .int mm_lineFrom, .int mm_lineTo, .ref mm_stands, .ref mm_far, .ref mm_queue, .int mm_queued, .ref mm_meets, .ref mm_bytes, .int (nI bl), .int (nI z2), .int (nI z3), .int z4, .int z5, .ref mm_next, .int (nI tk)])), (mm_bytes, .inl (cy 1, 250, .inl mm_bytes_f)), (mm_next, .inl (cy 1, 122, .inl mm_next_f))]) [1, 2, 0] (by decide) rfl
      exact W.zret (v := 0) hx hb hr rfl (fun t ht hW => ⟨⟨0, (z2, z3, z4, z5, mm_next_f), rfl, (Or.inr ⟨rfl, ⟨(show z2 + z3 ≤ bl by omega), (by assumption), (show ta ≤ z2 by omega), (show tk ≤ 35 by omega), ⟨_, _, _, _, hX⟩⟩⟩), by rw [ht]; exact hP9, hD9⟩, hS.F ht⟩) hS.2.2 dX11_readsHedge_24

set_option maxHeartbeats 4000000 in
set_option maxRecDepth 100000 in
theorem n_X11_readsWind (l : Launch) (D : va_G) (cy : Nat → ClassId) (mm : Nat) (mm_now : Nat) (mm_kept : Nat) (mm_isKept : Nat) (mm_refused : Nat) (mm_lineFrom : Int32) (mm_lineTo : Int32) (mm_stands : Nat) (mm_far : Nat) (mm_queue : Nat) (mm_queued : Int32) (mm_meets : Nat) (mm_bytes : Nat) (bl : Nat) (ta : Nat) (tl : Nat) (mm_token : Int32) (mm_value : Int32) (mm_next : Nat) (tk : Nat) (mm_bytes_f : Nat → Int32) (mm_next_f : Nat → Int32) (sz : Nat) (hbl : bl ≤ 250) (htt : ta + tl ≤ bl) (htz : mm_token = 0 ∨ 1 ≤ tl) (htk : tk ≤ 35) (hXN : mN mm_next_f) : Met l yX11_readsWind wsX11_readsWind ({ frames := 5, cells := 0, slots := 0, locals := 111 }) (va_Pc [.ref mm] (kPre D cy [(mm, .inr (11, [.ref mm_now, .ref mm_kept, .ref mm_isKept, .ref mm_refused, .int mm_lineFrom, .int mm_lineTo, .ref mm_stands, .ref mm_far, .ref mm_queue, .int mm_queued, .ref mm_meets, .ref mm_bytes, .int (nI bl), .int (nI ta), .int (nI tl), .int mm_token, .int mm_value, .ref mm_next, .int (nI tk)])), (mm_bytes, .inl (cy 1, 250, .inl mm_bytes_f)), (mm_next, .inl (cy 1, 122, .inl mm_next_f))] sz)) (va_Qi (fun (r : Int32) (u : Nat × Nat × Int32 × Int32 × Nat × (Nat → Int32)) => (r = 1 ∧ (u.1 + u.2.1 ≤ bl ∧ (u.2.2.1 = 0 ∨ 1 ≤ u.2.1) ∧ ta ≤ u.1 ∧ u.2.2.2.2.1 ≤ 35 ∧ mN u.2.2.2.2.2)) ∨ (r = 0 ∧ (u.1 + u.2.1 ≤ bl ∧ (u.2.2.1 = 0 ∨ 1 ≤ u.2.1) ∧ ta ≤ u.1 ∧ u.2.2.2.2.1 ≤ 35 ∧ mN u.2.2.2.2.2))) (fun (u : Nat × Nat × Int32 × Int32 × Nat × (Nat → Int32)) t => va_P D vwCl ([(mm, .inr (11, [.ref mm_now, .ref mm_kept, .ref mm_isKept, .ref mm_refused, .int mm_lineFrom, .int mm_lineTo, .ref mm_stands, .ref mm_far, .ref mm_queue, .int mm_queued, .ref mm_meets, .ref mm_bytes, .int (nI bl), .int (nI u.1), .int (nI u.2.1), .int u.2.2.1, .int u.2.2.2.1, .ref mm_next, .int (nI u.2.2.2.2.1)])), (mm_bytes, .inl (cy 1, 250, .inl mm_bytes_f)), (mm_next, .inl (cy 1, 122, .inl u.2.2.2.2.2))]) t.heap ∧ va_D (va_A [(mm, .inr (11, [.ref mm_now, .ref mm_kept, .ref mm_isKept, .ref mm_refused, .int mm_lineFrom, .int mm_lineTo, .ref mm_stands, .ref mm_far, .ref mm_queue, .int mm_queued, .ref mm_meets, .ref mm_bytes, .int (nI bl), .int (nI ta), .int (nI tl), .int mm_token, .int mm_value, .ref mm_next, .int (nI tk)])), (mm_bytes, .inl (cy 1, 250, .inl mm_bytes_f)), (mm_next, .inl (cy 1, 122, .inl mm_next_f))] sz) ([(mm, .inr (11, [.ref mm_now, .ref mm_kept, .ref mm_isKept, .ref mm_refused, .int mm_lineFrom, .int mm_lineTo, .ref mm_stands, .ref mm_far, .ref mm_queue, .int mm_queued, .ref mm_meets, .ref mm_bytes, .int (nI bl), .int (nI u.1), .int (nI u.2.1), .int u.2.2.1, .int u.2.2.2.1, .ref mm_next, .int (nI u.2.2.2.2.1)])), (mm_bytes, .inl (cy 1, 250, .inl mm_bytes_f)), (mm_next, .inl (cy 1, 122, .inl u.2.2.2.2.2))])) (va_A [(mm, .inr (11, [.ref mm_now, .ref mm_kept, .ref mm_isKept, .ref mm_refused, .int mm_lineFrom, .int mm_lineTo, .ref mm_stands, .ref mm_far, .ref mm_queue, .int mm_queued, .ref mm_meets, .ref mm_bytes, .int (nI bl), .int (nI ta), .int (nI tl), .int mm_token, .int mm_value, .ref mm_next, .int (nI tk)])), (mm_bytes, .inl (cy 1, 250, .inl mm_bytes_f)), (mm_next, .inl (cy 1, 122, .inl mm_next_f))] sz)) 0 0 (va_A [(mm, .inr (11, [.ref mm_now, .ref mm_kept, .ref mm_isKept, .ref mm_refused, .int mm_lineFrom, .int mm_lineTo, .ref mm_stands, .ref mm_far, .ref mm_queue, .int mm_queued, .ref mm_meets, .ref mm_bytes, .int (nI bl), .int (nI ta), .int (nI tl), .int mm_token, .int mm_value, .ref mm_next, .int (nI tk)])), (mm_bytes, .inl (cy 1, 250, .inl mm_bytes_f)), (mm_next, .inl (cy 1, 122, .inl mm_next_f))] sz) := by
  refine Met.ofW (cc := cX11_readsWind) (maxL := 3) (ret := (some .boolean)) (by decide) rfl ?_
  intro p e s m args below meth c s₁ B hml hv
  obtain ⟨rfl, hsz, hP, hKA, hD0⟩ := hv
  have hx := B.exec
  have hb := B.bytes
  have hr := B.returns
  have hts := atoms_spec (ws := wsX11_readsWind) B.pre
  have hown : s.vm.findClass RX11 = some m.cls := findClass_of_methodNamed B.named
  have hlocks := B.notSynchronized
  subst hsz
  have hK := hKA.1
  have hD := hD0.self (sz := s.heap.size)
  generalize hAe : va_A [(mm, .inr (11, [.ref mm_now, .ref mm_kept, .ref mm_isKept, .ref mm_refused, .int mm_lineFrom, .int mm_lineTo, .ref mm_stands, .ref mm_far, .ref mm_queue, .int mm_queued, .ref mm_meets, .ref mm_bytes, .int (nI bl), .int (nI ta), .int (nI tl), .int mm_token, .int mm_value, .ref mm_next, .int (nI tk)])), (mm_bytes, .inl (cy 1, 250, .inl mm_bytes_f)), (mm_next, .inl (cy 1, 122, .inl mm_next_f))] s.heap.size = A at hD ⊢
  have hA : ∀ q : Nat, s.heap.size ≤ q → A q := fun q h => by rw [← hAe]; exact Or.inr h
  have hS : va_S A s.heap s.heap [] := va_S.rf
  have hP : va_P D vwCl [(mm, .inr (11, [.ref mm_now, .ref mm_kept, .ref mm_isKept, .ref mm_refused, .int mm_lineFrom, .int mm_lineTo, .ref mm_stands, .ref mm_far, .ref mm_queue, .int mm_queued, .ref mm_meets, .ref mm_bytes, .int (nI bl), .int (nI ta), .int (nI tl), .int mm_token, .int mm_value, .ref mm_next, .int (nI tk)])), (mm_bytes, .inl (cy 1, 250, .inl mm_bytes_f)), (mm_next, .inl (cy 1, 122, .inl mm_next_f))] s.heap := hP
  have hl := lv_entry ([.ref mm]) (n := 3) (Nat.le_of_ble_eq_true rfl)
  rw [lg_entry_eq]
  generalize (lg_sl ([.ref mm]) ++ List.replicate (3 - (lg_sl ([.ref mm])).length) Slot.unset).toArray = ls at hl ⊢
  have hl : lv_has ls 3 [(0, .ref mm)] := hl
  refine qW (fun QF hQF => ?_)
  have z0_ := hts (.fieldLink RX11 215 "HeardSeenModel" "token" "I") (by decide +kernel)
  have zi11_ : ∀ w ∈ u_ws RX11 TX11 19, w ∈ wsX11_readsWind := by decide +kernel
  have z2_ := hts (.fieldLink RX11 38 "HeardSeenModel" "next" "[I") (by decide +kernel)
  have z3_ := hts (.fieldLink RX11 230 "HeardSeenModel" "taken" "I") (by decide +kernel)
  obtain ⟨xW, xH, xS, xP, hX⟩ := hXN
  obtain ⟨hxW2, hxW6, hxH2, hxH6, hxSe, hxS4, hxS6, hxP5⟩ := hX.rng
  have c1 : (1 : Int32).toInt = 1 := by decide
  have c4 : (4 : Int32).toInt = 4 := by decide
  have c5 : (5 : Int32).toInt = 5 := by decide
  have c6 : (6 : Int32).toInt = 6 := by decide
  have c9 : (9 : Int32).toInt = 9 := by decide
  refine lv_aload_n hx hb dX11_readsWind_0 rfl (lv_at hl 0 rfl) ?_
  refine wr_v (wr := [(mm_next, .inl (cy 1, 122, .inl mm_next_f))]) (va_runV (As := []) (rest := []) ⟨hx, hb, hml, hown, hts⟩ (n_X11_goOn l D cy mm mm_now mm_kept mm_isKept mm_refused mm_lineFrom mm_lineTo mm_stands mm_far mm_queue mm_queued mm_meets mm_bytes bl ta tl mm_token mm_value mm_next tk mm_bytes_f _ (by first | assumption | omega) (by first | assumption | omega)) (cwV 0 hts gX11_readsWind_X11_goOn rfl rfl rfl (by decide +kernel) ⟨Nat.le_of_ble_eq_true rfl, Nat.le_of_ble_eq_true rfl⟩) (pV (ci := 11) (k := 0) hKA (hP.sub (ws' := [(mm, .inr (11, [.ref mm_now, .ref mm_kept, .ref mm_isKept, .ref mm_refused, .int mm_lineFrom, .int mm_lineTo, .ref mm_stands, .ref mm_far, .ref mm_queue, .int mm_queued, .ref mm_meets, .ref mm_bytes, .int (nI bl), .int (nI ta), .int (nI tl), .int mm_token, .int mm_value, .ref mm_next, .int (nI tk)])), (mm_bytes, .inl (cy 1, 250, .inl mm_bytes_f))]) [0, 1] rfl) (hD.sub (ws' := [(mm, .inr (11, [.ref mm_now, .ref mm_kept, .ref mm_isKept, .ref mm_refused, .int mm_lineFrom, .int mm_lineTo, .ref mm_stands, .ref mm_far, .ref mm_queue, .int mm_queued, .ref mm_meets, .ref mm_bytes, .int (nI bl), .int (nI ta), .int (nI tl), .int mm_token, .int mm_value, .ref mm_next, .int (nI tk)])), (mm_bytes, .inl (cy 1, 250, .inl mm_bytes_f))]) [0, 1] (by decide) rfl) rfl rfl) rfl rfl hl.1 rfl (lv_room (Nat.le_of_ble_eq_true rfl)) dX11_readsWind_1 ⟨Nat.le_of_ble_eq_true rfl, Nat.le_of_ble_eq_true rfl⟩) hP hD hS hA [0, 1] [2] rfl rfl (by decide +kernel) (by decide +kernel) (fun ur1 H locs hwr1 hP hD hS => ?_)
  obtain ⟨z2, z3, z4, z5⟩ := ur1
  have hP : va_P D vwCl [(mm_next, .inl (cy 1, 122, .inl mm_next_f)), (mm, .inr (11, [.ref mm_now, .ref mm_kept, .ref mm_isKept, .ref mm_refused, .int mm_lineFrom, .int mm_lineTo, .ref mm_stands, .ref mm_far, .ref mm_queue, .int mm_queued, .ref mm_meets, .ref mm_bytes, .int (nI bl), .int (nI z2), .int (nI z3), .int z4, .int z5, .ref mm_next, .int (nI tk)])), (mm_bytes, .inl (cy 1, 250, .inl mm_bytes_f))] H := hP
  have hD : va_D A [(mm_next, .inl (cy 1, 122, .inl mm_next_f)), (mm, .inr (11, [.ref mm_now, .ref mm_kept, .ref mm_isKept, .ref mm_refused, .int mm_lineFrom, .int mm_lineTo, .ref mm_stands, .ref mm_far, .ref mm_queue, .int mm_queued, .ref mm_meets, .ref mm_bytes, .int (nI bl), .int (nI z2), .int (nI z3), .int z4, .int z5, .ref mm_next, .int (nI tk)])), (mm_bytes, .inl (cy 1, 250, .inl mm_bytes_f))] := hD
  have hwr1 : z2 + z3 ≤ bl ∧ (z4 = 0 ∨ 1 ≤ z3) ∧ ta + tl ≤ z2 := hwr1
  obtain ⟨har1, hbr1, hcr1⟩ := hwr1
  refine lv_aload_n hx hb dX11_readsWind_4 rfl (lv_at hl 0 rfl) ?_
  refine va_get (D := D) (ci := 11) (v := .int z4) (C := RX11) (T := TX11) (N := 19) hx hb hts zi11_ hown hK hP 1 rfl rfl 15 (by decide) z0_ (fun _ h9 => h9) rfl dX11_readsWind_5 ?_
  refine lv_iconst (v := 5) hx hb dX11_readsWind_8 (by decide) ?_
  have j17 : ∀ (s1_17 : Int32) (bs1_17 : s1_17 = 1 ∨ s1_17 = 0) (H : Heap) (locs : List Loc), va_P D vwCl [(mm_next, .inl (cy 1, 122, .inl mm_next_f)), (mm, .inr (11, [.ref mm_now, .ref mm_kept, .ref mm_isKept, .ref mm_refused, .int mm_lineFrom, .int mm_lineTo, .ref mm_stands, .ref mm_far, .ref mm_queue, .int mm_queued, .ref mm_meets, .ref mm_bytes, .int (nI bl), .int (nI z2), .int (nI z3), .int z4, .int z5, .ref mm_next, .int (nI tk)])), (mm_bytes, .inl (cy 1, 250, .inl mm_bytes_f))] H → va_D A [(mm_next, .inl (cy 1, 122, .inl mm_next_f)), (mm, .inr (11, [.ref mm_now, .ref mm_kept, .ref mm_isKept, .ref mm_refused, .int mm_lineFrom, .int mm_lineTo, .ref mm_stands, .ref mm_far, .ref mm_queue, .int mm_queued, .ref mm_meets, .ref mm_bytes, .int (nI bl), .int (nI z2), .int (nI z3), .int z4, .int z5, .ref mm_next, .int (nI tk)])), (mm_bytes, .inl (cy 1, 250, .inl mm_bytes_f))] → va_S A s.heap H locs → ∀ ls : Array Slot, lv_has ls 3 [(0, .ref mm)] → W p l e (headSpec wsX11_readsWind ({ frames := 5, cells := 0, slots := 0, locals := 111 })).room s m [.ref mm].toArray below meth c H locs 0 0 QF (F0 m 17 ls [.int s1_17]) := by
    intro s1_17 bs1_17 H locs hP hD hS ls hl
    refine lv_istore_n (lv' := [(1, .int s1_17), (0, .ref mm)]) hx hb dX11_readsWind_17 rfl hl (by decide) rfl (fun ls hl => ?_)
    refine lv_iload_n hx hb dX11_readsWind_18 rfl (lv_at hl 0 rfl) ?_
    have j26 : ∀ (u_mm_13_26 : Nat) (u_mm_14_26 : Nat) (u_mm_15_26 : Int32) (u_mm_16_26 : Int32) (hj1 : u_mm_13_26 + u_mm_14_26 ≤ bl) (hj2 : u_mm_15_26 = 0 ∨ 1 ≤ u_mm_14_26) (hj3 : ta ≤ u_mm_13_26) (H : Heap) (locs : List Loc), va_P D vwCl [(mm_next, .inl (cy 1, 122, .inl mm_next_f)), (mm, .inr (11, [.ref mm_now, .ref mm_kept, .ref mm_isKept, .ref mm_refused, .int mm_lineFrom, .int mm_lineTo, .ref mm_stands, .ref mm_far, .ref mm_queue, .int mm_queued, .ref mm_meets, .ref mm_bytes, .int (nI bl), .int (nI u_mm_13_26), .int (nI u_mm_14_26), .int u_mm_15_26, .int u_mm_16_26, .ref mm_next, .int (nI tk)])), (mm_bytes, .inl (cy 1, 250, .inl mm_bytes_f))] H → va_D A [(mm_next, .inl (cy 1, 122, .inl mm_next_f)), (mm, .inr (11, [.ref mm_now, .ref mm_kept, .ref mm_isKept, .ref mm_refused, .int mm_lineFrom, .int mm_lineTo, .ref mm_stands, .ref mm_far, .ref mm_queue, .int mm_queued, .ref mm_meets, .ref mm_bytes, .int (nI bl), .int (nI u_mm_13_26), .int (nI u_mm_14_26), .int u_mm_15_26, .int u_mm_16_26, .ref mm_next, .int (nI tk)])), (mm_bytes, .inl (cy 1, 250, .inl mm_bytes_f))] → va_S A s.heap H locs → ∀ ls : Array Slot, lv_has ls 3 [(1, .int s1_17), (0, .ref mm)] → W p l e (headSpec wsX11_readsWind ({ frames := 5, cells := 0, slots := 0, locals := 111 })).room s m [.ref mm].toArray below meth c H locs 0 0 QF (F0 m 26 ls []) := by
      intro u_mm_13_26 u_mm_14_26 u_mm_15_26 u_mm_16_26 hj1 hj2 hj3 H locs hP hD hS ls hl
      refine lv_aload_n hx hb dX11_readsWind_26 rfl (lv_at hl 1 rfl) ?_
      refine lv_iconst (v := 0) hx hb dX11_readsWind_27 (by decide) ?_
      refine lv_iconst (v := 1) hx hb dX11_readsWind_28 (by decide) ?_
      refine wr_i (wr := [(mm_next, .inl (cy 1, 122, .inl mm_next_f))]) (va_runV (As := [.int 0, .int 1]) (rest := []) ⟨hx, hb, hml, hown, hts⟩ (n_X11_takes l D cy mm mm_now mm_kept mm_isKept mm_refused mm_lineFrom mm_lineTo mm_stands mm_far mm_queue mm_queued mm_meets mm_bytes bl u_mm_13_26 u_mm_14_26 u_mm_15_26 u_mm_16_26 mm_next tk mm_bytes_f 0 (1) _ (by first | assumption | omega) (by first | assumption | omega) (by first | assumption | omega) (by first | assumption | omega) (by first | assumption | omega) (by first | decide | exact z_pmle (by omega))) (cwV 2 hts gX11_readsWind_X11_takes rfl rfl rfl (by decide +kernel) ⟨Nat.le_of_ble_eq_true rfl, Nat.le_of_ble_eq_true rfl⟩) (pV (ci := 11) (k := 0) hKA (hP.sub (ws' := [(mm, .inr (11, [.ref mm_now, .ref mm_kept, .ref mm_isKept, .ref mm_refused, .int mm_lineFrom, .int mm_lineTo, .ref mm_stands, .ref mm_far, .ref mm_queue, .int mm_queued, .ref mm_meets, .ref mm_bytes, .int (nI bl), .int (nI u_mm_13_26), .int (nI u_mm_14_26), .int u_mm_15_26, .int u_mm_16_26, .ref mm_next, .int (nI tk)])), (mm_bytes, .inl (cy 1, 250, .inl mm_bytes_f))]) [1, 2] rfl) (hD.sub (ws' := [(mm, .inr (11, [.ref mm_now, .ref mm_kept, .ref mm_isKept, .ref mm_refused, .int mm_lineFrom, .int mm_lineTo, .ref mm_stands, .ref mm_far, .ref mm_queue, .int mm_queued, .ref mm_meets, .ref mm_bytes, .int (nI bl), .int (nI u_mm_13_26), .int (nI u_mm_14_26), .int u_mm_15_26, .int u_mm_16_26, .ref mm_next, .int (nI tk)])), (mm_bytes, .inl (cy 1, 250, .inl mm_bytes_f))]) [1, 2] (by decide) rfl) rfl rfl) rfl rfl hl.1 rfl (lv_room (Nat.le_of_ble_eq_true rfl)) dX11_readsWind_29 ⟨Nat.le_of_ble_eq_true rfl, Nat.le_of_ble_eq_true rfl⟩) hP hD hS hA [1, 2] [0] rfl rfl (by decide +kernel) (by decide +kernel) (fun r6 ur6 H locs hwr6 hP hD hS => ?_)
      obtain ⟨z7, z8, z9, z10, z11⟩ := ur6
      have hP : va_P D vwCl [(mm_next, .inl (cy 1, 122, .inl mm_next_f)), (mm, .inr (11, [.ref mm_now, .ref mm_kept, .ref mm_isKept, .ref mm_refused, .int mm_lineFrom, .int mm_lineTo, .ref mm_stands, .ref mm_far, .ref mm_queue, .int mm_queued, .ref mm_meets, .ref mm_bytes, .int (nI bl), .int (nI z7), .int (nI z8), .int z9, .int z10, .ref mm_next, .int (nI z11)])), (mm_bytes, .inl (cy 1, 250, .inl mm_bytes_f))] H := hP
      have hD : va_D A [(mm_next, .inl (cy 1, 122, .inl mm_next_f)), (mm, .inr (11, [.ref mm_now, .ref mm_kept, .ref mm_isKept, .ref mm_refused, .int mm_lineFrom, .int mm_lineTo, .ref mm_stands, .ref mm_far, .ref mm_queue, .int mm_queued, .ref mm_meets, .ref mm_bytes, .int (nI bl), .int (nI z7), .int (nI z8), .int z9, .int z10, .ref mm_next, .int (nI z11)])), (mm_bytes, .inl (cy 1, 250, .inl mm_bytes_f))] := hD
      have hwr6 : (r6 = 1 ∧ (z7 + z8 ≤ bl ∧ (z9 = 0 ∨ 1 ≤ z8) ∧ u_mm_13_26 ≤ z7 ∧ z11 ≤ 35 ∧ 0 ≤ z11 ∧ (z11 : Int) ≤ ((1) : Int32).toInt)) ∨ (r6 = 0 ∧ (z7 + z8 ≤ bl ∧ (z9 = 0 ∨ 1 ≤ z8) ∧ u_mm_13_26 ≤ z7 ∧ z11 ≤ 35)) := hwr6
      obtain ⟨har6, hbr6, hcr6, hdr6⟩ := z_bq hwr6
      refine lv_istore_n (lv' := [(2, .int r6), (1, .int s1_17), (0, .ref mm)]) hx hb dX11_readsWind_32 rfl hl (by decide) rfl (fun ls hl => ?_)
      refine lv_aload_n hx hb dX11_readsWind_33 rfl (lv_at hl 2 rfl) ?_
      refine va_get (D := D) (ci := 11) (v := .ref mm_next) (C := RX11) (T := TX11) (N := 19) hx hb hts zi11_ hown hK hP 1 rfl rfl 17 (by decide) z2_ (fun _ h9 => h9) rfl dX11_readsWind_34 ?_
      refine lv_iconst (v := 3) hx hb dX11_readsWind_37 (by decide) ?_
      refine lv_iload_n hx hb dX11_readsWind_38 rfl (lv_at hl 1 rfl) ?_
      refine lv_if_eq (tgt := 50) hx hb dX11_readsWind_39 (by decide) (fun c12 => ?_) (fun c12 => ?_)
      · skip
        refine lv_aload_n hx hb dX11_readsWind_50 rfl (lv_at hl 2 rfl) ?_
        refine va_get (D := D) (ci := 11) (v := .int (nI z11)) (C := RX11) (T := TX11) (N := 19) hx hb hts zi11_ hown hK hP 1 rfl rfl 18 (by decide) z3_ (fun _ h9 => h9) rfl dX11_readsWind_51 ?_
        refine my_iast hx hb hK hP hD hS 0 1 rfl rfl (by rw [vp_in_iff]; decide +kernel) (k := 3) (by decide +kernel) dX11_readsWind_54 (fun H locs hP hD hS => ?_)
        have hP : va_P D vwCl [(mm_next, .inl (cy 1, 122, .inl (upd mm_next_f 3 (nI z11)))), (mm, .inr (11, [.ref mm_now, .ref mm_kept, .ref mm_isKept, .ref mm_refused, .int mm_lineFrom, .int mm_lineTo, .ref mm_stands, .ref mm_far, .ref mm_queue, .int mm_queued, .ref mm_meets, .ref mm_bytes, .int (nI bl), .int (nI z7), .int (nI z8), .int z9, .int z10, .ref mm_next, .int (nI z11)])), (mm_bytes, .inl (cy 1, 250, .inl mm_bytes_f))] H := hP
        have hD : va_D A [(mm_next, .inl (cy 1, 122, .inl (upd mm_next_f 3 (nI z11)))), (mm, .inr (11, [.ref mm_now, .ref mm_kept, .ref mm_isKept, .ref mm_refused, .int mm_lineFrom, .int mm_lineTo, .ref mm_stands, .ref mm_far, .ref mm_queue, .int mm_queued, .ref mm_meets, .ref mm_bytes, .int (nI bl), .int (nI z7), .int (nI z8), .int z9, .int z10, .ref mm_next, .int (nI z11)])), (mm_bytes, .inl (cy 1, 250, .inl mm_bytes_f))] := hD
        obtain ⟨f13, ef13⟩ : ∃ y : Nat → Int32, y = upd mm_next_f 3 (nI z11) := ⟨_, rfl⟩
        rw [← ef13] at hP hD
        have hf13 : mV f13 xW xH xS xP := by rw [ef13]; exact mV.put23 hX 3 _ (by decide)
        have hP : va_P D vwCl [(mm_next, .inl (cy 1, 122, .inl f13)), (mm, .inr (11, [.ref mm_now, .ref mm_kept, .ref mm_isKept, .ref mm_refused, .int mm_lineFrom, .int mm_lineTo, .ref mm_stands, .ref mm_far, .ref mm_queue, .int mm_queued, .ref mm_meets, .ref mm_bytes, .int (nI bl), .int (nI z7), .int (nI z8), .int z9, .int z10, .ref mm_next, .int (nI z11)])), (mm_bytes, .inl (cy 1, 250, .inl mm_bytes_f))] H := hP
        have hD : va_D A [(mm_next, .inl (cy 1, 122, .inl f13)), (mm, .inr (11, [.ref mm_now, .ref mm_kept, .ref mm_isKept, .ref mm_refused, .int mm_lineFrom, .int mm_lineTo, .ref mm_stands, .ref mm_far, .ref mm_queue, .int mm_queued, .ref mm_meets, .ref mm_bytes, .int (nI bl), .int (nI z7), .int (nI z8), .int z9, .int z10, .ref mm_next, .int (nI z11)])), (mm_bytes, .inl (cy 1, 250, .inl mm_bytes_f))] := hD
        refine lv_iload_n hx hb dX11_readsWind_55 rfl (lv_at hl 0 rfl) ?_
        subst hQF
        have hP9 := hP.sub (ws' := [(mm, .inr (11, [.ref mm_now, .ref mm_kept, .ref mm_isKept, .ref mm_refused, .int mm_lineFrom, .int mm_lineTo, .ref mm_stands, .ref mm_far, .ref mm_queue, .int mm_queued, .ref mm_meets, .ref mm_bytes, .int (nI bl), .int (nI z7), .int (nI z8), .int z9, .int z10, .ref mm_next, .int (nI z11)])), (mm_bytes, .inl (cy 1, 250, .inl mm_bytes_f)), (mm_next, .inl (cy 1, 122, .inl f13))]) [1, 2, 0] rfl
        have hD9 := hD.sub (ws' := [(mm, .inr (11, [.ref mm_now, .ref mm_kept, .ref mm_isKept, .ref mm_refused, .int mm_lineFrom, .int mm_lineTo, .ref mm_stands, .ref mm_far, .ref mm_queue, .int mm_queued, .ref mm_meets, .ref mm_bytes, .int (nI bl), .int (nI z7), .int (nI z8), .int z9, .int z10, .ref mm_next, .int (nI z11)])), (mm_bytes, .inl (cy 1, 250, .inl mm_bytes_f)), (mm_next, .inl (cy 1, 122, .inl f13))]) [1, 2, 0] (by decide) rfl
        exact W.zret (v := r6) hx hb hr (z_bn hwr6) (fun t ht hW => ⟨⟨r6, (z7, z8, z9, z10, z11, f13), rfl, (z_bj hwr6 ⟨(show z7 + z8 ≤ bl by omega), (by assumption), (show ta ≤ z7 by omega), (show z11 ≤ 35 by omega), ⟨_, _, _, _, hf13⟩⟩), by rw [ht]; exact hP9, hD9⟩, hS.F ht⟩) hS.2.2 dX11_readsWind_56
      · skip
        refine lv_aload_n hx hb dX11_readsWind_42 rfl (lv_at hl 2 rfl) ?_
        refine va_get (D := D) (ci := 11) (v := .int (nI z11)) (C := RX11) (T := TX11) (N := 19) hx hb hts zi11_ hown hK hP 1 rfl rfl 18 (by decide) z3_ (fun _ h9 => h9) rfl dX11_readsWind_43 ?_
        refine lv_ineg hx hb dX11_readsWind_46 ?_
        refine lv_goto (tgt := 54) hx hb dX11_readsWind_47 (by decide) ?_
        refine lv_topi (fun x14 ex14 => ?_)
        refine my_iast hx hb hK hP hD hS 0 1 rfl rfl (by rw [vp_in_iff]; decide +kernel) (k := 3) (by decide +kernel) dX11_readsWind_54 (fun H locs hP hD hS => ?_)
        have hP : va_P D vwCl [(mm_next, .inl (cy 1, 122, .inl (upd mm_next_f 3 x14))), (mm, .inr (11, [.ref mm_now, .ref mm_kept, .ref mm_isKept, .ref mm_refused, .int mm_lineFrom, .int mm_lineTo, .ref mm_stands, .ref mm_far, .ref mm_queue, .int mm_queued, .ref mm_meets, .ref mm_bytes, .int (nI bl), .int (nI z7), .int (nI z8), .int z9, .int z10, .ref mm_next, .int (nI z11)])), (mm_bytes, .inl (cy 1, 250, .inl mm_bytes_f))] H := hP
        have hD : va_D A [(mm_next, .inl (cy 1, 122, .inl (upd mm_next_f 3 x14))), (mm, .inr (11, [.ref mm_now, .ref mm_kept, .ref mm_isKept, .ref mm_refused, .int mm_lineFrom, .int mm_lineTo, .ref mm_stands, .ref mm_far, .ref mm_queue, .int mm_queued, .ref mm_meets, .ref mm_bytes, .int (nI bl), .int (nI z7), .int (nI z8), .int z9, .int z10, .ref mm_next, .int (nI z11)])), (mm_bytes, .inl (cy 1, 250, .inl mm_bytes_f))] := hD
        obtain ⟨f15, ef15⟩ : ∃ y : Nat → Int32, y = upd mm_next_f 3 x14 := ⟨_, rfl⟩
        rw [← ef15] at hP hD
        have hf15 : mV f15 xW xH xS xP := by rw [ef15]; exact mV.put23 hX 3 _ (by decide)
        have hP : va_P D vwCl [(mm_next, .inl (cy 1, 122, .inl f15)), (mm, .inr (11, [.ref mm_now, .ref mm_kept, .ref mm_isKept, .ref mm_refused, .int mm_lineFrom, .int mm_lineTo, .ref mm_stands, .ref mm_far, .ref mm_queue, .int mm_queued, .ref mm_meets, .ref mm_bytes, .int (nI bl), .int (nI z7), .int (nI z8), .int z9, .int z10, .ref mm_next, .int (nI z11)])), (mm_bytes, .inl (cy 1, 250, .inl mm_bytes_f))] H := hP
        have hD : va_D A [(mm_next, .inl (cy 1, 122, .inl f15)), (mm, .inr (11, [.ref mm_now, .ref mm_kept, .ref mm_isKept, .ref mm_refused, .int mm_lineFrom, .int mm_lineTo, .ref mm_stands, .ref mm_far, .ref mm_queue, .int mm_queued, .ref mm_meets, .ref mm_bytes, .int (nI bl), .int (nI z7), .int (nI z8), .int z9, .int z10, .ref mm_next, .int (nI z11)])), (mm_bytes, .inl (cy 1, 250, .inl mm_bytes_f))] := hD
        refine lv_iload_n hx hb dX11_readsWind_55 rfl (lv_at hl 0 rfl) ?_
        subst hQF
        have hP9 := hP.sub (ws' := [(mm, .inr (11, [.ref mm_now, .ref mm_kept, .ref mm_isKept, .ref mm_refused, .int mm_lineFrom, .int mm_lineTo, .ref mm_stands, .ref mm_far, .ref mm_queue, .int mm_queued, .ref mm_meets, .ref mm_bytes, .int (nI bl), .int (nI z7), .int (nI z8), .int z9, .int z10, .ref mm_next, .int (nI z11)])), (mm_bytes, .inl (cy 1, 250, .inl mm_bytes_f)), (mm_next, .inl (cy 1, 122, .inl f15))]) [1, 2, 0] rfl
        have hD9 := hD.sub (ws' := [(mm, .inr (11, [.ref mm_now, .ref mm_kept, .ref mm_isKept, .ref mm_refused, .int mm_lineFrom, .int mm_lineTo, .ref mm_stands, .ref mm_far, .ref mm_queue, .int mm_queued, .ref mm_meets, .ref mm_bytes, .int (nI bl), .int (nI z7), .int (nI z8), .int z9, .int z10, .ref mm_next, .int (nI z11)])), (mm_bytes, .inl (cy 1, 250, .inl mm_bytes_f)), (mm_next, .inl (cy 1, 122, .inl f15))]) [1, 2, 0] (by decide) rfl
        exact W.zret (v := r6) hx hb hr (z_bn hwr6) (fun t ht hW => ⟨⟨r6, (z7, z8, z9, z10, z11, f15), rfl, (z_bj hwr6 ⟨(show z7 + z8 ≤ bl by omega), (by assumption), (show ta ≤ z7 by omega), (show z11 ≤ 35 by omega), ⟨_, _, _, _, hf15⟩⟩), by rw [ht]; exact hP9, hD9⟩, hS.F ht⟩) hS.2.2 dX11_readsWind_56
    refine lv_if_eq (tgt := 26) hx hb dX11_readsWind_19 (by decide) (fun c16 => ?_) (fun c16 => ?_)
    · skip
      exact j26 z2 z3 z4 z5 (by first | assumption | omega) (by first | assumption | omega) (by first | assumption | omega) _ _ hP hD hS ls hl
    · skip
      refine lv_aload_n hx hb dX11_readsWind_22 rfl (lv_at hl 1 rfl) ?_
      refine wr_v (wr := [(mm_next, .inl (cy 1, 122, .inl mm_next_f))]) (va_runV (As := []) (rest := []) ⟨hx, hb, hml, hown, hts⟩ (n_X11_goOn l D cy mm mm_now mm_kept mm_isKept mm_refused mm_lineFrom mm_lineTo mm_stands mm_far mm_queue mm_queued mm_meets mm_bytes bl z2 z3 z4 z5 mm_next tk mm_bytes_f _ (by first | assumption | omega) (by first | assumption | omega)) (cwV 0 hts gX11_readsWind_X11_goOn rfl rfl rfl (by decide +kernel) ⟨Nat.le_of_ble_eq_true rfl, Nat.le_of_ble_eq_true rfl⟩) (pV (ci := 11) (k := 0) hKA (hP.sub (ws' := [(mm, .inr (11, [.ref mm_now, .ref mm_kept, .ref mm_isKept, .ref mm_refused, .int mm_lineFrom, .int mm_lineTo, .ref mm_stands, .ref mm_far, .ref mm_queue, .int mm_queued, .ref mm_meets, .ref mm_bytes, .int (nI bl), .int (nI z2), .int (nI z3), .int z4, .int z5, .ref mm_next, .int (nI tk)])), (mm_bytes, .inl (cy 1, 250, .inl mm_bytes_f))]) [1, 2] rfl) (hD.sub (ws' := [(mm, .inr (11, [.ref mm_now, .ref mm_kept, .ref mm_isKept, .ref mm_refused, .int mm_lineFrom, .int mm_lineTo, .ref mm_stands, .ref mm_far, .ref mm_queue, .int mm_queued, .ref mm_meets, .ref mm_bytes, .int (nI bl), .int (nI z2), .int (nI z3), .int z4, .int z5, .ref mm_next, .int (nI tk)])), (mm_bytes, .inl (cy 1, 250, .inl mm_bytes_f))]) [1, 2] (by decide) rfl) rfl rfl) rfl rfl hl.1 rfl (lv_room (Nat.le_of_ble_eq_true rfl)) dX11_readsWind_23 ⟨Nat.le_of_ble_eq_true rfl, Nat.le_of_ble_eq_true rfl⟩) hP hD hS hA [1, 2] [0] rfl rfl (by decide +kernel) (by decide +kernel) (fun ur17 H locs hwr17 hP hD hS => ?_)
      obtain ⟨z18, z19, z20, z21⟩ := ur17
      have hP : va_P D vwCl [(mm_next, .inl (cy 1, 122, .inl mm_next_f)), (mm, .inr (11, [.ref mm_now, .ref mm_kept, .ref mm_isKept, .ref mm_refused, .int mm_lineFrom, .int mm_lineTo, .ref mm_stands, .ref mm_far, .ref mm_queue, .int mm_queued, .ref mm_meets, .ref mm_bytes, .int (nI bl), .int (nI z18), .int (nI z19), .int z20, .int z21, .ref mm_next, .int (nI tk)])), (mm_bytes, .inl (cy 1, 250, .inl mm_bytes_f))] H := hP
      have hD : va_D A [(mm_next, .inl (cy 1, 122, .inl mm_next_f)), (mm, .inr (11, [.ref mm_now, .ref mm_kept, .ref mm_isKept, .ref mm_refused, .int mm_lineFrom, .int mm_lineTo, .ref mm_stands, .ref mm_far, .ref mm_queue, .int mm_queued, .ref mm_meets, .ref mm_bytes, .int (nI bl), .int (nI z18), .int (nI z19), .int z20, .int z21, .ref mm_next, .int (nI tk)])), (mm_bytes, .inl (cy 1, 250, .inl mm_bytes_f))] := hD
      have hwr17 : z18 + z19 ≤ bl ∧ (z20 = 0 ∨ 1 ≤ z19) ∧ z2 + z3 ≤ z18 := hwr17
      obtain ⟨har17, hbr17, hcr17⟩ := hwr17
      exact j26 z18 z19 z20 z21 (by first | assumption | omega) (by first | assumption | omega) (by first | assumption | omega) _ _ hP hD hS ls hl
  refine lv_icmp_ne (tgt := 16) hx hb dX11_readsWind_9 (by decide) (fun c22 => ?_) (fun c22 => ?_)
  · skip
    refine lv_iconst (v := 0) hx hb dX11_readsWind_16 (by decide) ?_
    exact j17 0 (Or.inr rfl) _ _ hP hD hS ls hl
  · skip
    refine lv_iconst (v := 1) hx hb dX11_readsWind_12 (by decide) ?_
    refine lv_goto (tgt := 17) hx hb dX11_readsWind_13 (by decide) ?_
    exact j17 1 (Or.inl rfl) _ _ hP hD hS ls hl

set_option maxHeartbeats 4000000 in
set_option maxRecDepth 100000 in
theorem n_X11_readsPerson (l : Launch) (D : va_G) (cy : Nat → ClassId) (mm : Nat) (mm_now : Nat) (mm_kept : Nat) (mm_isKept : Nat) (mm_refused : Nat) (mm_lineFrom : Int32) (mm_lineTo : Int32) (mm_stands : Nat) (mm_far : Nat) (mm_queue : Nat) (mm_queued : Int32) (mm_meets : Nat) (mm_bytes : Nat) (bl : Nat) (ta : Nat) (tl : Nat) (mm_token : Int32) (mm_value : Int32) (mm_next : Nat) (tk : Nat) (mm_next_f : Nat → Int32) (mm_bytes_f : Nat → Int32) (sz : Nat) (hbl : bl ≤ 250) (htt : ta + tl ≤ bl) (htz : mm_token = 0 ∨ 1 ≤ tl) (htk : tk ≤ 35) (hXN : mN mm_next_f) : Met l yX11_readsPerson wsX11_readsPerson ({ frames := 5, cells := 0, slots := 0, locals := 111 }) (va_Pc [.ref mm] (kPre D cy [(mm, .inr (11, [.ref mm_now, .ref mm_kept, .ref mm_isKept, .ref mm_refused, .int mm_lineFrom, .int mm_lineTo, .ref mm_stands, .ref mm_far, .ref mm_queue, .int mm_queued, .ref mm_meets, .ref mm_bytes, .int (nI bl), .int (nI ta), .int (nI tl), .int mm_token, .int mm_value, .ref mm_next, .int (nI tk)])), (mm_next, .inl (cy 1, 122, .inl mm_next_f)), (mm_bytes, .inl (cy 1, 250, .inl mm_bytes_f))] sz)) (va_Qi (fun (r : Int32) (u : Nat × Nat × Int32 × Int32 × Nat × (Nat → Int32)) => (r = 1 ∧ (u.1 + u.2.1 ≤ bl ∧ (u.2.2.1 = 0 ∨ 1 ≤ u.2.1) ∧ ta ≤ u.1 ∧ u.2.2.2.2.1 ≤ 35 ∧ mN u.2.2.2.2.2)) ∨ (r = 0 ∧ (u.1 + u.2.1 ≤ bl ∧ (u.2.2.1 = 0 ∨ 1 ≤ u.2.1) ∧ ta ≤ u.1 ∧ u.2.2.2.2.1 ≤ 35 ∧ mN u.2.2.2.2.2))) (fun (u : Nat × Nat × Int32 × Int32 × Nat × (Nat → Int32)) t => va_P D vwCl ([(mm, .inr (11, [.ref mm_now, .ref mm_kept, .ref mm_isKept, .ref mm_refused, .int mm_lineFrom, .int mm_lineTo, .ref mm_stands, .ref mm_far, .ref mm_queue, .int mm_queued, .ref mm_meets, .ref mm_bytes, .int (nI bl), .int (nI u.1), .int (nI u.2.1), .int u.2.2.1, .int u.2.2.2.1, .ref mm_next, .int (nI u.2.2.2.2.1)])), (mm_next, .inl (cy 1, 122, .inl u.2.2.2.2.2)), (mm_bytes, .inl (cy 1, 250, .inl mm_bytes_f))]) t.heap ∧ va_D (va_A [(mm, .inr (11, [.ref mm_now, .ref mm_kept, .ref mm_isKept, .ref mm_refused, .int mm_lineFrom, .int mm_lineTo, .ref mm_stands, .ref mm_far, .ref mm_queue, .int mm_queued, .ref mm_meets, .ref mm_bytes, .int (nI bl), .int (nI ta), .int (nI tl), .int mm_token, .int mm_value, .ref mm_next, .int (nI tk)])), (mm_next, .inl (cy 1, 122, .inl mm_next_f)), (mm_bytes, .inl (cy 1, 250, .inl mm_bytes_f))] sz) ([(mm, .inr (11, [.ref mm_now, .ref mm_kept, .ref mm_isKept, .ref mm_refused, .int mm_lineFrom, .int mm_lineTo, .ref mm_stands, .ref mm_far, .ref mm_queue, .int mm_queued, .ref mm_meets, .ref mm_bytes, .int (nI bl), .int (nI u.1), .int (nI u.2.1), .int u.2.2.1, .int u.2.2.2.1, .ref mm_next, .int (nI u.2.2.2.2.1)])), (mm_next, .inl (cy 1, 122, .inl u.2.2.2.2.2)), (mm_bytes, .inl (cy 1, 250, .inl mm_bytes_f))])) (va_A [(mm, .inr (11, [.ref mm_now, .ref mm_kept, .ref mm_isKept, .ref mm_refused, .int mm_lineFrom, .int mm_lineTo, .ref mm_stands, .ref mm_far, .ref mm_queue, .int mm_queued, .ref mm_meets, .ref mm_bytes, .int (nI bl), .int (nI ta), .int (nI tl), .int mm_token, .int mm_value, .ref mm_next, .int (nI tk)])), (mm_next, .inl (cy 1, 122, .inl mm_next_f)), (mm_bytes, .inl (cy 1, 250, .inl mm_bytes_f))] sz)) 0 0 (va_A [(mm, .inr (11, [.ref mm_now, .ref mm_kept, .ref mm_isKept, .ref mm_refused, .int mm_lineFrom, .int mm_lineTo, .ref mm_stands, .ref mm_far, .ref mm_queue, .int mm_queued, .ref mm_meets, .ref mm_bytes, .int (nI bl), .int (nI ta), .int (nI tl), .int mm_token, .int mm_value, .ref mm_next, .int (nI tk)])), (mm_next, .inl (cy 1, 122, .inl mm_next_f)), (mm_bytes, .inl (cy 1, 250, .inl mm_bytes_f))] sz) := by
  refine Met.ofW (cc := cX11_readsPerson) (maxL := 3) (ret := (some .boolean)) (by decide) rfl ?_
  intro p e s m args below meth c s₁ B hml hv
  obtain ⟨rfl, hsz, hP, hKA, hD0⟩ := hv
  have hx := B.exec
  have hb := B.bytes
  have hr := B.returns
  have hts := atoms_spec (ws := wsX11_readsPerson) B.pre
  have hown : s.vm.findClass RX11 = some m.cls := findClass_of_methodNamed B.named
  have hlocks := B.notSynchronized
  subst hsz
  have hK := hKA.1
  have hD := hD0.self (sz := s.heap.size)
  generalize hAe : va_A [(mm, .inr (11, [.ref mm_now, .ref mm_kept, .ref mm_isKept, .ref mm_refused, .int mm_lineFrom, .int mm_lineTo, .ref mm_stands, .ref mm_far, .ref mm_queue, .int mm_queued, .ref mm_meets, .ref mm_bytes, .int (nI bl), .int (nI ta), .int (nI tl), .int mm_token, .int mm_value, .ref mm_next, .int (nI tk)])), (mm_next, .inl (cy 1, 122, .inl mm_next_f)), (mm_bytes, .inl (cy 1, 250, .inl mm_bytes_f))] s.heap.size = A at hD ⊢
  have hA : ∀ q : Nat, s.heap.size ≤ q → A q := fun q h => by rw [← hAe]; exact Or.inr h
  have hS : va_S A s.heap s.heap [] := va_S.rf
  have hP : va_P D vwCl [(mm, .inr (11, [.ref mm_now, .ref mm_kept, .ref mm_isKept, .ref mm_refused, .int mm_lineFrom, .int mm_lineTo, .ref mm_stands, .ref mm_far, .ref mm_queue, .int mm_queued, .ref mm_meets, .ref mm_bytes, .int (nI bl), .int (nI ta), .int (nI tl), .int mm_token, .int mm_value, .ref mm_next, .int (nI tk)])), (mm_next, .inl (cy 1, 122, .inl mm_next_f)), (mm_bytes, .inl (cy 1, 250, .inl mm_bytes_f))] s.heap := hP
  have hl := lv_entry ([.ref mm]) (n := 3) (Nat.le_of_ble_eq_true rfl)
  rw [lg_entry_eq]
  generalize (lg_sl ([.ref mm]) ++ List.replicate (3 - (lg_sl ([.ref mm])).length) Slot.unset).toArray = ls at hl ⊢
  have hl : lv_has ls 3 [(0, .ref mm)] := hl
  refine qW (fun QF hQF => ?_)
  have z0_ := hts (.fieldLink RX11 38 "HeardSeenModel" "next" "[I") (by decide +kernel)
  have zi11_ : ∀ w ∈ u_ws RX11 TX11 19, w ∈ wsX11_readsPerson := by decide +kernel
  have z2_ := hts (.fieldLink RX11 230 "HeardSeenModel" "taken" "I") (by decide +kernel)
  have z3_ := hts (.fieldLink RX11 215 "HeardSeenModel" "token" "I") (by decide +kernel)
  have z4_ := hts (.fieldLink RX11 218 "HeardSeenModel" "value" "I") (by decide +kernel)
  obtain ⟨xW, xH, xS, xP, hX⟩ := hXN
  obtain ⟨hxW2, hxW6, hxH2, hxH6, hxSe, hxS4, hxS6, hxP5⟩ := hX.rng
  have c1 : (1 : Int32).toInt = 1 := by decide
  have c4 : (4 : Int32).toInt = 4 := by decide
  have c5 : (5 : Int32).toInt = 5 := by decide
  have c6 : (6 : Int32).toInt = 6 := by decide
  have c9 : (9 : Int32).toInt = 9 := by decide
  refine lv_aload_n hx hb dX11_readsPerson_0 rfl (lv_at hl 0 rfl) ?_
  refine va_get (D := D) (ci := 11) (v := .ref mm_next) (C := RX11) (T := TX11) (N := 19) hx hb hts zi11_ hown hK hP 0 rfl rfl 17 (by decide) z0_ (fun _ h9 => h9) rfl dX11_readsPerson_1 ?_
  refine lv_iconst (v := 4) hx hb dX11_readsPerson_4 (by decide) ?_
  refine my_iald hx hb hK hP 1 1 rfl rfl (by rw [vp_in_iff]; decide +kernel) (k := 4) (by decide +kernel) dX11_readsPerson_5 ?_
  refine W.eq (g2 := F0 m 6 ls [.int (nI xP)]) (congrArg (fun v9 : Int32 => F0 m 6 ls [.int v9]) hX.2.2.1) ?_
  refine lv_iconst (v := 5) hx hb dX11_readsPerson_6 (by decide) ?_
  refine lv_icmp_ne (tgt := 12) hx hb dX11_readsPerson_7 (by decide) (fun c1 => ?_) (fun c1 => ?_)
  · skip
    have hx4 := ne5 (n := 5) rfl (by assumption) hxP5
    refine lv_aload_n hx hb dX11_readsPerson_12 rfl (lv_at hl 0 rfl) ?_
    refine wr_v (wr := [(mm_next, .inl (cy 1, 122, .inl mm_next_f))]) (va_runV (As := []) (rest := []) ⟨hx, hb, hml, hown, hts⟩ (n_X11_goOn l D cy mm mm_now mm_kept mm_isKept mm_refused mm_lineFrom mm_lineTo mm_stands mm_far mm_queue mm_queued mm_meets mm_bytes bl ta tl mm_token mm_value mm_next tk mm_bytes_f _ (by first | assumption | omega) (by first | assumption | omega)) (cwV 0 hts gX11_readsPerson_X11_goOn rfl rfl rfl (by decide +kernel) ⟨Nat.le_of_ble_eq_true rfl, Nat.le_of_ble_eq_true rfl⟩) (pV (ci := 11) (k := 0) hKA (hP.sub (ws' := [(mm, .inr (11, [.ref mm_now, .ref mm_kept, .ref mm_isKept, .ref mm_refused, .int mm_lineFrom, .int mm_lineTo, .ref mm_stands, .ref mm_far, .ref mm_queue, .int mm_queued, .ref mm_meets, .ref mm_bytes, .int (nI bl), .int (nI ta), .int (nI tl), .int mm_token, .int mm_value, .ref mm_next, .int (nI tk)])), (mm_bytes, .inl (cy 1, 250, .inl mm_bytes_f))]) [0, 2] rfl) (hD.sub (ws' := [(mm, .inr (11, [.ref mm_now, .ref mm_kept, .ref mm_isKept, .ref mm_refused, .int mm_lineFrom, .int mm_lineTo, .ref mm_stands, .ref mm_far, .ref mm_queue, .int mm_queued, .ref mm_meets, .ref mm_bytes, .int (nI bl), .int (nI ta), .int (nI tl), .int mm_token, .int mm_value, .ref mm_next, .int (nI tk)])), (mm_bytes, .inl (cy 1, 250, .inl mm_bytes_f))]) [0, 2] (by decide) rfl) rfl rfl) rfl rfl hl.1 rfl (lv_room (Nat.le_of_ble_eq_true rfl)) dX11_readsPerson_13 ⟨Nat.le_of_ble_eq_true rfl, Nat.le_of_ble_eq_true rfl⟩) hP hD hS hA [0, 2] [1] rfl rfl (by decide +kernel) (by decide +kernel) (fun ur2 H locs hwr2 hP hD hS => ?_)
    obtain ⟨z3, z4, z5, z6⟩ := ur2
    have hP : va_P D vwCl [(mm_next, .inl (cy 1, 122, .inl mm_next_f)), (mm, .inr (11, [.ref mm_now, .ref mm_kept, .ref mm_isKept, .ref mm_refused, .int mm_lineFrom, .int mm_lineTo, .ref mm_stands, .ref mm_far, .ref mm_queue, .int mm_queued, .ref mm_meets, .ref mm_bytes, .int (nI bl), .int (nI z3), .int (nI z4), .int z5, .int z6, .ref mm_next, .int (nI tk)])), (mm_bytes, .inl (cy 1, 250, .inl mm_bytes_f))] H := hP
    have hD : va_D A [(mm_next, .inl (cy 1, 122, .inl mm_next_f)), (mm, .inr (11, [.ref mm_now, .ref mm_kept, .ref mm_isKept, .ref mm_refused, .int mm_lineFrom, .int mm_lineTo, .ref mm_stands, .ref mm_far, .ref mm_queue, .int mm_queued, .ref mm_meets, .ref mm_bytes, .int (nI bl), .int (nI z3), .int (nI z4), .int z5, .int z6, .ref mm_next, .int (nI tk)])), (mm_bytes, .inl (cy 1, 250, .inl mm_bytes_f))] := hD
    have hwr2 : z3 + z4 ≤ bl ∧ (z5 = 0 ∨ 1 ≤ z4) ∧ ta + tl ≤ z3 := hwr2
    obtain ⟨har2, hbr2, hcr2⟩ := hwr2
    refine lv_aload_n hx hb dX11_readsPerson_16 rfl (lv_at hl 0 rfl) ?_
    refine lv_iconst (v := 0) hx hb dX11_readsPerson_17 (by decide) ?_
    refine lv_iconst (v := 5) hx hb dX11_readsPerson_18 (by decide) ?_
    refine wr_i (wr := [(mm_next, .inl (cy 1, 122, .inl mm_next_f))]) (va_runV (As := [.int 0, .int 5]) (rest := []) ⟨hx, hb, hml, hown, hts⟩ (n_X11_takes l D cy mm mm_now mm_kept mm_isKept mm_refused mm_lineFrom mm_lineTo mm_stands mm_far mm_queue mm_queued mm_meets mm_bytes bl z3 z4 z5 z6 mm_next tk mm_bytes_f 0 (5) _ (by first | assumption | omega) (by first | assumption | omega) (by first | assumption | omega) (by first | assumption | omega) (by first | assumption | omega) (by first | decide | exact z_pmle (by omega))) (cwV 2 hts gX11_readsPerson_X11_takes rfl rfl rfl (by decide +kernel) ⟨Nat.le_of_ble_eq_true rfl, Nat.le_of_ble_eq_true rfl⟩) (pV (ci := 11) (k := 0) hKA (hP.sub (ws' := [(mm, .inr (11, [.ref mm_now, .ref mm_kept, .ref mm_isKept, .ref mm_refused, .int mm_lineFrom, .int mm_lineTo, .ref mm_stands, .ref mm_far, .ref mm_queue, .int mm_queued, .ref mm_meets, .ref mm_bytes, .int (nI bl), .int (nI z3), .int (nI z4), .int z5, .int z6, .ref mm_next, .int (nI tk)])), (mm_bytes, .inl (cy 1, 250, .inl mm_bytes_f))]) [1, 2] rfl) (hD.sub (ws' := [(mm, .inr (11, [.ref mm_now, .ref mm_kept, .ref mm_isKept, .ref mm_refused, .int mm_lineFrom, .int mm_lineTo, .ref mm_stands, .ref mm_far, .ref mm_queue, .int mm_queued, .ref mm_meets, .ref mm_bytes, .int (nI bl), .int (nI z3), .int (nI z4), .int z5, .int z6, .ref mm_next, .int (nI tk)])), (mm_bytes, .inl (cy 1, 250, .inl mm_bytes_f))]) [1, 2] (by decide) rfl) rfl rfl) rfl rfl hl.1 rfl (lv_room (Nat.le_of_ble_eq_true rfl)) dX11_readsPerson_19 ⟨Nat.le_of_ble_eq_true rfl, Nat.le_of_ble_eq_true rfl⟩) hP hD hS hA [1, 2] [0] rfl rfl (by decide +kernel) (by decide +kernel) (fun r7 ur7 H locs hwr7 hP hD hS => ?_)
    obtain ⟨z8, z9, z10, z11, z12⟩ := ur7
    have hP : va_P D vwCl [(mm_next, .inl (cy 1, 122, .inl mm_next_f)), (mm, .inr (11, [.ref mm_now, .ref mm_kept, .ref mm_isKept, .ref mm_refused, .int mm_lineFrom, .int mm_lineTo, .ref mm_stands, .ref mm_far, .ref mm_queue, .int mm_queued, .ref mm_meets, .ref mm_bytes, .int (nI bl), .int (nI z8), .int (nI z9), .int z10, .int z11, .ref mm_next, .int (nI z12)])), (mm_bytes, .inl (cy 1, 250, .inl mm_bytes_f))] H := hP
    have hD : va_D A [(mm_next, .inl (cy 1, 122, .inl mm_next_f)), (mm, .inr (11, [.ref mm_now, .ref mm_kept, .ref mm_isKept, .ref mm_refused, .int mm_lineFrom, .int mm_lineTo, .ref mm_stands, .ref mm_far, .ref mm_queue, .int mm_queued, .ref mm_meets, .ref mm_bytes, .int (nI bl), .int (nI z8), .int (nI z9), .int z10, .int z11, .ref mm_next, .int (nI z12)])), (mm_bytes, .inl (cy 1, 250, .inl mm_bytes_f))] := hD
    have hwr7 : (r7 = 1 ∧ (z8 + z9 ≤ bl ∧ (z10 = 0 ∨ 1 ≤ z9) ∧ z3 ≤ z8 ∧ z12 ≤ 35 ∧ 0 ≤ z12 ∧ (z12 : Int) ≤ ((5) : Int32).toInt)) ∨ (r7 = 0 ∧ (z8 + z9 ≤ bl ∧ (z10 = 0 ∨ 1 ≤ z9) ∧ z3 ≤ z8 ∧ z12 ≤ 35)) := hwr7
    refine lv_if_ne (tgt := 27) hx hb dX11_readsPerson_22 (by decide) (fun c13 => ?_) (fun c13 => ?_)
    · skip
      obtain ⟨hp14, hp15, hp16, hp17, hp18, hp19⟩ := z_b1 hwr7 c13
      refine lv_aload_n hx hb dX11_readsPerson_27 rfl (lv_at hl 0 rfl) ?_
      refine va_get (D := D) (ci := 11) (v := .int (nI z12)) (C := RX11) (T := TX11) (N := 19) hx hb hts zi11_ hown hK hP 1 rfl rfl 18 (by decide) z2_ (fun _ h9 => h9) rfl dX11_readsPerson_28 ?_
      refine lv_istore_n (lv' := [(1, .int (nI z12)), (0, .ref mm)]) hx hb dX11_readsPerson_31 rfl hl (by decide) rfl (fun ls hl => ?_)
      refine lv_aload_n hx hb dX11_readsPerson_32 rfl (lv_at hl 1 rfl) ?_
      refine va_get (D := D) (ci := 11) (v := .int z10) (C := RX11) (T := TX11) (N := 19) hx hb hts zi11_ hown hK hP 1 rfl rfl 15 (by decide) z3_ (fun _ h9 => h9) rfl dX11_readsPerson_33 ?_
      refine lv_iconst (v := 2) hx hb dX11_readsPerson_36 (by decide) ?_
      refine lv_icmp_ne (tgt := 51) hx hb dX11_readsPerson_37 (by decide) (fun c20 => ?_) (fun c20 => ?_)
      · skip
        refine lv_iconst (v := 0) hx hb dX11_readsPerson_51 (by decide) ?_
        subst hQF
        have hP9 := hP.sub (ws' := [(mm, .inr (11, [.ref mm_now, .ref mm_kept, .ref mm_isKept, .ref mm_refused, .int mm_lineFrom, .int mm_lineTo, .ref mm_stands, .ref mm_far, .ref mm_queue, .int mm_queued, .ref mm_meets, .ref mm_bytes, .int (nI bl), .int (nI z8), .int (nI z9), .int z10, .int z11, .ref mm_next, .int (nI z12)])), (mm_next, .inl (cy 1, 122, .inl mm_next_f)), (mm_bytes, .inl (cy 1, 250, .inl mm_bytes_f))]) [1, 0, 2] rfl
        have hD9 := hD.sub (ws' := [(mm, .inr (11, [.ref mm_now, .ref mm_kept, .ref mm_isKept, .ref mm_refused, .int mm_lineFrom, .int mm_lineTo, .ref mm_stands, .ref mm_far, .ref mm_queue, .int mm_queued, .ref mm_meets, .ref mm_bytes, .int (nI bl), .int (nI z8), .int (nI z9), .int z10, .int z11, .ref mm_next, .int (nI z12)])), (mm_next, .inl (cy 1, 122, .inl mm_next_f)), (mm_bytes, .inl (cy 1, 250, .inl mm_bytes_f))]) [1, 0, 2] (by decide) rfl
        exact W.zret (v := 0) hx hb hr rfl (fun t ht hW => ⟨⟨0, (z8, z9, z10, z11, z12, mm_next_f), rfl, (Or.inr ⟨rfl, ⟨(show z8 + z9 ≤ bl by omega), (by assumption), (show ta ≤ z8 by omega), (show z12 ≤ 35 by omega), ⟨_, _, _, _, hX⟩⟩⟩), by rw [ht]; exact hP9, hD9⟩, hS.F ht⟩) hS.2.2 dX11_readsPerson_52
      · skip
        refine lv_aload_n hx hb dX11_readsPerson_40 rfl (lv_at hl 1 rfl) ?_
        refine lv_aload_n hx hb dX11_readsPerson_41 rfl (lv_at hl 1 rfl) ?_
        refine va_get (D := D) (ci := 11) (v := .int z11) (C := RX11) (T := TX11) (N := 19) hx hb hts zi11_ hown hK hP 1 rfl rfl 16 (by decide) z4_ (fun _ h9 => h9) rfl dX11_readsPerson_42 ?_
        refine rd_i (va_runV (As := [.int z11]) (rest := []) ⟨hx, hb, hml, hown, hts⟩ (n_X11_isNextFree l D cy xW xH xS xP mm mm_now mm_kept mm_isKept mm_refused mm_lineFrom mm_lineTo mm_stands mm_far mm_queue mm_queued mm_meets mm_bytes bl z8 z9 z10 z11 mm_next z12 mm_next_f z11 _ (by first | assumption | omega)) (cwV 1 hts gX11_readsPerson_X11_isNextFree rfl rfl rfl (by decide +kernel) ⟨Nat.le_of_ble_eq_true rfl, Nat.le_of_ble_eq_true rfl⟩) (pV (ci := 11) (k := 0) hKA (hP.sub (ws' := [(mm, .inr (11, [.ref mm_now, .ref mm_kept, .ref mm_isKept, .ref mm_refused, .int mm_lineFrom, .int mm_lineTo, .ref mm_stands, .ref mm_far, .ref mm_queue, .int mm_queued, .ref mm_meets, .ref mm_bytes, .int (nI bl), .int (nI z8), .int (nI z9), .int z10, .int z11, .ref mm_next, .int (nI z12)])), (mm_next, .inl (cy 1, 122, .inl mm_next_f))]) [1, 0] rfl) (hD.sub (ws' := [(mm, .inr (11, [.ref mm_now, .ref mm_kept, .ref mm_isKept, .ref mm_refused, .int mm_lineFrom, .int mm_lineTo, .ref mm_stands, .ref mm_far, .ref mm_queue, .int mm_queued, .ref mm_meets, .ref mm_bytes, .int (nI bl), .int (nI z8), .int (nI z9), .int z10, .int z11, .ref mm_next, .int (nI z12)])), (mm_next, .inl (cy 1, 122, .inl mm_next_f))]) [1, 0] (by decide) rfl) rfl rfl) rfl rfl hl.1 rfl (lv_room (Nat.le_of_ble_eq_true rfl)) dX11_readsPerson_45 ⟨Nat.le_of_ble_eq_true rfl, Nat.le_of_ble_eq_true rfl⟩) hP hS hA (fun r21 H locs hwr21 hP hS => ?_)
        have hwr21 : (r21 = 1 ∧ (∃ j : Nat, j < xS ∧ z11 = nI j)) ∨ (r21 = 0 ∧ True) := hwr21
        refine lv_if_ne (tgt := 53) hx hb dX11_readsPerson_48 (by decide) (fun c22 => ?_) (fun c22 => ?_)
        · skip
          have hp23 := z_b1 hwr21 c22
          obtain ⟨j24, hj24, ej24⟩ := hp23
          refine lv_aload_n hx hb dX11_readsPerson_53 rfl (lv_at hl 1 rfl) ?_
          refine va_get (D := D) (ci := 11) (v := .int z11) (C := RX11) (T := TX11) (N := 19) hx hb hts zi11_ hown hK hP 1 rfl rfl 16 (by decide) z4_ (fun _ h9 => h9) rfl dX11_readsPerson_54 ?_
          refine W.eq (g2 := F0 m 57 ls [.int (nI j24)]) (congrArg (fun v9 : Int32 => F0 m 57 ls [.int v9]) ej24) ?_
          refine lv_istore_n (lv' := [(2, .int (nI j24)), (1, .int (nI z12)), (0, .ref mm)]) hx hb dX11_readsPerson_57 rfl hl (by decide) rfl (fun ls hl => ?_)
          refine lv_aload_n hx hb dX11_readsPerson_58 rfl (lv_at hl 2 rfl) ?_
          refine wr_v (wr := [(mm_next, .inl (cy 1, 122, .inl mm_next_f))]) (va_runV (As := []) (rest := []) ⟨hx, hb, hml, hown, hts⟩ (n_X11_goOn l D cy mm mm_now mm_kept mm_isKept mm_refused mm_lineFrom mm_lineTo mm_stands mm_far mm_queue mm_queued mm_meets mm_bytes bl z8 z9 z10 z11 mm_next z12 mm_bytes_f _ (by first | assumption | omega) (by first | assumption | omega)) (cwV 0 hts gX11_readsPerson_X11_goOn rfl rfl rfl (by decide +kernel) ⟨Nat.le_of_ble_eq_true rfl, Nat.le_of_ble_eq_true rfl⟩) (pV (ci := 11) (k := 0) hKA (hP.sub (ws' := [(mm, .inr (11, [.ref mm_now, .ref mm_kept, .ref mm_isKept, .ref mm_refused, .int mm_lineFrom, .int mm_lineTo, .ref mm_stands, .ref mm_far, .ref mm_queue, .int mm_queued, .ref mm_meets, .ref mm_bytes, .int (nI bl), .int (nI z8), .int (nI z9), .int z10, .int z11, .ref mm_next, .int (nI z12)])), (mm_bytes, .inl (cy 1, 250, .inl mm_bytes_f))]) [1, 2] rfl) (hD.sub (ws' := [(mm, .inr (11, [.ref mm_now, .ref mm_kept, .ref mm_isKept, .ref mm_refused, .int mm_lineFrom, .int mm_lineTo, .ref mm_stands, .ref mm_far, .ref mm_queue, .int mm_queued, .ref mm_meets, .ref mm_bytes, .int (nI bl), .int (nI z8), .int (nI z9), .int z10, .int z11, .ref mm_next, .int (nI z12)])), (mm_bytes, .inl (cy 1, 250, .inl mm_bytes_f))]) [1, 2] (by decide) rfl) rfl rfl) rfl rfl hl.1 rfl (lv_room (Nat.le_of_ble_eq_true rfl)) dX11_readsPerson_59 ⟨Nat.le_of_ble_eq_true rfl, Nat.le_of_ble_eq_true rfl⟩) hP hD hS hA [1, 2] [0] rfl rfl (by decide +kernel) (by decide +kernel) (fun ur25 H locs hwr25 hP hD hS => ?_)
          obtain ⟨z26, z27, z28, z29⟩ := ur25
          have hP : va_P D vwCl [(mm_next, .inl (cy 1, 122, .inl mm_next_f)), (mm, .inr (11, [.ref mm_now, .ref mm_kept, .ref mm_isKept, .ref mm_refused, .int mm_lineFrom, .int mm_lineTo, .ref mm_stands, .ref mm_far, .ref mm_queue, .int mm_queued, .ref mm_meets, .ref mm_bytes, .int (nI bl), .int (nI z26), .int (nI z27), .int z28, .int z29, .ref mm_next, .int (nI z12)])), (mm_bytes, .inl (cy 1, 250, .inl mm_bytes_f))] H := hP
          have hD : va_D A [(mm_next, .inl (cy 1, 122, .inl mm_next_f)), (mm, .inr (11, [.ref mm_now, .ref mm_kept, .ref mm_isKept, .ref mm_refused, .int mm_lineFrom, .int mm_lineTo, .ref mm_stands, .ref mm_far, .ref mm_queue, .int mm_queued, .ref mm_meets, .ref mm_bytes, .int (nI bl), .int (nI z26), .int (nI z27), .int z28, .int z29, .ref mm_next, .int (nI z12)])), (mm_bytes, .inl (cy 1, 250, .inl mm_bytes_f))] := hD
          have hwr25 : z26 + z27 ≤ bl ∧ (z28 = 0 ∨ 1 ≤ z27) ∧ z8 + z9 ≤ z26 := hwr25
          obtain ⟨har25, hbr25, hcr25⟩ := hwr25
          refine lv_aload_n hx hb dX11_readsPerson_62 rfl (lv_at hl 2 rfl) ?_
          refine lv_iconst (v := 0) hx hb dX11_readsPerson_63 (by decide) ?_
          refine lv_bipush (v := 9) hx hb dX11_readsPerson_64 (by decide) ?_
          refine wr_i (wr := [(mm_next, .inl (cy 1, 122, .inl mm_next_f))]) (va_runV (As := [.int 0, .int 9]) (rest := []) ⟨hx, hb, hml, hown, hts⟩ (n_X11_takes l D cy mm mm_now mm_kept mm_isKept mm_refused mm_lineFrom mm_lineTo mm_stands mm_far mm_queue mm_queued mm_meets mm_bytes bl z26 z27 z28 z29 mm_next z12 mm_bytes_f 0 (9) _ (by first | assumption | omega) (by first | assumption | omega) (by first | assumption | omega) (by first | assumption | omega) (by first | assumption | omega) (by first | decide | exact z_pmle (by omega))) (cwV 2 hts gX11_readsPerson_X11_takes rfl rfl rfl (by decide +kernel) ⟨Nat.le_of_ble_eq_true rfl, Nat.le_of_ble_eq_true rfl⟩) (pV (ci := 11) (k := 0) hKA (hP.sub (ws' := [(mm, .inr (11, [.ref mm_now, .ref mm_kept, .ref mm_isKept, .ref mm_refused, .int mm_lineFrom, .int mm_lineTo, .ref mm_stands, .ref mm_far, .ref mm_queue, .int mm_queued, .ref mm_meets, .ref mm_bytes, .int (nI bl), .int (nI z26), .int (nI z27), .int z28, .int z29, .ref mm_next, .int (nI z12)])), (mm_bytes, .inl (cy 1, 250, .inl mm_bytes_f))]) [1, 2] rfl) (hD.sub (ws' := [(mm, .inr (11, [.ref mm_now, .ref mm_kept, .ref mm_isKept, .ref mm_refused, .int mm_lineFrom, .int mm_lineTo, .ref mm_stands, .ref mm_far, .ref mm_queue, .int mm_queued, .ref mm_meets, .ref mm_bytes, .int (nI bl), .int (nI z26), .int (nI z27), .int z28, .int z29, .ref mm_next, .int (nI z12)])), (mm_bytes, .inl (cy 1, 250, .inl mm_bytes_f))]) [1, 2] (by decide) rfl) rfl rfl) rfl rfl hl.1 rfl (lv_room (Nat.le_of_ble_eq_true rfl)) dX11_readsPerson_66 ⟨Nat.le_of_ble_eq_true rfl, Nat.le_of_ble_eq_true rfl⟩) hP hD hS hA [1, 2] [0] rfl rfl (by decide +kernel) (by decide +kernel) (fun r30 ur30 H locs hwr30 hP hD hS => ?_)
          obtain ⟨z31, z32, z33, z34, z35⟩ := ur30
          have hP : va_P D vwCl [(mm_next, .inl (cy 1, 122, .inl mm_next_f)), (mm, .inr (11, [.ref mm_now, .ref mm_kept, .ref mm_isKept, .ref mm_refused, .int mm_lineFrom, .int mm_lineTo, .ref mm_stands, .ref mm_far, .ref mm_queue, .int mm_queued, .ref mm_meets, .ref mm_bytes, .int (nI bl), .int (nI z31), .int (nI z32), .int z33, .int z34, .ref mm_next, .int (nI z35)])), (mm_bytes, .inl (cy 1, 250, .inl mm_bytes_f))] H := hP
          have hD : va_D A [(mm_next, .inl (cy 1, 122, .inl mm_next_f)), (mm, .inr (11, [.ref mm_now, .ref mm_kept, .ref mm_isKept, .ref mm_refused, .int mm_lineFrom, .int mm_lineTo, .ref mm_stands, .ref mm_far, .ref mm_queue, .int mm_queued, .ref mm_meets, .ref mm_bytes, .int (nI bl), .int (nI z31), .int (nI z32), .int z33, .int z34, .ref mm_next, .int (nI z35)])), (mm_bytes, .inl (cy 1, 250, .inl mm_bytes_f))] := hD
          have hwr30 : (r30 = 1 ∧ (z31 + z32 ≤ bl ∧ (z33 = 0 ∨ 1 ≤ z32) ∧ z26 ≤ z31 ∧ z35 ≤ 35 ∧ 0 ≤ z35 ∧ (z35 : Int) ≤ ((9) : Int32).toInt)) ∨ (r30 = 0 ∧ (z31 + z32 ≤ bl ∧ (z33 = 0 ∨ 1 ≤ z32) ∧ z26 ≤ z31 ∧ z35 ≤ 35)) := hwr30
          refine lv_if_ne (tgt := 74) hx hb dX11_readsPerson_69 (by decide) (fun c36 => ?_) (fun c36 => ?_)
          · skip
            obtain ⟨hp37, hp38, hp39, hp40, hp41, hp42⟩ := z_b1 hwr30 c36
            refine lv_aload_n hx hb dX11_readsPerson_74 rfl (lv_at hl 2 rfl) ?_
            refine va_get (D := D) (ci := 11) (v := .ref mm_next) (C := RX11) (T := TX11) (N := 19) hx hb hts zi11_ hown hK hP 1 rfl rfl 17 (by decide) z0_ (fun _ h9 => h9) rfl dX11_readsPerson_75 ?_
            refine lv_iload_n hx hb dX11_readsPerson_78 rfl (lv_at hl 1 rfl) ?_
            refine lv_iload_n hx hb dX11_readsPerson_79 rfl (lv_at hl 0 rfl) ?_
            refine lv_aload_n hx hb dX11_readsPerson_80 rfl (lv_at hl 2 rfl) ?_
            refine va_get (D := D) (ci := 11) (v := .int (nI z35)) (C := RX11) (T := TX11) (N := 19) hx hb hts zi11_ hown hK hP 1 rfl rfl 18 (by decide) z2_ (fun _ h9 => h9) rfl dX11_readsPerson_81 ?_
            refine wr_v (wr := [(mm, .inr (11, [.ref mm_now, .ref mm_kept, .ref mm_isKept, .ref mm_refused, .int mm_lineFrom, .int mm_lineTo, .ref mm_stands, .ref mm_far, .ref mm_queue, .int mm_queued, .ref mm_meets, .ref mm_bytes, .int (nI bl), .int (nI z31), .int (nI z32), .int z33, .int z34, .ref mm_next, .int (nI z35)])), (mm_bytes, .inl (cy 1, 250, .inl mm_bytes_f))]) (va_runS (As := [.ref mm_next, .int (nI z12), .int (nI j24), .int (nI z35)]) (rest := []) ⟨hx, hb, hml, hown, hts⟩ (n_X11_layPerson l D cy xW xH xS xP mm_next mm_next_f z12 j24 z35 _ (by first | assumption | omega) (by first | assumption | omega) (by first | assumption | omega) (by first | assumption | omega) (by first | assumption | omega)) (va_cwS 4 hts gX11_readsPerson_X11_layPerson rfl rfl rfl (by decide +kernel) ⟨Nat.le_of_ble_eq_true rfl, Nat.le_of_ble_eq_true rfl⟩) (pS hKA (hP.sub (ws' := [(mm_next, .inl (cy 1, 122, .inl mm_next_f))]) [0] rfl) (hD.sub (ws' := [(mm_next, .inl (cy 1, 122, .inl mm_next_f))]) [0] (by decide) rfl)) rfl rfl hl.1 rfl (lv_room (Nat.le_of_ble_eq_true rfl)) dX11_readsPerson_84 ⟨Nat.le_of_ble_eq_true rfl, Nat.le_of_ble_eq_true rfl⟩) hP hD hS hA [0] [1, 2] rfl rfl (by decide +kernel) (by decide +kernel) (fun ur43 H locs hwr43 hP hD hS => ?_)
            obtain ⟨z44, rfl⟩ : ∃ z, z = ur43 := ⟨_, rfl⟩
            have hP : va_P D vwCl [(mm, .inr (11, [.ref mm_now, .ref mm_kept, .ref mm_isKept, .ref mm_refused, .int mm_lineFrom, .int mm_lineTo, .ref mm_stands, .ref mm_far, .ref mm_queue, .int mm_queued, .ref mm_meets, .ref mm_bytes, .int (nI bl), .int (nI z31), .int (nI z32), .int z33, .int z34, .ref mm_next, .int (nI z35)])), (mm_bytes, .inl (cy 1, 250, .inl mm_bytes_f)), (mm_next, .inl (cy 1, 122, .inl z44))] H := hP
            have hD : va_D A [(mm, .inr (11, [.ref mm_now, .ref mm_kept, .ref mm_isKept, .ref mm_refused, .int mm_lineFrom, .int mm_lineTo, .ref mm_stands, .ref mm_far, .ref mm_queue, .int mm_queued, .ref mm_meets, .ref mm_bytes, .int (nI bl), .int (nI z31), .int (nI z32), .int z33, .int z34, .ref mm_next, .int (nI z35)])), (mm_bytes, .inl (cy 1, 250, .inl mm_bytes_f)), (mm_next, .inl (cy 1, 122, .inl z44))] := hD
            have hwr43 : mV z44 xW xH xS (xP + 1) := hwr43
            have hv45 := hwr43
            refine lv_iconst (v := 1) hx hb dX11_readsPerson_87 (by decide) ?_
            subst hQF
            have hP9 := hP.sub (ws' := [(mm, .inr (11, [.ref mm_now, .ref mm_kept, .ref mm_isKept, .ref mm_refused, .int mm_lineFrom, .int mm_lineTo, .ref mm_stands, .ref mm_far, .ref mm_queue, .int mm_queued, .ref mm_meets, .ref mm_bytes, .int (nI bl), .int (nI z31), .int (nI z32), .int z33, .int z34, .ref mm_next, .int (nI z35)])), (mm_next, .inl (cy 1, 122, .inl z44)), (mm_bytes, .inl (cy 1, 250, .inl mm_bytes_f))]) [0, 2, 1] rfl
            have hD9 := hD.sub (ws' := [(mm, .inr (11, [.ref mm_now, .ref mm_kept, .ref mm_isKept, .ref mm_refused, .int mm_lineFrom, .int mm_lineTo, .ref mm_stands, .ref mm_far, .ref mm_queue, .int mm_queued, .ref mm_meets, .ref mm_bytes, .int (nI bl), .int (nI z31), .int (nI z32), .int z33, .int z34, .ref mm_next, .int (nI z35)])), (mm_next, .inl (cy 1, 122, .inl z44)), (mm_bytes, .inl (cy 1, 250, .inl mm_bytes_f))]) [0, 2, 1] (by decide) rfl
            exact W.zret (v := 1) hx hb hr rfl (fun t ht hW => ⟨⟨1, (z31, z32, z33, z34, z35, z44), rfl, (Or.inl ⟨rfl, ⟨(show z31 + z32 ≤ bl by omega), (by assumption), (show ta ≤ z31 by omega), (show z35 ≤ 35 by omega), ⟨_, _, _, _, hv45⟩⟩⟩), by rw [ht]; exact hP9, hD9⟩, hS.F ht⟩) hS.2.2 dX11_readsPerson_88
          · skip
            obtain ⟨hq46, hq47, hq48, hq49⟩ := z_b0 hwr30 c36
            refine lv_iconst (v := 0) hx hb dX11_readsPerson_72 (by decide) ?_
            subst hQF
            have hP9 := hP.sub (ws' := [(mm, .inr (11, [.ref mm_now, .ref mm_kept, .ref mm_isKept, .ref mm_refused, .int mm_lineFrom, .int mm_lineTo, .ref mm_stands, .ref mm_far, .ref mm_queue, .int mm_queued, .ref mm_meets, .ref mm_bytes, .int (nI bl), .int (nI z31), .int (nI z32), .int z33, .int z34, .ref mm_next, .int (nI z35)])), (mm_next, .inl (cy 1, 122, .inl mm_next_f)), (mm_bytes, .inl (cy 1, 250, .inl mm_bytes_f))]) [1, 0, 2] rfl
            have hD9 := hD.sub (ws' := [(mm, .inr (11, [.ref mm_now, .ref mm_kept, .ref mm_isKept, .ref mm_refused, .int mm_lineFrom, .int mm_lineTo, .ref mm_stands, .ref mm_far, .ref mm_queue, .int mm_queued, .ref mm_meets, .ref mm_bytes, .int (nI bl), .int (nI z31), .int (nI z32), .int z33, .int z34, .ref mm_next, .int (nI z35)])), (mm_next, .inl (cy 1, 122, .inl mm_next_f)), (mm_bytes, .inl (cy 1, 250, .inl mm_bytes_f))]) [1, 0, 2] (by decide) rfl
            exact W.zret (v := 0) hx hb hr rfl (fun t ht hW => ⟨⟨0, (z31, z32, z33, z34, z35, mm_next_f), rfl, (Or.inr ⟨rfl, ⟨(show z31 + z32 ≤ bl by omega), (by assumption), (show ta ≤ z31 by omega), (show z35 ≤ 35 by omega), ⟨_, _, _, _, hX⟩⟩⟩), by rw [ht]; exact hP9, hD9⟩, hS.F ht⟩) hS.2.2 dX11_readsPerson_73
        · skip
          refine lv_iconst (v := 0) hx hb dX11_readsPerson_51 (by decide) ?_
          subst hQF
          have hP9 := hP.sub (ws' := [(mm, .inr (11, [.ref mm_now, .ref mm_kept, .ref mm_isKept, .ref mm_refused, .int mm_lineFrom, .int mm_lineTo, .ref mm_stands, .ref mm_far, .ref mm_queue, .int mm_queued, .ref mm_meets, .ref mm_bytes, .int (nI bl), .int (nI z8), .int (nI z9), .int z10, .int z11, .ref mm_next, .int (nI z12)])), (mm_next, .inl (cy 1, 122, .inl mm_next_f)), (mm_bytes, .inl (cy 1, 250, .inl mm_bytes_f))]) [1, 0, 2] rfl
          have hD9 := hD.sub (ws' := [(mm, .inr (11, [.ref mm_now, .ref mm_kept, .ref mm_isKept, .ref mm_refused, .int mm_lineFrom, .int mm_lineTo, .ref mm_stands, .ref mm_far, .ref mm_queue, .int mm_queued, .ref mm_meets, .ref mm_bytes, .int (nI bl), .int (nI z8), .int (nI z9), .int z10, .int z11, .ref mm_next, .int (nI z12)])), (mm_next, .inl (cy 1, 122, .inl mm_next_f)), (mm_bytes, .inl (cy 1, 250, .inl mm_bytes_f))]) [1, 0, 2] (by decide) rfl
          exact W.zret (v := 0) hx hb hr rfl (fun t ht hW => ⟨⟨0, (z8, z9, z10, z11, z12, mm_next_f), rfl, (Or.inr ⟨rfl, ⟨(show z8 + z9 ≤ bl by omega), (by assumption), (show ta ≤ z8 by omega), (show z12 ≤ 35 by omega), ⟨_, _, _, _, hX⟩⟩⟩), by rw [ht]; exact hP9, hD9⟩, hS.F ht⟩) hS.2.2 dX11_readsPerson_52
    · skip
      obtain ⟨hq50, hq51, hq52, hq53⟩ := z_b0 hwr7 c13
      refine lv_iconst (v := 0) hx hb dX11_readsPerson_25 (by decide) ?_
      subst hQF
      have hP9 := hP.sub (ws' := [(mm, .inr (11, [.ref mm_now, .ref mm_kept, .ref mm_isKept, .ref mm_refused, .int mm_lineFrom, .int mm_lineTo, .ref mm_stands, .ref mm_far, .ref mm_queue, .int mm_queued, .ref mm_meets, .ref mm_bytes, .int (nI bl), .int (nI z8), .int (nI z9), .int z10, .int z11, .ref mm_next, .int (nI z12)])), (mm_next, .inl (cy 1, 122, .inl mm_next_f)), (mm_bytes, .inl (cy 1, 250, .inl mm_bytes_f))]) [1, 0, 2] rfl
      have hD9 := hD.sub (ws' := [(mm, .inr (11, [.ref mm_now, .ref mm_kept, .ref mm_isKept, .ref mm_refused, .int mm_lineFrom, .int mm_lineTo, .ref mm_stands, .ref mm_far, .ref mm_queue, .int mm_queued, .ref mm_meets, .ref mm_bytes, .int (nI bl), .int (nI z8), .int (nI z9), .int z10, .int z11, .ref mm_next, .int (nI z12)])), (mm_next, .inl (cy 1, 122, .inl mm_next_f)), (mm_bytes, .inl (cy 1, 250, .inl mm_bytes_f))]) [1, 0, 2] (by decide) rfl
      exact W.zret (v := 0) hx hb hr rfl (fun t ht hW => ⟨⟨0, (z8, z9, z10, z11, z12, mm_next_f), rfl, (Or.inr ⟨rfl, ⟨(show z8 + z9 ≤ bl by omega), (by assumption), (show ta ≤ z8 by omega), (show z12 ≤ 35 by omega), ⟨_, _, _, _, hX⟩⟩⟩), by rw [ht]; exact hP9, hD9⟩, hS.F ht⟩) hS.2.2 dX11_readsPerson_26
  · skip
    refine lv_iconst (v := 0) hx hb dX11_readsPerson_10 (by decide) ?_
    subst hQF
    have hP9 := hP
    have hD9 := hD
    exact W.zret (v := 0) hx hb hr rfl (fun t ht hW => ⟨⟨0, (ta, tl, mm_token, mm_value, tk, mm_next_f), rfl, (Or.inr ⟨rfl, ⟨(show ta + tl ≤ bl by omega), (by assumption), (show ta ≤ ta by omega), (show tk ≤ 35 by omega), ⟨_, _, _, _, hX⟩⟩⟩), by rw [ht]; exact hP9, hD9⟩, hS.F ht⟩) hS.2.2 dX11_readsPerson_11

set_option maxHeartbeats 4000000 in
set_option maxRecDepth 100000 in
theorem n_X11_readsTell (l : Launch) (D : va_G) (cy : Nat → ClassId) (mm : Nat) (mm_now : Nat) (mm_kept : Nat) (mm_isKept : Nat) (mm_refused : Nat) (mm_lineFrom : Int32) (mm_lineTo : Int32) (mm_stands : Nat) (mm_far : Nat) (mm_queue : Nat) (mm_queued : Int32) (mm_meets : Nat) (mm_bytes : Nat) (bl : Nat) (ta : Nat) (tl : Nat) (mm_token : Int32) (mm_value : Int32) (mm_next : Nat) (tk : Nat) (mm_next_f : Nat → Int32) (mm_bytes_f : Nat → Int32) (sz : Nat) (hbl : bl ≤ 250) (htt : ta + tl ≤ bl) (htz : mm_token = 0 ∨ 1 ≤ tl) (htk : tk ≤ 35) (hXN : mN mm_next_f) : Met l yX11_readsTell wsX11_readsTell ({ frames := 5, cells := 0, slots := 0, locals := 111 }) (va_Pc [.ref mm] (kPre D cy [(mm, .inr (11, [.ref mm_now, .ref mm_kept, .ref mm_isKept, .ref mm_refused, .int mm_lineFrom, .int mm_lineTo, .ref mm_stands, .ref mm_far, .ref mm_queue, .int mm_queued, .ref mm_meets, .ref mm_bytes, .int (nI bl), .int (nI ta), .int (nI tl), .int mm_token, .int mm_value, .ref mm_next, .int (nI tk)])), (mm_next, .inl (cy 1, 122, .inl mm_next_f)), (mm_bytes, .inl (cy 1, 250, .inl mm_bytes_f))] sz)) (va_Qi (fun (r : Int32) (u : Nat × Nat × Int32 × Int32 × Nat × (Nat → Int32)) => (r = 1 ∧ (u.1 + u.2.1 ≤ bl ∧ (u.2.2.1 = 0 ∨ 1 ≤ u.2.1) ∧ ta ≤ u.1 ∧ u.2.2.2.2.1 ≤ 35 ∧ mN u.2.2.2.2.2)) ∨ (r = 0 ∧ (u.1 + u.2.1 ≤ bl ∧ (u.2.2.1 = 0 ∨ 1 ≤ u.2.1) ∧ ta ≤ u.1 ∧ u.2.2.2.2.1 ≤ 35 ∧ mN u.2.2.2.2.2))) (fun (u : Nat × Nat × Int32 × Int32 × Nat × (Nat → Int32)) t => va_P D vwCl ([(mm, .inr (11, [.ref mm_now, .ref mm_kept, .ref mm_isKept, .ref mm_refused, .int mm_lineFrom, .int mm_lineTo, .ref mm_stands, .ref mm_far, .ref mm_queue, .int mm_queued, .ref mm_meets, .ref mm_bytes, .int (nI bl), .int (nI u.1), .int (nI u.2.1), .int u.2.2.1, .int u.2.2.2.1, .ref mm_next, .int (nI u.2.2.2.2.1)])), (mm_next, .inl (cy 1, 122, .inl u.2.2.2.2.2)), (mm_bytes, .inl (cy 1, 250, .inl mm_bytes_f))]) t.heap ∧ va_D (va_A [(mm, .inr (11, [.ref mm_now, .ref mm_kept, .ref mm_isKept, .ref mm_refused, .int mm_lineFrom, .int mm_lineTo, .ref mm_stands, .ref mm_far, .ref mm_queue, .int mm_queued, .ref mm_meets, .ref mm_bytes, .int (nI bl), .int (nI ta), .int (nI tl), .int mm_token, .int mm_value, .ref mm_next, .int (nI tk)])), (mm_next, .inl (cy 1, 122, .inl mm_next_f)), (mm_bytes, .inl (cy 1, 250, .inl mm_bytes_f))] sz) ([(mm, .inr (11, [.ref mm_now, .ref mm_kept, .ref mm_isKept, .ref mm_refused, .int mm_lineFrom, .int mm_lineTo, .ref mm_stands, .ref mm_far, .ref mm_queue, .int mm_queued, .ref mm_meets, .ref mm_bytes, .int (nI bl), .int (nI u.1), .int (nI u.2.1), .int u.2.2.1, .int u.2.2.2.1, .ref mm_next, .int (nI u.2.2.2.2.1)])), (mm_next, .inl (cy 1, 122, .inl u.2.2.2.2.2)), (mm_bytes, .inl (cy 1, 250, .inl mm_bytes_f))])) (va_A [(mm, .inr (11, [.ref mm_now, .ref mm_kept, .ref mm_isKept, .ref mm_refused, .int mm_lineFrom, .int mm_lineTo, .ref mm_stands, .ref mm_far, .ref mm_queue, .int mm_queued, .ref mm_meets, .ref mm_bytes, .int (nI bl), .int (nI ta), .int (nI tl), .int mm_token, .int mm_value, .ref mm_next, .int (nI tk)])), (mm_next, .inl (cy 1, 122, .inl mm_next_f)), (mm_bytes, .inl (cy 1, 250, .inl mm_bytes_f))] sz)) 0 0 (va_A [(mm, .inr (11, [.ref mm_now, .ref mm_kept, .ref mm_isKept, .ref mm_refused, .int mm_lineFrom, .int mm_lineTo, .ref mm_stands, .ref mm_far, .ref mm_queue, .int mm_queued, .ref mm_meets, .ref mm_bytes, .int (nI bl), .int (nI ta), .int (nI tl), .int mm_token, .int mm_value, .ref mm_next, .int (nI tk)])), (mm_next, .inl (cy 1, 122, .inl mm_next_f)), (mm_bytes, .inl (cy 1, 250, .inl mm_bytes_f))] sz) := by
  refine Met.ofW (cc := cX11_readsTell) (maxL := 3) (ret := (some .boolean)) (by decide) rfl ?_
  intro p e s m args below meth c s₁ B hml hv
  obtain ⟨rfl, hsz, hP, hKA, hD0⟩ := hv
  have hx := B.exec
  have hb := B.bytes
  have hr := B.returns
  have hts := atoms_spec (ws := wsX11_readsTell) B.pre
  have hown : s.vm.findClass RX11 = some m.cls := findClass_of_methodNamed B.named
  have hlocks := B.notSynchronized
  subst hsz
  have hK := hKA.1
  have hD := hD0.self (sz := s.heap.size)
  generalize hAe : va_A [(mm, .inr (11, [.ref mm_now, .ref mm_kept, .ref mm_isKept, .ref mm_refused, .int mm_lineFrom, .int mm_lineTo, .ref mm_stands, .ref mm_far, .ref mm_queue, .int mm_queued, .ref mm_meets, .ref mm_bytes, .int (nI bl), .int (nI ta), .int (nI tl), .int mm_token, .int mm_value, .ref mm_next, .int (nI tk)])), (mm_next, .inl (cy 1, 122, .inl mm_next_f)), (mm_bytes, .inl (cy 1, 250, .inl mm_bytes_f))] s.heap.size = A at hD ⊢
  have hA : ∀ q : Nat, s.heap.size ≤ q → A q := fun q h => by rw [← hAe]; exact Or.inr h
  have hS : va_S A s.heap s.heap [] := va_S.rf
  have hP : va_P D vwCl [(mm, .inr (11, [.ref mm_now, .ref mm_kept, .ref mm_isKept, .ref mm_refused, .int mm_lineFrom, .int mm_lineTo, .ref mm_stands, .ref mm_far, .ref mm_queue, .int mm_queued, .ref mm_meets, .ref mm_bytes, .int (nI bl), .int (nI ta), .int (nI tl), .int mm_token, .int mm_value, .ref mm_next, .int (nI tk)])), (mm_next, .inl (cy 1, 122, .inl mm_next_f)), (mm_bytes, .inl (cy 1, 250, .inl mm_bytes_f))] s.heap := hP
  have hl := lv_entry ([.ref mm]) (n := 3) (Nat.le_of_ble_eq_true rfl)
  rw [lg_entry_eq]
  generalize (lg_sl ([.ref mm]) ++ List.replicate (3 - (lg_sl ([.ref mm])).length) Slot.unset).toArray = ls at hl ⊢
  have hl : lv_has ls 3 [(0, .ref mm)] := hl
  refine qW (fun QF hQF => ?_)
  have z0_ := hts (.fieldLink RX11 38 "HeardSeenModel" "next" "[I") (by decide +kernel)
  have zi11_ : ∀ w ∈ u_ws RX11 TX11 19, w ∈ wsX11_readsTell := by decide +kernel
  have z2_ := hts (.fieldLink RX11 230 "HeardSeenModel" "taken" "I") (by decide +kernel)
  have z3_ := hts (.fieldLink RX11 215 "HeardSeenModel" "token" "I") (by decide +kernel)
  have z4_ := hts (.fieldLink RX11 218 "HeardSeenModel" "value" "I") (by decide +kernel)
  obtain ⟨xW, xH, xS, xP, hX⟩ := hXN
  obtain ⟨hxW2, hxW6, hxH2, hxH6, hxSe, hxS4, hxS6, hxP5⟩ := hX.rng
  have c1 : (1 : Int32).toInt = 1 := by decide
  have c4 : (4 : Int32).toInt = 4 := by decide
  have c5 : (5 : Int32).toInt = 5 := by decide
  have c6 : (6 : Int32).toInt = 6 := by decide
  have c9 : (9 : Int32).toInt = 9 := by decide
  have hxm : (nI xP - 1).toInt ≤ 4 := by rw [z_pm (by omega)]; omega
  refine lv_aload_n hx hb dX11_readsTell_0 rfl (lv_at hl 0 rfl) ?_
  refine va_get (D := D) (ci := 11) (v := .ref mm_next) (C := RX11) (T := TX11) (N := 19) hx hb hts zi11_ hown hK hP 0 rfl rfl 17 (by decide) z0_ (fun _ h9 => h9) rfl dX11_readsTell_1 ?_
  refine lv_bipush (v := 92) hx hb dX11_readsTell_4 (by decide) ?_
  refine my_iald hx hb hK hP 1 1 rfl rfl (by rw [vp_in_iff]; decide +kernel) (k := 92) (by decide +kernel) dX11_readsTell_6 ?_
  obtain ⟨jk, ejk, hjk⟩ := mV.get hX (92) 6 (by omega) (by omega) (by unfold mHi; (repeat' split) <;> omega)
  refine W.eq (g2 := F0 m 7 ls [.int (nI jk)]) (congrArg (fun v9 : Int32 => F0 m 7 ls [.int v9]) ejk) ?_
  refine lv_istore_n (lv' := [(1, .int (nI jk)), (0, .ref mm)]) hx hb dX11_readsTell_7 rfl hl (by decide) rfl (fun ls hl => ?_)
  refine lv_iload_n hx hb dX11_readsTell_8 rfl (lv_at hl 0 rfl) ?_
  refine lv_bipush (v := 6) hx hb dX11_readsTell_9 (by decide) ?_
  refine lv_icmp_ne (tgt := 16) hx hb dX11_readsTell_11 (by decide) (fun c1 => ?_) (fun c1 => ?_)
  · skip
    have hk6 := ne5 (n := 6) rfl (by assumption) hjk
    refine lv_aload_n hx hb dX11_readsTell_16 rfl (lv_at hl 1 rfl) ?_
    refine wr_v (wr := [(mm_next, .inl (cy 1, 122, .inl mm_next_f))]) (va_runV (As := []) (rest := []) ⟨hx, hb, hml, hown, hts⟩ (n_X11_goOn l D cy mm mm_now mm_kept mm_isKept mm_refused mm_lineFrom mm_lineTo mm_stands mm_far mm_queue mm_queued mm_meets mm_bytes bl ta tl mm_token mm_value mm_next tk mm_bytes_f _ (by first | assumption | omega) (by first | assumption | omega)) (cwV 0 hts gX11_readsTell_X11_goOn rfl rfl rfl (by decide +kernel) ⟨Nat.le_of_ble_eq_true rfl, Nat.le_of_ble_eq_true rfl⟩) (pV (ci := 11) (k := 0) hKA (hP.sub (ws' := [(mm, .inr (11, [.ref mm_now, .ref mm_kept, .ref mm_isKept, .ref mm_refused, .int mm_lineFrom, .int mm_lineTo, .ref mm_stands, .ref mm_far, .ref mm_queue, .int mm_queued, .ref mm_meets, .ref mm_bytes, .int (nI bl), .int (nI ta), .int (nI tl), .int mm_token, .int mm_value, .ref mm_next, .int (nI tk)])), (mm_bytes, .inl (cy 1, 250, .inl mm_bytes_f))]) [0, 2] rfl) (hD.sub (ws' := [(mm, .inr (11, [.ref mm_now, .ref mm_kept, .ref mm_isKept, .ref mm_refused, .int mm_lineFrom, .int mm_lineTo, .ref mm_stands, .ref mm_far, .ref mm_queue, .int mm_queued, .ref mm_meets, .ref mm_bytes, .int (nI bl), .int (nI ta), .int (nI tl), .int mm_token, .int mm_value, .ref mm_next, .int (nI tk)])), (mm_bytes, .inl (cy 1, 250, .inl mm_bytes_f))]) [0, 2] (by decide) rfl) rfl rfl) rfl rfl hl.1 rfl (lv_room (Nat.le_of_ble_eq_true rfl)) dX11_readsTell_17 ⟨Nat.le_of_ble_eq_true rfl, Nat.le_of_ble_eq_true rfl⟩) hP hD hS hA [0, 2] [1] rfl rfl (by decide +kernel) (by decide +kernel) (fun ur2 H locs hwr2 hP hD hS => ?_)
    obtain ⟨z3, z4, z5, z6⟩ := ur2
    have hP : va_P D vwCl [(mm_next, .inl (cy 1, 122, .inl mm_next_f)), (mm, .inr (11, [.ref mm_now, .ref mm_kept, .ref mm_isKept, .ref mm_refused, .int mm_lineFrom, .int mm_lineTo, .ref mm_stands, .ref mm_far, .ref mm_queue, .int mm_queued, .ref mm_meets, .ref mm_bytes, .int (nI bl), .int (nI z3), .int (nI z4), .int z5, .int z6, .ref mm_next, .int (nI tk)])), (mm_bytes, .inl (cy 1, 250, .inl mm_bytes_f))] H := hP
    have hD : va_D A [(mm_next, .inl (cy 1, 122, .inl mm_next_f)), (mm, .inr (11, [.ref mm_now, .ref mm_kept, .ref mm_isKept, .ref mm_refused, .int mm_lineFrom, .int mm_lineTo, .ref mm_stands, .ref mm_far, .ref mm_queue, .int mm_queued, .ref mm_meets, .ref mm_bytes, .int (nI bl), .int (nI z3), .int (nI z4), .int z5, .int z6, .ref mm_next, .int (nI tk)])), (mm_bytes, .inl (cy 1, 250, .inl mm_bytes_f))] := hD
    have hwr2 : z3 + z4 ≤ bl ∧ (z5 = 0 ∨ 1 ≤ z4) ∧ ta + tl ≤ z3 := hwr2
    obtain ⟨har2, hbr2, hcr2⟩ := hwr2
    refine lv_aload_n hx hb dX11_readsTell_20 rfl (lv_at hl 1 rfl) ?_
    refine lv_iconst (v := 0) hx hb dX11_readsTell_21 (by decide) ?_
    refine lv_aload_n hx hb dX11_readsTell_22 rfl (lv_at hl 1 rfl) ?_
    refine va_get (D := D) (ci := 11) (v := .ref mm_next) (C := RX11) (T := TX11) (N := 19) hx hb hts zi11_ hown hK hP 1 rfl rfl 17 (by decide) z0_ (fun _ h9 => h9) rfl dX11_readsTell_23 ?_
    refine lv_iconst (v := 4) hx hb dX11_readsTell_26 (by decide) ?_
    refine my_iald hx hb hK hP 0 1 rfl rfl (by rw [vp_in_iff]; decide +kernel) (k := 4) (by decide +kernel) dX11_readsTell_27 ?_
    refine W.eq (g2 := F0 m 28 ls [.int (nI xP), .int 0, .ref mm]) (congrArg (fun v9 : Int32 => F0 m 28 ls [.int v9, .int 0, .ref mm]) hX.2.2.1) ?_
    refine lv_iconst (v := 1) hx hb dX11_readsTell_28 (by decide) ?_
    refine lv_isub hx hb dX11_readsTell_29 ?_
    refine wr_i (wr := [(mm_next, .inl (cy 1, 122, .inl mm_next_f))]) (va_runV (As := [.int 0, .int ((nI xP) - 1)]) (rest := []) ⟨hx, hb, hml, hown, hts⟩ (n_X11_takes l D cy mm mm_now mm_kept mm_isKept mm_refused mm_lineFrom mm_lineTo mm_stands mm_far mm_queue mm_queued mm_meets mm_bytes bl z3 z4 z5 z6 mm_next tk mm_bytes_f 0 ((nI xP) - 1) _ (by first | assumption | omega) (by first | assumption | omega) (by first | assumption | omega) (by first | assumption | omega) (by first | assumption | omega) (by first | decide | exact z_pmle (by omega))) (cwV 2 hts gX11_readsTell_X11_takes rfl rfl rfl (by decide +kernel) ⟨Nat.le_of_ble_eq_true rfl, Nat.le_of_ble_eq_true rfl⟩) (pV (ci := 11) (k := 0) hKA (hP.sub (ws' := [(mm, .inr (11, [.ref mm_now, .ref mm_kept, .ref mm_isKept, .ref mm_refused, .int mm_lineFrom, .int mm_lineTo, .ref mm_stands, .ref mm_far, .ref mm_queue, .int mm_queued, .ref mm_meets, .ref mm_bytes, .int (nI bl), .int (nI z3), .int (nI z4), .int z5, .int z6, .ref mm_next, .int (nI tk)])), (mm_bytes, .inl (cy 1, 250, .inl mm_bytes_f))]) [1, 2] rfl) (hD.sub (ws' := [(mm, .inr (11, [.ref mm_now, .ref mm_kept, .ref mm_isKept, .ref mm_refused, .int mm_lineFrom, .int mm_lineTo, .ref mm_stands, .ref mm_far, .ref mm_queue, .int mm_queued, .ref mm_meets, .ref mm_bytes, .int (nI bl), .int (nI z3), .int (nI z4), .int z5, .int z6, .ref mm_next, .int (nI tk)])), (mm_bytes, .inl (cy 1, 250, .inl mm_bytes_f))]) [1, 2] (by decide) rfl) rfl rfl) rfl rfl hl.1 rfl (lv_room (Nat.le_of_ble_eq_true rfl)) dX11_readsTell_30 ⟨Nat.le_of_ble_eq_true rfl, Nat.le_of_ble_eq_true rfl⟩) hP hD hS hA [1, 2] [0] rfl rfl (by decide +kernel) (by decide +kernel) (fun r7 ur7 H locs hwr7 hP hD hS => ?_)
    obtain ⟨z8, z9, z10, z11, z12⟩ := ur7
    have hP : va_P D vwCl [(mm_next, .inl (cy 1, 122, .inl mm_next_f)), (mm, .inr (11, [.ref mm_now, .ref mm_kept, .ref mm_isKept, .ref mm_refused, .int mm_lineFrom, .int mm_lineTo, .ref mm_stands, .ref mm_far, .ref mm_queue, .int mm_queued, .ref mm_meets, .ref mm_bytes, .int (nI bl), .int (nI z8), .int (nI z9), .int z10, .int z11, .ref mm_next, .int (nI z12)])), (mm_bytes, .inl (cy 1, 250, .inl mm_bytes_f))] H := hP
    have hD : va_D A [(mm_next, .inl (cy 1, 122, .inl mm_next_f)), (mm, .inr (11, [.ref mm_now, .ref mm_kept, .ref mm_isKept, .ref mm_refused, .int mm_lineFrom, .int mm_lineTo, .ref mm_stands, .ref mm_far, .ref mm_queue, .int mm_queued, .ref mm_meets, .ref mm_bytes, .int (nI bl), .int (nI z8), .int (nI z9), .int z10, .int z11, .ref mm_next, .int (nI z12)])), (mm_bytes, .inl (cy 1, 250, .inl mm_bytes_f))] := hD
    have hwr7 : (r7 = 1 ∧ (z8 + z9 ≤ bl ∧ (z10 = 0 ∨ 1 ≤ z9) ∧ z3 ≤ z8 ∧ z12 ≤ 35 ∧ 0 ≤ z12 ∧ (z12 : Int) ≤ (((nI xP) - 1) : Int32).toInt)) ∨ (r7 = 0 ∧ (z8 + z9 ≤ bl ∧ (z10 = 0 ∨ 1 ≤ z9) ∧ z3 ≤ z8 ∧ z12 ≤ 35)) := hwr7
    refine lv_if_ne (tgt := 38) hx hb dX11_readsTell_33 (by decide) (fun c13 => ?_) (fun c13 => ?_)
    · skip
      obtain ⟨hp14, hp15, hp16, hp17, hp18, hp19⟩ := z_b1 hwr7 c13
      refine lv_aload_n hx hb dX11_readsTell_38 rfl (lv_at hl 1 rfl) ?_
      refine va_get (D := D) (ci := 11) (v := .int (nI z12)) (C := RX11) (T := TX11) (N := 19) hx hb hts zi11_ hown hK hP 1 rfl rfl 18 (by decide) z2_ (fun _ h9 => h9) rfl dX11_readsTell_39 ?_
      refine lv_istore_n (lv' := [(2, .int (nI z12)), (1, .int (nI jk)), (0, .ref mm)]) hx hb dX11_readsTell_42 rfl hl (by decide) rfl (fun ls hl => ?_)
      refine lv_aload_n hx hb dX11_readsTell_43 rfl (lv_at hl 2 rfl) ?_
      refine va_get (D := D) (ci := 11) (v := .int z10) (C := RX11) (T := TX11) (N := 19) hx hb hts zi11_ hown hK hP 1 rfl rfl 15 (by decide) z3_ (fun _ h9 => h9) rfl dX11_readsTell_44 ?_
      refine lv_iconst (v := 2) hx hb dX11_readsTell_47 (by decide) ?_
      refine lv_icmp_ne (tgt := 59) hx hb dX11_readsTell_48 (by decide) (fun c20 => ?_) (fun c20 => ?_)
      · skip
        refine lv_aload_n hx hb dX11_readsTell_59 rfl (lv_at hl 2 rfl) ?_
        refine lv_iconst (v := 0) hx hb dX11_readsTell_60 (by decide) ?_
        refine lv_aload_n hx hb dX11_readsTell_61 rfl (lv_at hl 2 rfl) ?_
        refine va_get (D := D) (ci := 11) (v := .ref mm_next) (C := RX11) (T := TX11) (N := 19) hx hb hts zi11_ hown hK hP 1 rfl rfl 17 (by decide) z0_ (fun _ h9 => h9) rfl dX11_readsTell_62 ?_
        refine lv_iconst (v := 4) hx hb dX11_readsTell_65 (by decide) ?_
        refine my_iald hx hb hK hP 0 1 rfl rfl (by rw [vp_in_iff]; decide +kernel) (k := 4) (by decide +kernel) dX11_readsTell_66 ?_
        refine W.eq (g2 := F0 m 67 ls [.int (nI xP), .int 0, .ref mm]) (congrArg (fun v9 : Int32 => F0 m 67 ls [.int v9, .int 0, .ref mm]) hX.2.2.1) ?_
        refine lv_iconst (v := 1) hx hb dX11_readsTell_67 (by decide) ?_
        refine lv_isub hx hb dX11_readsTell_68 ?_
        refine wr_i (wr := [(mm_next, .inl (cy 1, 122, .inl mm_next_f))]) (va_runV (As := [.int 0, .int ((nI xP) - 1)]) (rest := []) ⟨hx, hb, hml, hown, hts⟩ (n_X11_takes l D cy mm mm_now mm_kept mm_isKept mm_refused mm_lineFrom mm_lineTo mm_stands mm_far mm_queue mm_queued mm_meets mm_bytes bl z8 z9 z10 z11 mm_next z12 mm_bytes_f 0 ((nI xP) - 1) _ (by first | assumption | omega) (by first | assumption | omega) (by first | assumption | omega) (by first | assumption | omega) (by first | assumption | omega) (by first | decide | exact z_pmle (by omega))) (cwV 2 hts gX11_readsTell_X11_takes rfl rfl rfl (by decide +kernel) ⟨Nat.le_of_ble_eq_true rfl, Nat.le_of_ble_eq_true rfl⟩) (pV (ci := 11) (k := 0) hKA (hP.sub (ws' := [(mm, .inr (11, [.ref mm_now, .ref mm_kept, .ref mm_isKept, .ref mm_refused, .int mm_lineFrom, .int mm_lineTo, .ref mm_stands, .ref mm_far, .ref mm_queue, .int mm_queued, .ref mm_meets, .ref mm_bytes, .int (nI bl), .int (nI z8), .int (nI z9), .int z10, .int z11, .ref mm_next, .int (nI z12)])), (mm_bytes, .inl (cy 1, 250, .inl mm_bytes_f))]) [1, 2] rfl) (hD.sub (ws' := [(mm, .inr (11, [.ref mm_now, .ref mm_kept, .ref mm_isKept, .ref mm_refused, .int mm_lineFrom, .int mm_lineTo, .ref mm_stands, .ref mm_far, .ref mm_queue, .int mm_queued, .ref mm_meets, .ref mm_bytes, .int (nI bl), .int (nI z8), .int (nI z9), .int z10, .int z11, .ref mm_next, .int (nI z12)])), (mm_bytes, .inl (cy 1, 250, .inl mm_bytes_f))]) [1, 2] (by decide) rfl) rfl rfl) rfl rfl hl.1 rfl (lv_room (Nat.le_of_ble_eq_true rfl)) dX11_readsTell_69 ⟨Nat.le_of_ble_eq_true rfl, Nat.le_of_ble_eq_true rfl⟩) hP hD hS hA [1, 2] [0] rfl rfl (by decide +kernel) (by decide +kernel) (fun r21 ur21 H locs hwr21 hP hD hS => ?_)
        obtain ⟨z22, z23, z24, z25, z26⟩ := ur21
        have hP : va_P D vwCl [(mm_next, .inl (cy 1, 122, .inl mm_next_f)), (mm, .inr (11, [.ref mm_now, .ref mm_kept, .ref mm_isKept, .ref mm_refused, .int mm_lineFrom, .int mm_lineTo, .ref mm_stands, .ref mm_far, .ref mm_queue, .int mm_queued, .ref mm_meets, .ref mm_bytes, .int (nI bl), .int (nI z22), .int (nI z23), .int z24, .int z25, .ref mm_next, .int (nI z26)])), (mm_bytes, .inl (cy 1, 250, .inl mm_bytes_f))] H := hP
        have hD : va_D A [(mm_next, .inl (cy 1, 122, .inl mm_next_f)), (mm, .inr (11, [.ref mm_now, .ref mm_kept, .ref mm_isKept, .ref mm_refused, .int mm_lineFrom, .int mm_lineTo, .ref mm_stands, .ref mm_far, .ref mm_queue, .int mm_queued, .ref mm_meets, .ref mm_bytes, .int (nI bl), .int (nI z22), .int (nI z23), .int z24, .int z25, .ref mm_next, .int (nI z26)])), (mm_bytes, .inl (cy 1, 250, .inl mm_bytes_f))] := hD
        have hwr21 : (r21 = 1 ∧ (z22 + z23 ≤ bl ∧ (z24 = 0 ∨ 1 ≤ z23) ∧ z8 ≤ z22 ∧ z26 ≤ 35 ∧ 0 ≤ z26 ∧ (z26 : Int) ≤ (((nI xP) - 1) : Int32).toInt)) ∨ (r21 = 0 ∧ (z22 + z23 ≤ bl ∧ (z24 = 0 ∨ 1 ≤ z23) ∧ z8 ≤ z22 ∧ z26 ≤ 35)) := hwr21
        refine lv_if_ne (tgt := 77) hx hb dX11_readsTell_72 (by decide) (fun c27 => ?_) (fun c27 => ?_)
        · skip
          obtain ⟨hp28, hp29, hp30, hp31, hp32, hp33⟩ := z_b1 hwr21 c27
          refine lv_aload_n hx hb dX11_readsTell_77 rfl (lv_at hl 2 rfl) ?_
          refine va_get (D := D) (ci := 11) (v := .ref mm_next) (C := RX11) (T := TX11) (N := 19) hx hb hts zi11_ hown hK hP 1 rfl rfl 17 (by decide) z0_ (fun _ h9 => h9) rfl dX11_readsTell_78 ?_
          refine lv_bipush (v := 93) hx hb dX11_readsTell_81 (by decide) ?_
          refine lv_iconst (v := 2) hx hb dX11_readsTell_83 (by decide) ?_
          refine lv_iload_n hx hb dX11_readsTell_84 rfl (lv_at hl 1 rfl) ?_
          refine lv_imul hx hb dX11_readsTell_85 ?_
          refine lv_topi (fun x34 ex34 => ?_)
          obtain rfl : x34 = nI (2 * jk) := by rw [ex34]; exact pk_mul _ _
          refine lv_iadd hx hb dX11_readsTell_86 ?_
          refine lv_topi (fun x35 ex35 => ?_)
          obtain rfl : x35 = nI (93 + (2 * jk)) := by rw [ex35]; exact nI_add _ _
          refine lv_iload_n hx hb dX11_readsTell_87 rfl (lv_at hl 0 rfl) ?_
          refine my_iast hx hb hK hP hD hS 0 1 rfl rfl (by first | exact in_ge (N := 122) (by decide) (by omega) (by assumption) | exact vp_in_nI (by omega) (by omega)) (nI_clamp (by omega)) dX11_readsTell_88 (fun H locs hP hD hS => ?_)
          have hP : va_P D vwCl [(mm_next, .inl (cy 1, 122, .inl (upd mm_next_f (93 + (2 * jk)) (nI z12)))), (mm, .inr (11, [.ref mm_now, .ref mm_kept, .ref mm_isKept, .ref mm_refused, .int mm_lineFrom, .int mm_lineTo, .ref mm_stands, .ref mm_far, .ref mm_queue, .int mm_queued, .ref mm_meets, .ref mm_bytes, .int (nI bl), .int (nI z22), .int (nI z23), .int z24, .int z25, .ref mm_next, .int (nI z26)])), (mm_bytes, .inl (cy 1, 250, .inl mm_bytes_f))] H := hP
          have hD : va_D A [(mm_next, .inl (cy 1, 122, .inl (upd mm_next_f (93 + (2 * jk)) (nI z12)))), (mm, .inr (11, [.ref mm_now, .ref mm_kept, .ref mm_isKept, .ref mm_refused, .int mm_lineFrom, .int mm_lineTo, .ref mm_stands, .ref mm_far, .ref mm_queue, .int mm_queued, .ref mm_meets, .ref mm_bytes, .int (nI bl), .int (nI z22), .int (nI z23), .int z24, .int z25, .ref mm_next, .int (nI z26)])), (mm_bytes, .inl (cy 1, 250, .inl mm_bytes_f))] := hD
          obtain ⟨f36, ef36⟩ : ∃ y : Nat → Int32, y = upd mm_next_f (93 + (2 * jk)) (nI z12) := ⟨_, rfl⟩
          rw [← ef36] at hP hD
          have hf36 : mV f36 xW xH xS xP := by rw [ef36]; exact mV.put hX (93 + (2 * jk)) z12 rfl (by omega) (by unfold mHi; (repeat' split) <;> omega)
          have hP : va_P D vwCl [(mm_next, .inl (cy 1, 122, .inl f36)), (mm, .inr (11, [.ref mm_now, .ref mm_kept, .ref mm_isKept, .ref mm_refused, .int mm_lineFrom, .int mm_lineTo, .ref mm_stands, .ref mm_far, .ref mm_queue, .int mm_queued, .ref mm_meets, .ref mm_bytes, .int (nI bl), .int (nI z22), .int (nI z23), .int z24, .int z25, .ref mm_next, .int (nI z26)])), (mm_bytes, .inl (cy 1, 250, .inl mm_bytes_f))] H := hP
          have hD : va_D A [(mm_next, .inl (cy 1, 122, .inl f36)), (mm, .inr (11, [.ref mm_now, .ref mm_kept, .ref mm_isKept, .ref mm_refused, .int mm_lineFrom, .int mm_lineTo, .ref mm_stands, .ref mm_far, .ref mm_queue, .int mm_queued, .ref mm_meets, .ref mm_bytes, .int (nI bl), .int (nI z22), .int (nI z23), .int z24, .int z25, .ref mm_next, .int (nI z26)])), (mm_bytes, .inl (cy 1, 250, .inl mm_bytes_f))] := hD
          refine lv_aload_n hx hb dX11_readsTell_89 rfl (lv_at hl 2 rfl) ?_
          refine va_get (D := D) (ci := 11) (v := .ref mm_next) (C := RX11) (T := TX11) (N := 19) hx hb hts zi11_ hown hK hP 1 rfl rfl 17 (by decide) z0_ (fun _ h9 => h9) rfl dX11_readsTell_90 ?_
          refine lv_bipush (v := 93) hx hb dX11_readsTell_93 (by decide) ?_
          refine lv_iconst (v := 2) hx hb dX11_readsTell_95 (by decide) ?_
          refine lv_iload_n hx hb dX11_readsTell_96 rfl (lv_at hl 1 rfl) ?_
          refine lv_imul hx hb dX11_readsTell_97 ?_
          refine lv_topi (fun x37 ex37 => ?_)
          obtain rfl : x37 = nI (2 * jk) := by rw [ex37]; exact pk_mul _ _
          refine lv_iadd hx hb dX11_readsTell_98 ?_
          refine lv_topi (fun x38 ex38 => ?_)
          obtain rfl : x38 = nI (93 + (2 * jk)) := by rw [ex38]; exact nI_add _ _
          refine lv_iconst (v := 1) hx hb dX11_readsTell_99 (by decide) ?_
          refine lv_iadd hx hb dX11_readsTell_100 ?_
          refine lv_topi (fun x39 ex39 => ?_)
          obtain rfl : x39 = nI ((93 + (2 * jk)) + 1) := by rw [ex39]; exact nI_add _ _
          refine lv_aload_n hx hb dX11_readsTell_101 rfl (lv_at hl 2 rfl) ?_
          refine va_get (D := D) (ci := 11) (v := .int (nI z26)) (C := RX11) (T := TX11) (N := 19) hx hb hts zi11_ hown hK hP 1 rfl rfl 18 (by decide) z2_ (fun _ h9 => h9) rfl dX11_readsTell_102 ?_
          refine my_iast hx hb hK hP hD hS 0 1 rfl rfl (by first | exact in_ge (N := 122) (by decide) (by omega) (by assumption) | exact vp_in_nI (by omega) (by omega)) (nI_clamp (by omega)) dX11_readsTell_105 (fun H locs hP hD hS => ?_)
          have hP : va_P D vwCl [(mm_next, .inl (cy 1, 122, .inl (upd f36 ((93 + (2 * jk)) + 1) (nI z26)))), (mm, .inr (11, [.ref mm_now, .ref mm_kept, .ref mm_isKept, .ref mm_refused, .int mm_lineFrom, .int mm_lineTo, .ref mm_stands, .ref mm_far, .ref mm_queue, .int mm_queued, .ref mm_meets, .ref mm_bytes, .int (nI bl), .int (nI z22), .int (nI z23), .int z24, .int z25, .ref mm_next, .int (nI z26)])), (mm_bytes, .inl (cy 1, 250, .inl mm_bytes_f))] H := hP
          have hD : va_D A [(mm_next, .inl (cy 1, 122, .inl (upd f36 ((93 + (2 * jk)) + 1) (nI z26)))), (mm, .inr (11, [.ref mm_now, .ref mm_kept, .ref mm_isKept, .ref mm_refused, .int mm_lineFrom, .int mm_lineTo, .ref mm_stands, .ref mm_far, .ref mm_queue, .int mm_queued, .ref mm_meets, .ref mm_bytes, .int (nI bl), .int (nI z22), .int (nI z23), .int z24, .int z25, .ref mm_next, .int (nI z26)])), (mm_bytes, .inl (cy 1, 250, .inl mm_bytes_f))] := hD
          obtain ⟨f40, ef40⟩ : ∃ y : Nat → Int32, y = upd f36 ((93 + (2 * jk)) + 1) (nI z26) := ⟨_, rfl⟩
          rw [← ef40] at hP hD
          have hf40 : mV f40 xW xH xS xP := by rw [ef40]; exact mV.put hf36 ((93 + (2 * jk)) + 1) z26 rfl (by omega) (by unfold mHi; (repeat' split) <;> omega)
          have hP : va_P D vwCl [(mm_next, .inl (cy 1, 122, .inl f40)), (mm, .inr (11, [.ref mm_now, .ref mm_kept, .ref mm_isKept, .ref mm_refused, .int mm_lineFrom, .int mm_lineTo, .ref mm_stands, .ref mm_far, .ref mm_queue, .int mm_queued, .ref mm_meets, .ref mm_bytes, .int (nI bl), .int (nI z22), .int (nI z23), .int z24, .int z25, .ref mm_next, .int (nI z26)])), (mm_bytes, .inl (cy 1, 250, .inl mm_bytes_f))] H := hP
          have hD : va_D A [(mm_next, .inl (cy 1, 122, .inl f40)), (mm, .inr (11, [.ref mm_now, .ref mm_kept, .ref mm_isKept, .ref mm_refused, .int mm_lineFrom, .int mm_lineTo, .ref mm_stands, .ref mm_far, .ref mm_queue, .int mm_queued, .ref mm_meets, .ref mm_bytes, .int (nI bl), .int (nI z22), .int (nI z23), .int z24, .int z25, .ref mm_next, .int (nI z26)])), (mm_bytes, .inl (cy 1, 250, .inl mm_bytes_f))] := hD
          refine lv_aload_n hx hb dX11_readsTell_106 rfl (lv_at hl 2 rfl) ?_
          refine va_get (D := D) (ci := 11) (v := .ref mm_next) (C := RX11) (T := TX11) (N := 19) hx hb hts zi11_ hown hK hP 1 rfl rfl 17 (by decide) z0_ (fun _ h9 => h9) rfl dX11_readsTell_107 ?_
          refine lv_bipush (v := 92) hx hb dX11_readsTell_110 (by decide) ?_
          refine lv_dup2_11 hx hb dX11_readsTell_112 rfl rfl ?_
          refine my_iald hx hb hK hP 0 1 rfl rfl (by rw [vp_in_iff]; decide +kernel) (k := 92) (by decide +kernel) dX11_readsTell_113 ?_
          refine W.eq (g2 := F0 m 114 ls [.int (nI jk), .int 92, .ref mm_next]) (congrArg (fun v9 : Int32 => F0 m 114 ls [.int v9, .int 92, .ref mm_next]) (show _ = nI jk by rw [ef40, ur_ne _ _ (by omega), ef36, ur_ne _ _ (by omega)]; exact ejk)) ?_
          refine lv_iconst (v := 1) hx hb dX11_readsTell_114 (by decide) ?_
          refine lv_iadd hx hb dX11_readsTell_115 ?_
          refine lv_topi (fun x41 ex41 => ?_)
          obtain rfl : x41 = nI (jk + 1) := by rw [ex41]; exact nI_add _ _
          refine my_iast hx hb hK hP hD hS 0 1 rfl rfl (by rw [vp_in_iff]; decide +kernel) (k := 92) (by decide +kernel) dX11_readsTell_116 (fun H locs hP hD hS => ?_)
          have hP : va_P D vwCl [(mm_next, .inl (cy 1, 122, .inl (upd f40 92 (nI (jk + 1))))), (mm, .inr (11, [.ref mm_now, .ref mm_kept, .ref mm_isKept, .ref mm_refused, .int mm_lineFrom, .int mm_lineTo, .ref mm_stands, .ref mm_far, .ref mm_queue, .int mm_queued, .ref mm_meets, .ref mm_bytes, .int (nI bl), .int (nI z22), .int (nI z23), .int z24, .int z25, .ref mm_next, .int (nI z26)])), (mm_bytes, .inl (cy 1, 250, .inl mm_bytes_f))] H := hP
          have hD : va_D A [(mm_next, .inl (cy 1, 122, .inl (upd f40 92 (nI (jk + 1))))), (mm, .inr (11, [.ref mm_now, .ref mm_kept, .ref mm_isKept, .ref mm_refused, .int mm_lineFrom, .int mm_lineTo, .ref mm_stands, .ref mm_far, .ref mm_queue, .int mm_queued, .ref mm_meets, .ref mm_bytes, .int (nI bl), .int (nI z22), .int (nI z23), .int z24, .int z25, .ref mm_next, .int (nI z26)])), (mm_bytes, .inl (cy 1, 250, .inl mm_bytes_f))] := hD
          obtain ⟨f42, ef42⟩ : ∃ y : Nat → Int32, y = upd f40 92 (nI (jk + 1)) := ⟨_, rfl⟩
          rw [← ef42] at hP hD
          have hf42 : mV f42 xW xH xS xP := by rw [ef42]; exact mV.put hf40 92 (jk + 1) rfl (by omega) (by unfold mHi; (repeat' split) <;> omega)
          have hP : va_P D vwCl [(mm_next, .inl (cy 1, 122, .inl f42)), (mm, .inr (11, [.ref mm_now, .ref mm_kept, .ref mm_isKept, .ref mm_refused, .int mm_lineFrom, .int mm_lineTo, .ref mm_stands, .ref mm_far, .ref mm_queue, .int mm_queued, .ref mm_meets, .ref mm_bytes, .int (nI bl), .int (nI z22), .int (nI z23), .int z24, .int z25, .ref mm_next, .int (nI z26)])), (mm_bytes, .inl (cy 1, 250, .inl mm_bytes_f))] H := hP
          have hD : va_D A [(mm_next, .inl (cy 1, 122, .inl f42)), (mm, .inr (11, [.ref mm_now, .ref mm_kept, .ref mm_isKept, .ref mm_refused, .int mm_lineFrom, .int mm_lineTo, .ref mm_stands, .ref mm_far, .ref mm_queue, .int mm_queued, .ref mm_meets, .ref mm_bytes, .int (nI bl), .int (nI z22), .int (nI z23), .int z24, .int z25, .ref mm_next, .int (nI z26)])), (mm_bytes, .inl (cy 1, 250, .inl mm_bytes_f))] := hD
          refine lv_iconst (v := 1) hx hb dX11_readsTell_117 (by decide) ?_
          subst hQF
          have hP9 := hP.sub (ws' := [(mm, .inr (11, [.ref mm_now, .ref mm_kept, .ref mm_isKept, .ref mm_refused, .int mm_lineFrom, .int mm_lineTo, .ref mm_stands, .ref mm_far, .ref mm_queue, .int mm_queued, .ref mm_meets, .ref mm_bytes, .int (nI bl), .int (nI z22), .int (nI z23), .int z24, .int z25, .ref mm_next, .int (nI z26)])), (mm_next, .inl (cy 1, 122, .inl f42)), (mm_bytes, .inl (cy 1, 250, .inl mm_bytes_f))]) [1, 0, 2] rfl
          have hD9 := hD.sub (ws' := [(mm, .inr (11, [.ref mm_now, .ref mm_kept, .ref mm_isKept, .ref mm_refused, .int mm_lineFrom, .int mm_lineTo, .ref mm_stands, .ref mm_far, .ref mm_queue, .int mm_queued, .ref mm_meets, .ref mm_bytes, .int (nI bl), .int (nI z22), .int (nI z23), .int z24, .int z25, .ref mm_next, .int (nI z26)])), (mm_next, .inl (cy 1, 122, .inl f42)), (mm_bytes, .inl (cy 1, 250, .inl mm_bytes_f))]) [1, 0, 2] (by decide) rfl
          exact W.zret (v := 1) hx hb hr rfl (fun t ht hW => ⟨⟨1, (z22, z23, z24, z25, z26, f42), rfl, (Or.inl ⟨rfl, ⟨(show z22 + z23 ≤ bl by omega), (by assumption), (show ta ≤ z22 by omega), (show z26 ≤ 35 by omega), ⟨_, _, _, _, hf42⟩⟩⟩), by rw [ht]; exact hP9, hD9⟩, hS.F ht⟩) hS.2.2 dX11_readsTell_118
        · skip
          obtain ⟨hq43, hq44, hq45, hq46⟩ := z_b0 hwr21 c27
          refine lv_iconst (v := 0) hx hb dX11_readsTell_75 (by decide) ?_
          subst hQF
          have hP9 := hP.sub (ws' := [(mm, .inr (11, [.ref mm_now, .ref mm_kept, .ref mm_isKept, .ref mm_refused, .int mm_lineFrom, .int mm_lineTo, .ref mm_stands, .ref mm_far, .ref mm_queue, .int mm_queued, .ref mm_meets, .ref mm_bytes, .int (nI bl), .int (nI z22), .int (nI z23), .int z24, .int z25, .ref mm_next, .int (nI z26)])), (mm_next, .inl (cy 1, 122, .inl mm_next_f)), (mm_bytes, .inl (cy 1, 250, .inl mm_bytes_f))]) [1, 0, 2] rfl
          have hD9 := hD.sub (ws' := [(mm, .inr (11, [.ref mm_now, .ref mm_kept, .ref mm_isKept, .ref mm_refused, .int mm_lineFrom, .int mm_lineTo, .ref mm_stands, .ref mm_far, .ref mm_queue, .int mm_queued, .ref mm_meets, .ref mm_bytes, .int (nI bl), .int (nI z22), .int (nI z23), .int z24, .int z25, .ref mm_next, .int (nI z26)])), (mm_next, .inl (cy 1, 122, .inl mm_next_f)), (mm_bytes, .inl (cy 1, 250, .inl mm_bytes_f))]) [1, 0, 2] (by decide) rfl
          exact W.zret (v := 0) hx hb hr rfl (fun t ht hW => ⟨⟨0, (z22, z23, z24, z25, z26, mm_next_f), rfl, (Or.inr ⟨rfl, ⟨(show z22 + z23 ≤ bl by omega), (by assumption), (show ta ≤ z22 by omega), (show z26 ≤ 35 by omega), ⟨_, _, _, _, hX⟩⟩⟩), by rw [ht]; exact hP9, hD9⟩, hS.F ht⟩) hS.2.2 dX11_readsTell_76
      · skip
        refine lv_aload_n hx hb dX11_readsTell_51 rfl (lv_at hl 2 rfl) ?_
        refine va_get (D := D) (ci := 11) (v := .int z11) (C := RX11) (T := TX11) (N := 19) hx hb hts zi11_ hown hK hP 1 rfl rfl 16 (by decide) z4_ (fun _ h9 => h9) rfl dX11_readsTell_52 ?_
        refine lv_iload_n hx hb dX11_readsTell_55 rfl (lv_at hl 0 rfl) ?_
        refine lv_icmp_eq (tgt := 75) hx hb dX11_readsTell_56 (by decide) (fun c47 => ?_) (fun c47 => ?_)
        · skip
          refine lv_iconst (v := 0) hx hb dX11_readsTell_75 (by decide) ?_
          subst hQF
          have hP9 := hP.sub (ws' := [(mm, .inr (11, [.ref mm_now, .ref mm_kept, .ref mm_isKept, .ref mm_refused, .int mm_lineFrom, .int mm_lineTo, .ref mm_stands, .ref mm_far, .ref mm_queue, .int mm_queued, .ref mm_meets, .ref mm_bytes, .int (nI bl), .int (nI z8), .int (nI z9), .int z10, .int z11, .ref mm_next, .int (nI z12)])), (mm_next, .inl (cy 1, 122, .inl mm_next_f)), (mm_bytes, .inl (cy 1, 250, .inl mm_bytes_f))]) [1, 0, 2] rfl
          have hD9 := hD.sub (ws' := [(mm, .inr (11, [.ref mm_now, .ref mm_kept, .ref mm_isKept, .ref mm_refused, .int mm_lineFrom, .int mm_lineTo, .ref mm_stands, .ref mm_far, .ref mm_queue, .int mm_queued, .ref mm_meets, .ref mm_bytes, .int (nI bl), .int (nI z8), .int (nI z9), .int z10, .int z11, .ref mm_next, .int (nI z12)])), (mm_next, .inl (cy 1, 122, .inl mm_next_f)), (mm_bytes, .inl (cy 1, 250, .inl mm_bytes_f))]) [1, 0, 2] (by decide) rfl
          exact W.zret (v := 0) hx hb hr rfl (fun t ht hW => ⟨⟨0, (z8, z9, z10, z11, z12, mm_next_f), rfl, (Or.inr ⟨rfl, ⟨(show z8 + z9 ≤ bl by omega), (by assumption), (show ta ≤ z8 by omega), (show z12 ≤ 35 by omega), ⟨_, _, _, _, hX⟩⟩⟩), by rw [ht]; exact hP9, hD9⟩, hS.F ht⟩) hS.2.2 dX11_readsTell_76
        · skip
          refine lv_aload_n hx hb dX11_readsTell_59 rfl (lv_at hl 2 rfl) ?_
          refine lv_iconst (v := 0) hx hb dX11_readsTell_60 (by decide) ?_
          refine lv_aload_n hx hb dX11_readsTell_61 rfl (lv_at hl 2 rfl) ?_
          refine va_get (D := D) (ci := 11) (v := .ref mm_next) (C := RX11) (T := TX11) (N := 19) hx hb hts zi11_ hown hK hP 1 rfl rfl 17 (by decide) z0_ (fun _ h9 => h9) rfl dX11_readsTell_62 ?_
          refine lv_iconst (v := 4) hx hb dX11_readsTell_65 (by decide) ?_
          refine my_iald hx hb hK hP 0 1 rfl rfl (by rw [vp_in_iff]; decide +kernel) (k := 4) (by decide +kernel) dX11_readsTell_66 ?_
          refine W.eq (g2 := F0 m 67 ls [.int (nI xP), .int 0, .ref mm]) (congrArg (fun v9 : Int32 => F0 m 67 ls [.int v9, .int 0, .ref mm]) hX.2.2.1) ?_
          refine lv_iconst (v := 1) hx hb dX11_readsTell_67 (by decide) ?_
          refine lv_isub hx hb dX11_readsTell_68 ?_
          refine wr_i (wr := [(mm_next, .inl (cy 1, 122, .inl mm_next_f))]) (va_runV (As := [.int 0, .int ((nI xP) - 1)]) (rest := []) ⟨hx, hb, hml, hown, hts⟩ (n_X11_takes l D cy mm mm_now mm_kept mm_isKept mm_refused mm_lineFrom mm_lineTo mm_stands mm_far mm_queue mm_queued mm_meets mm_bytes bl z8 z9 z10 z11 mm_next z12 mm_bytes_f 0 ((nI xP) - 1) _ (by first | assumption | omega) (by first | assumption | omega) (by first | assumption | omega) (by first | assumption | omega) (by first | assumption | omega) (by first | decide | exact z_pmle (by omega))) (cwV 2 hts gX11_readsTell_X11_takes rfl rfl rfl (by decide +kernel) ⟨Nat.le_of_ble_eq_true rfl, Nat.le_of_ble_eq_true rfl⟩) (pV (ci := 11) (k := 0) hKA (hP.sub (ws' := [(mm, .inr (11, [.ref mm_now, .ref mm_kept, .ref mm_isKept, .ref mm_refused, .int mm_lineFrom, .int mm_lineTo, .ref mm_stands, .ref mm_far, .ref mm_queue, .int mm_queued, .ref mm_meets, .ref mm_bytes, .int (nI bl), .int (nI z8), .int (nI z9), .int z10, .int z11, .ref mm_next, .int (nI z12)])), (mm_bytes, .inl (cy 1, 250, .inl mm_bytes_f))]) [1, 2] rfl) (hD.sub (ws' := [(mm, .inr (11, [.ref mm_now, .ref mm_kept, .ref mm_isKept, .ref mm_refused, .int mm_lineFrom, .int mm_lineTo, .ref mm_stands, .ref mm_far, .ref mm_queue, .int mm_queued, .ref mm_meets, .ref mm_bytes, .int (nI bl), .int (nI z8), .int (nI z9), .int z10, .int z11, .ref mm_next, .int (nI z12)])), (mm_bytes, .inl (cy 1, 250, .inl mm_bytes_f))]) [1, 2] (by decide) rfl) rfl rfl) rfl rfl hl.1 rfl (lv_room (Nat.le_of_ble_eq_true rfl)) dX11_readsTell_69 ⟨Nat.le_of_ble_eq_true rfl, Nat.le_of_ble_eq_true rfl⟩) hP hD hS hA [1, 2] [0] rfl rfl (by decide +kernel) (by decide +kernel) (fun r48 ur48 H locs hwr48 hP hD hS => ?_)
          obtain ⟨z49, z50, z51, z52, z53⟩ := ur48
          have hP : va_P D vwCl [(mm_next, .inl (cy 1, 122, .inl mm_next_f)), (mm, .inr (11, [.ref mm_now, .ref mm_kept, .ref mm_isKept, .ref mm_refused, .int mm_lineFrom, .int mm_lineTo, .ref mm_stands, .ref mm_far, .ref mm_queue, .int mm_queued, .ref mm_meets, .ref mm_bytes, .int (nI bl), .int (nI z49), .int (nI z50), .int z51, .int z52, .ref mm_next, .int (nI z53)])), (mm_bytes, .inl (cy 1, 250, .inl mm_bytes_f))] H := hP
          have hD : va_D A [(mm_next, .inl (cy 1, 122, .inl mm_next_f)), (mm, .inr (11, [.ref mm_now, .ref mm_kept, .ref mm_isKept, .ref mm_refused, .int mm_lineFrom, .int mm_lineTo, .ref mm_stands, .ref mm_far, .ref mm_queue, .int mm_queued, .ref mm_meets, .ref mm_bytes, .int (nI bl), .int (nI z49), .int (nI z50), .int z51, .int z52, .ref mm_next, .int (nI z53)])), (mm_bytes, .inl (cy 1, 250, .inl mm_bytes_f))] := hD
          have hwr48 : (r48 = 1 ∧ (z49 + z50 ≤ bl ∧ (z51 = 0 ∨ 1 ≤ z50) ∧ z8 ≤ z49 ∧ z53 ≤ 35 ∧ 0 ≤ z53 ∧ (z53 : Int) ≤ (((nI xP) - 1) : Int32).toInt)) ∨ (r48 = 0 ∧ (z49 + z50 ≤ bl ∧ (z51 = 0 ∨ 1 ≤ z50) ∧ z8 ≤ z49 ∧ z53 ≤ 35)) := hwr48
          refine lv_if_ne (tgt := 77) hx hb dX11_readsTell_72 (by decide) (fun c54 => ?_) (fun c54 => ?_)
          · skip
            obtain ⟨hp55, hp56, hp57, hp58, hp59, hp60⟩ := z_b1 hwr48 c54
            refine lv_aload_n hx hb dX11_readsTell_77 rfl (lv_at hl 2 rfl) ?_
            refine va_get (D := D) (ci := 11) (v := .ref mm_next) (C := RX11) (T := TX11) (N := 19) hx hb hts zi11_ hown hK hP 1 rfl rfl 17 (by decide) z0_ (fun _ h9 => h9) rfl dX11_readsTell_78 ?_
            refine lv_bipush (v := 93) hx hb dX11_readsTell_81 (by decide) ?_
            refine lv_iconst (v := 2) hx hb dX11_readsTell_83 (by decide) ?_
            refine lv_iload_n hx hb dX11_readsTell_84 rfl (lv_at hl 1 rfl) ?_
            refine lv_imul hx hb dX11_readsTell_85 ?_
            refine lv_topi (fun x61 ex61 => ?_)
            obtain rfl : x61 = nI (2 * jk) := by rw [ex61]; exact pk_mul _ _
            refine lv_iadd hx hb dX11_readsTell_86 ?_
            refine lv_topi (fun x62 ex62 => ?_)
            obtain rfl : x62 = nI (93 + (2 * jk)) := by rw [ex62]; exact nI_add _ _
            refine lv_iload_n hx hb dX11_readsTell_87 rfl (lv_at hl 0 rfl) ?_
            refine my_iast hx hb hK hP hD hS 0 1 rfl rfl (by first | exact in_ge (N := 122) (by decide) (by omega) (by assumption) | exact vp_in_nI (by omega) (by omega)) (nI_clamp (by omega)) dX11_readsTell_88 (fun H locs hP hD hS => ?_)
            have hP : va_P D vwCl [(mm_next, .inl (cy 1, 122, .inl (upd mm_next_f (93 + (2 * jk)) (nI z12)))), (mm, .inr (11, [.ref mm_now, .ref mm_kept, .ref mm_isKept, .ref mm_refused, .int mm_lineFrom, .int mm_lineTo, .ref mm_stands, .ref mm_far, .ref mm_queue, .int mm_queued, .ref mm_meets, .ref mm_bytes, .int (nI bl), .int (nI z49), .int (nI z50), .int z51, .int z52, .ref mm_next, .int (nI z53)])), (mm_bytes, .inl (cy 1, 250, .inl mm_bytes_f))] H := hP
            have hD : va_D A [(mm_next, .inl (cy 1, 122, .inl (upd mm_next_f (93 + (2 * jk)) (nI z12)))), (mm, .inr (11, [.ref mm_now, .ref mm_kept, .ref mm_isKept, .ref mm_refused, .int mm_lineFrom, .int mm_lineTo, .ref mm_stands, .ref mm_far, .ref mm_queue, .int mm_queued, .ref mm_meets, .ref mm_bytes, .int (nI bl), .int (nI z49), .int (nI z50), .int z51, .int z52, .ref mm_next, .int (nI z53)])), (mm_bytes, .inl (cy 1, 250, .inl mm_bytes_f))] := hD
            obtain ⟨f63, ef63⟩ : ∃ y : Nat → Int32, y = upd mm_next_f (93 + (2 * jk)) (nI z12) := ⟨_, rfl⟩
            rw [← ef63] at hP hD
            have hf63 : mV f63 xW xH xS xP := by rw [ef63]; exact mV.put hX (93 + (2 * jk)) z12 rfl (by omega) (by unfold mHi; (repeat' split) <;> omega)
            have hP : va_P D vwCl [(mm_next, .inl (cy 1, 122, .inl f63)), (mm, .inr (11, [.ref mm_now, .ref mm_kept, .ref mm_isKept, .ref mm_refused, .int mm_lineFrom, .int mm_lineTo, .ref mm_stands, .ref mm_far, .ref mm_queue, .int mm_queued, .ref mm_meets, .ref mm_bytes, .int (nI bl), .int (nI z49), .int (nI z50), .int z51, .int z52, .ref mm_next, .int (nI z53)])), (mm_bytes, .inl (cy 1, 250, .inl mm_bytes_f))] H := hP
            have hD : va_D A [(mm_next, .inl (cy 1, 122, .inl f63)), (mm, .inr (11, [.ref mm_now, .ref mm_kept, .ref mm_isKept, .ref mm_refused, .int mm_lineFrom, .int mm_lineTo, .ref mm_stands, .ref mm_far, .ref mm_queue, .int mm_queued, .ref mm_meets, .ref mm_bytes, .int (nI bl), .int (nI z49), .int (nI z50), .int z51, .int z52, .ref mm_next, .int (nI z53)])), (mm_bytes, .inl (cy 1, 250, .inl mm_bytes_f))] := hD
            refine lv_aload_n hx hb dX11_readsTell_89 rfl (lv_at hl 2 rfl) ?_
            refine va_get (D := D) (ci := 11) (v := .ref mm_next) (C := RX11) (T := TX11) (N := 19) hx hb hts zi11_ hown hK hP 1 rfl rfl 17 (by decide) z0_ (fun _ h9 => h9) rfl dX11_readsTell_90 ?_
            refine lv_bipush (v := 93) hx hb dX11_readsTell_93 (by decide) ?_
            refine lv_iconst (v := 2) hx hb dX11_readsTell_95 (by decide) ?_
            refine lv_iload_n hx hb dX11_readsTell_96 rfl (lv_at hl 1 rfl) ?_
            refine lv_imul hx hb dX11_readsTell_97 ?_
            refine lv_topi (fun x64 ex64 => ?_)
            obtain rfl : x64 = nI (2 * jk) := by rw [ex64]; exact pk_mul _ _
            refine lv_iadd hx hb dX11_readsTell_98 ?_
            refine lv_topi (fun x65 ex65 => ?_)
            obtain rfl : x65 = nI (93 + (2 * jk)) := by rw [ex65]; exact nI_add _ _
            refine lv_iconst (v := 1) hx hb dX11_readsTell_99 (by decide) ?_
            refine lv_iadd hx hb dX11_readsTell_100 ?_
            refine lv_topi (fun x66 ex66 => ?_)
            obtain rfl : x66 = nI ((93 + (2 * jk)) + 1) := by rw [ex66]; exact nI_add _ _
            refine lv_aload_n hx hb dX11_readsTell_101 rfl (lv_at hl 2 rfl) ?_
            refine va_get (D := D) (ci := 11) (v := .int (nI z53)) (C := RX11) (T := TX11) (N := 19) hx hb hts zi11_ hown hK hP 1 rfl rfl 18 (by decide) z2_ (fun _ h9 => h9) rfl dX11_readsTell_102 ?_
            refine my_iast hx hb hK hP hD hS 0 1 rfl rfl (by first | exact in_ge (N := 122) (by decide) (by omega) (by assumption) | exact vp_in_nI (by omega) (by omega)) (nI_clamp (by omega)) dX11_readsTell_105 (fun H locs hP hD hS => ?_)
            have hP : va_P D vwCl [(mm_next, .inl (cy 1, 122, .inl (upd f63 ((93 + (2 * jk)) + 1) (nI z53)))), (mm, .inr (11, [.ref mm_now, .ref mm_kept, .ref mm_isKept, .ref mm_refused, .int mm_lineFrom, .int mm_lineTo, .ref mm_stands, .ref mm_far, .ref mm_queue, .int mm_queued, .ref mm_meets, .ref mm_bytes, .int (nI bl), .int (nI z49), .int (nI z50), .int z51, .int z52, .ref mm_next, .int (nI z53)])), (mm_bytes, .inl (cy 1, 250, .inl mm_bytes_f))] H := hP
            have hD : va_D A [(mm_next, .inl (cy 1, 122, .inl (upd f63 ((93 + (2 * jk)) + 1) (nI z53)))), (mm, .inr (11, [.ref mm_now, .ref mm_kept, .ref mm_isKept, .ref mm_refused, .int mm_lineFrom, .int mm_lineTo, .ref mm_stands, .ref mm_far, .ref mm_queue, .int mm_queued, .ref mm_meets, .ref mm_bytes, .int (nI bl), .int (nI z49), .int (nI z50), .int z51, .int z52, .ref mm_next, .int (nI z53)])), (mm_bytes, .inl (cy 1, 250, .inl mm_bytes_f))] := hD
            obtain ⟨f67, ef67⟩ : ∃ y : Nat → Int32, y = upd f63 ((93 + (2 * jk)) + 1) (nI z53) := ⟨_, rfl⟩
            rw [← ef67] at hP hD
            have hf67 : mV f67 xW xH xS xP := by rw [ef67]; exact mV.put hf63 ((93 + (2 * jk)) + 1) z53 rfl (by omega) (by unfold mHi; (repeat' split) <;> omega)
            have hP : va_P D vwCl [(mm_next, .inl (cy 1, 122, .inl f67)), (mm, .inr (11, [.ref mm_now, .ref mm_kept, .ref mm_isKept, .ref mm_refused, .int mm_lineFrom, .int mm_lineTo, .ref mm_stands, .ref mm_far, .ref mm_queue, .int mm_queued, .ref mm_meets, .ref mm_bytes, .int (nI bl), .int (nI z49), .int (nI z50), .int z51, .int z52, .ref mm_next, .int (nI z53)])), (mm_bytes, .inl (cy 1, 250, .inl mm_bytes_f))] H := hP
            have hD : va_D A [(mm_next, .inl (cy 1, 122, .inl f67)), (mm, .inr (11, [.ref mm_now, .ref mm_kept, .ref mm_isKept, .ref mm_refused, .int mm_lineFrom, .int mm_lineTo, .ref mm_stands, .ref mm_far, .ref mm_queue, .int mm_queued, .ref mm_meets, .ref mm_bytes, .int (nI bl), .int (nI z49), .int (nI z50), .int z51, .int z52, .ref mm_next, .int (nI z53)])), (mm_bytes, .inl (cy 1, 250, .inl mm_bytes_f))] := hD
            refine lv_aload_n hx hb dX11_readsTell_106 rfl (lv_at hl 2 rfl) ?_
            refine va_get (D := D) (ci := 11) (v := .ref mm_next) (C := RX11) (T := TX11) (N := 19) hx hb hts zi11_ hown hK hP 1 rfl rfl 17 (by decide) z0_ (fun _ h9 => h9) rfl dX11_readsTell_107 ?_
            refine lv_bipush (v := 92) hx hb dX11_readsTell_110 (by decide) ?_
            refine lv_dup2_11 hx hb dX11_readsTell_112 rfl rfl ?_
            refine my_iald hx hb hK hP 0 1 rfl rfl (by rw [vp_in_iff]; decide +kernel) (k := 92) (by decide +kernel) dX11_readsTell_113 ?_
            refine W.eq (g2 := F0 m 114 ls [.int (nI jk), .int 92, .ref mm_next]) (congrArg (fun v9 : Int32 => F0 m 114 ls [.int v9, .int 92, .ref mm_next]) (show _ = nI jk by rw [ef67, ur_ne _ _ (by omega), ef63, ur_ne _ _ (by omega)]; exact ejk)) ?_
            refine lv_iconst (v := 1) hx hb dX11_readsTell_114 (by decide) ?_
            refine lv_iadd hx hb dX11_readsTell_115 ?_
            refine lv_topi (fun x68 ex68 => ?_)
            obtain rfl : x68 = nI (jk + 1) := by rw [ex68]; exact nI_add _ _
            refine my_iast hx hb hK hP hD hS 0 1 rfl rfl (by rw [vp_in_iff]; decide +kernel) (k := 92) (by decide +kernel) dX11_readsTell_116 (fun H locs hP hD hS => ?_)
            have hP : va_P D vwCl [(mm_next, .inl (cy 1, 122, .inl (upd f67 92 (nI (jk + 1))))), (mm, .inr (11, [.ref mm_now, .ref mm_kept, .ref mm_isKept, .ref mm_refused, .int mm_lineFrom, .int mm_lineTo, .ref mm_stands, .ref mm_far, .ref mm_queue, .int mm_queued, .ref mm_meets, .ref mm_bytes, .int (nI bl), .int (nI z49), .int (nI z50), .int z51, .int z52, .ref mm_next, .int (nI z53)])), (mm_bytes, .inl (cy 1, 250, .inl mm_bytes_f))] H := hP
            have hD : va_D A [(mm_next, .inl (cy 1, 122, .inl (upd f67 92 (nI (jk + 1))))), (mm, .inr (11, [.ref mm_now, .ref mm_kept, .ref mm_isKept, .ref mm_refused, .int mm_lineFrom, .int mm_lineTo, .ref mm_stands, .ref mm_far, .ref mm_queue, .int mm_queued, .ref mm_meets, .ref mm_bytes, .int (nI bl), .int (nI z49), .int (nI z50), .int z51, .int z52, .ref mm_next, .int (nI z53)])), (mm_bytes, .inl (cy 1, 250, .inl mm_bytes_f))] := hD
            obtain ⟨f69, ef69⟩ : ∃ y : Nat → Int32, y = upd f67 92 (nI (jk + 1)) := ⟨_, rfl⟩
            rw [← ef69] at hP hD
            have hf69 : mV f69 xW xH xS xP := by rw [ef69]; exact mV.put hf67 92 (jk + 1) rfl (by omega) (by unfold mHi; (repeat' split) <;> omega)
            have hP : va_P D vwCl [(mm_next, .inl (cy 1, 122, .inl f69)), (mm, .inr (11, [.ref mm_now, .ref mm_kept, .ref mm_isKept, .ref mm_refused, .int mm_lineFrom, .int mm_lineTo, .ref mm_stands, .ref mm_far, .ref mm_queue, .int mm_queued, .ref mm_meets, .ref mm_bytes, .int (nI bl), .int (nI z49), .int (nI z50), .int z51, .int z52, .ref mm_next, .int (nI z53)])), (mm_bytes, .inl (cy 1, 250, .inl mm_bytes_f))] H := hP
            have hD : va_D A [(mm_next, .inl (cy 1, 122, .inl f69)), (mm, .inr (11, [.ref mm_now, .ref mm_kept, .ref mm_isKept, .ref mm_refused, .int mm_lineFrom, .int mm_lineTo, .ref mm_stands, .ref mm_far, .ref mm_queue, .int mm_queued, .ref mm_meets, .ref mm_bytes, .int (nI bl), .int (nI z49), .int (nI z50), .int z51, .int z52, .ref mm_next, .int (nI z53)])), (mm_bytes, .inl (cy 1, 250, .inl mm_bytes_f))] := hD
            refine lv_iconst (v := 1) hx hb dX11_readsTell_117 (by decide) ?_
            subst hQF
            have hP9 := hP.sub (ws' := [(mm, .inr (11, [.ref mm_now, .ref mm_kept, .ref mm_isKept, .ref mm_refused, .int mm_lineFrom, .int mm_lineTo, .ref mm_stands, .ref mm_far, .ref mm_queue, .int mm_queued, .ref mm_meets, .ref mm_bytes, .int (nI bl), .int (nI z49), .int (nI z50), .int z51, .int z52, .ref mm_next, .int (nI z53)])), (mm_next, .inl (cy 1, 122, .inl f69)), (mm_bytes, .inl (cy 1, 250, .inl mm_bytes_f))]) [1, 0, 2] rfl
            have hD9 := hD.sub (ws' := [(mm, .inr (11, [.ref mm_now, .ref mm_kept, .ref mm_isKept, .ref mm_refused, .int mm_lineFrom, .int mm_lineTo, .ref mm_stands, .ref mm_far, .ref mm_queue, .int mm_queued, .ref mm_meets, .ref mm_bytes, .int (nI bl), .int (nI z49), .int (nI z50), .int z51, .int z52, .ref mm_next, .int (nI z53)])), (mm_next, .inl (cy 1, 122, .inl f69)), (mm_bytes, .inl (cy 1, 250, .inl mm_bytes_f))]) [1, 0, 2] (by decide) rfl
            exact W.zret (v := 1) hx hb hr rfl (fun t ht hW => ⟨⟨1, (z49, z50, z51, z52, z53, f69), rfl, (Or.inl ⟨rfl, ⟨(show z49 + z50 ≤ bl by omega), (by assumption), (show ta ≤ z49 by omega), (show z53 ≤ 35 by omega), ⟨_, _, _, _, hf69⟩⟩⟩), by rw [ht]; exact hP9, hD9⟩, hS.F ht⟩) hS.2.2 dX11_readsTell_118
          · skip
            obtain ⟨hq70, hq71, hq72, hq73⟩ := z_b0 hwr48 c54
            refine lv_iconst (v := 0) hx hb dX11_readsTell_75 (by decide) ?_
            subst hQF
            have hP9 := hP.sub (ws' := [(mm, .inr (11, [.ref mm_now, .ref mm_kept, .ref mm_isKept, .ref mm_refused, .int mm_lineFrom, .int mm_lineTo, .ref mm_stands, .ref mm_far, .ref mm_queue, .int mm_queued, .ref mm_meets, .ref mm_bytes, .int (nI bl), .int (nI z49), .int (nI z50), .int z51, .int z52, .ref mm_next, .int (nI z53)])), (mm_next, .inl (cy 1, 122, .inl mm_next_f)), (mm_bytes, .inl (cy 1, 250, .inl mm_bytes_f))]) [1, 0, 2] rfl
            have hD9 := hD.sub (ws' := [(mm, .inr (11, [.ref mm_now, .ref mm_kept, .ref mm_isKept, .ref mm_refused, .int mm_lineFrom, .int mm_lineTo, .ref mm_stands, .ref mm_far, .ref mm_queue, .int mm_queued, .ref mm_meets, .ref mm_bytes, .int (nI bl), .int (nI z49), .int (nI z50), .int z51, .int z52, .ref mm_next, .int (nI z53)])), (mm_next, .inl (cy 1, 122, .inl mm_next_f)), (mm_bytes, .inl (cy 1, 250, .inl mm_bytes_f))]) [1, 0, 2] (by decide) rfl
            exact W.zret (v := 0) hx hb hr rfl (fun t ht hW => ⟨⟨0, (z49, z50, z51, z52, z53, mm_next_f), rfl, (Or.inr ⟨rfl, ⟨(show z49 + z50 ≤ bl by omega), (by assumption), (show ta ≤ z49 by omega), (show z53 ≤ 35 by omega), ⟨_, _, _, _, hX⟩⟩⟩), by rw [ht]; exact hP9, hD9⟩, hS.F ht⟩) hS.2.2 dX11_readsTell_76
    · skip
      obtain ⟨hq74, hq75, hq76, hq77⟩ := z_b0 hwr7 c13
      refine lv_iconst (v := 0) hx hb dX11_readsTell_36 (by decide) ?_
      subst hQF
      have hP9 := hP.sub (ws' := [(mm, .inr (11, [.ref mm_now, .ref mm_kept, .ref mm_isKept, .ref mm_refused, .int mm_lineFrom, .int mm_lineTo, .ref mm_stands, .ref mm_far, .ref mm_queue, .int mm_queued, .ref mm_meets, .ref mm_bytes, .int (nI bl), .int (nI z8), .int (nI z9), .int z10, .int z11, .ref mm_next, .int (nI z12)])), (mm_next, .inl (cy 1, 122, .inl mm_next_f)), (mm_bytes, .inl (cy 1, 250, .inl mm_bytes_f))]) [1, 0, 2] rfl
      have hD9 := hD.sub (ws' := [(mm, .inr (11, [.ref mm_now, .ref mm_kept, .ref mm_isKept, .ref mm_refused, .int mm_lineFrom, .int mm_lineTo, .ref mm_stands, .ref mm_far, .ref mm_queue, .int mm_queued, .ref mm_meets, .ref mm_bytes, .int (nI bl), .int (nI z8), .int (nI z9), .int z10, .int z11, .ref mm_next, .int (nI z12)])), (mm_next, .inl (cy 1, 122, .inl mm_next_f)), (mm_bytes, .inl (cy 1, 250, .inl mm_bytes_f))]) [1, 0, 2] (by decide) rfl
      exact W.zret (v := 0) hx hb hr rfl (fun t ht hW => ⟨⟨0, (z8, z9, z10, z11, z12, mm_next_f), rfl, (Or.inr ⟨rfl, ⟨(show z8 + z9 ≤ bl by omega), (by assumption), (show ta ≤ z8 by omega), (show z12 ≤ 35 by omega), ⟨_, _, _, _, hX⟩⟩⟩), by rw [ht]; exact hP9, hD9⟩, hS.F ht⟩) hS.2.2 dX11_readsTell_37
  · skip
    refine lv_iconst (v := 0) hx hb dX11_readsTell_14 (by decide) ?_
    subst hQF
    have hP9 := hP
    have hD9 := hD
    exact W.zret (v := 0) hx hb hr rfl (fun t ht hW => ⟨⟨0, (ta, tl, mm_token, mm_value, tk, mm_next_f), rfl, (Or.inr ⟨rfl, ⟨(show ta + tl ≤ bl by omega), (by assumption), (show ta ≤ ta by omega), (show tk ≤ 35 by omega), ⟨_, _, _, _, hX⟩⟩⟩), by rw [ht]; exact hP9, hD9⟩, hS.F ht⟩) hS.2.2 dX11_readsTell_15
