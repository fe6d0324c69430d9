theorem dX10_wipe_0 : decode cX10_wipe 0 = .ok (.aload_n 0, 1) := by decide +kernel
theorem dX10_wipe_1 : decode cX10_wipe 1 = .ok (.getfield 26, 3) := by decide +kernel
theorem dX10_wipe_4 : decode cX10_wipe 4 = .ok (.getfield 127, 3) := by decide +kernel
theorem dX10_wipe_7 : decode cX10_wipe 7 = .ok (.istore_n 1, 1) := by decide +kernel
theorem dX10_wipe_8 : decode cX10_wipe 8 = .ok (.aload_n 0, 1) := by decide +kernel
theorem dX10_wipe_9 : decode cX10_wipe 9 = .ok (.getfield 26, 3) := by decide +kernel
theorem dX10_wipe_12 : decode cX10_wipe 12 = .ok (.iconst 0, 1) := by decide +kernel
theorem dX10_wipe_13 : decode cX10_wipe 13 = .ok (.putfield 127, 3) := by decide +kernel
theorem dX10_wipe_16 : decode cX10_wipe 16 = .ok (.iload_n 1, 1) := by decide +kernel
theorem dX10_wipe_17 : decode cX10_wipe 17 = .ok (.ireturn, 1) := by decide +kernel
theorem dX10_read_0 : decode cX10_read 0 = .ok (.aload_n 0, 1) := by decide +kernel
theorem dX10_read_1 : decode cX10_read 1 = .ok (.getfield 26, 3) := by decide +kernel
theorem dX10_read_4 : decode cX10_read 4 = .ok (.aload_n 0, 1) := by decide +kernel
theorem dX10_read_5 : decode cX10_read 5 = .ok (.getfield 16, 3) := by decide +kernel
set_option maxRecDepth 20000 in
theorem ggX10_read_X8_layInto : GoodIn wsX10_read wsX8_layInto := goodIn_r _ [9, 10, 11, 12, 13, 14, 15, 16, 8, 17, 18, 19, 20, 21, 22, 23, 24, 25, 26, 27, 28, 29, 30, 31, 32, 33, 34, 35, 36, 37, 38, 39, 40, 41, 42, 43, 44, 45, 46, 47, 48, 49, 50, 51, 52, 53, 54, 55, 56, 57, 58, 59, 60, 61, 62, 63, 64, 65, 66, 67, 68, 69, 70, 71, 72, 73, 74, 75, 76, 77, 78, 79, 80, 81, 82, 83, 84, 85, 86, 87, 88, 89, 90, 91, 92, 93, 94, 95, 96, 97, 98, 99, 100, 101, 102, 103, 104, 105, 106, 107, 108, 109, 110, 111, 112, 113, 114, 115, 116, 117, 118, 119, 120, 121, 122, 123, 124, 125, 126, 127, 128, 129, 130, 131, 132, 133, 134, 135, 136, 137, 138, 139, 140, 141, 142, 143, 144, 145, 146, 147, 148, 149, 150, 151, 152, 153, 154, 155, 156, 157, 158, 159, 160, 161, 162, 163, 164, 165, 166, 167, 168, 169, 170, 171, 172, 173, 174, 175, 176, 177, 178, 179, 180, 181, 182, 183, 184, 185, 186, 187, 188, 189, 190, 191, 192, 193, 194, 195, 196, 197, 233, 234, 235, 236, 237, 238, 239, 217, 218, 219, 220, 221, 222, 223, 224, 225, 226, 227, 228, 229, 230, 231, 232] (by decide +kernel) (by decide +kernel)
set_option maxRecDepth 20000 in
theorem gX10_read_X8_layInto : GoodIn wsX10_read (wsV RX10 130 RX8 yX8_layInto wsX8_layInto) := goodIn_app (goodIn_of _ (by decide +kernel)) ggX10_read_X8_layInto
theorem dX10_read_8 : decode cX10_read 8 = .ok (.invokevirtual 130, 3) := by decide +kernel
theorem dX10_read_11 : decode cX10_read 11 = .ok (.istore_n 1, 1) := by decide +kernel
theorem dX10_read_12 : decode cX10_read 12 = .ok (.iload_n 1, 1) := by decide +kernel
theorem dX10_read_13 : decode cX10_read 13 = .ok (.iconst (-1), 1) := by decide +kernel
theorem dX10_read_14 : decode cX10_read 14 = .ok (.if_icmp .eq 8, 3) := by decide +kernel
theorem dX10_read_17 : decode cX10_read 17 = .ok (.bipush (-10), 2) := by decide +kernel
theorem dX10_read_19 : decode cX10_read 19 = .ok (.iload_n 1, 1) := by decide +kernel
theorem dX10_read_20 : decode cX10_read 20 = .ok (.isub, 1) := by decide +kernel
theorem dX10_read_21 : decode cX10_read 21 = .ok (.ireturn, 1) := by decide +kernel
theorem dX10_clear_0 : decode cX10_clear 0 = .ok (.aload_n 0, 1) := by decide +kernel
theorem dX10_clear_1 : decode cX10_clear 1 = .ok (.getfield 10, 3) := by decide +kernel
theorem dX10_clear_4 : decode cX10_clear 4 = .ok (.iload_n 1, 1) := by decide +kernel
set_option maxRecDepth 20000 in
theorem ggX10_clear_X3_isSquare : GoodIn wsX10_clear wsX3_isSquare := goodIn_r _ [6, 7, 8, 9, 5, 10, 11, 12, 62, 63, 64, 65, 66, 67, 68, 69, 70, 71, 72, 73, 74, 75, 76, 77] (by decide +kernel) (by decide +kernel)
set_option maxRecDepth 20000 in
theorem gX10_clear_X3_isSquare : GoodIn wsX10_clear (wsV RX10 64 RX3 yX3_isSquare wsX3_isSquare) := goodIn_app (goodIn_of _ (by decide +kernel)) ggX10_clear_X3_isSquare
theorem dX10_clear_5 : decode cX10_clear 5 = .ok (.invokevirtual 64, 3) := by decide +kernel
theorem dX10_clear_8 : decode cX10_clear 8 = .ok (.ifCond .eq 14, 3) := by decide +kernel
theorem dX10_clear_11 : decode cX10_clear 11 = .ok (.aload_n 0, 1) := by decide +kernel
theorem dX10_clear_12 : decode cX10_clear 12 = .ok (.getfield 10, 3) := by decide +kernel
theorem dX10_clear_15 : decode cX10_clear 15 = .ok (.iload_n 2, 1) := by decide +kernel
theorem dX10_clear_16 : decode cX10_clear 16 = .ok (.invokevirtual 64, 3) := by decide +kernel
theorem dX10_clear_19 : decode cX10_clear 19 = .ok (.ifCond .ne 10, 3) := by decide +kernel
theorem dX10_clear_29 : decode cX10_clear 29 = .ok (.aload_n 0, 1) := by decide +kernel
theorem dX10_clear_30 : decode cX10_clear 30 = .ok (.getfield 10, 3) := by decide +kernel
theorem dX10_clear_33 : decode cX10_clear 33 = .ok (.iload_n 1, 1) := by decide +kernel
theorem dX10_clear_34 : decode cX10_clear 34 = .ok (.iload_n 2, 1) := by decide +kernel
set_option maxRecDepth 20000 in
theorem ggX10_clear_X3_isClear : GoodIn wsX10_clear wsX3_isClear := goodIn_r _ [22, 23, 24, 25, 26, 27, 28, 29, 11, 30, 31, 32, 5, 33, 34, 35, 36, 37, 38, 39, 40, 41, 42, 43, 44, 16, 45, 46, 47, 48, 49, 50, 51, 52, 62, 63, 64, 65, 66, 67, 68, 69, 70, 71, 72, 73, 74, 75, 76, 77] (by decide +kernel) (by decide +kernel)
set_option maxRecDepth 20000 in
theorem gX10_clear_X3_isClear : GoodIn wsX10_clear (wsV RX10 140 RX3 yX3_isClear wsX3_isClear) := goodIn_app (goodIn_of _ (by decide +kernel)) ggX10_clear_X3_isClear
theorem dX10_clear_35 : decode cX10_clear 35 = .ok (.invokevirtual 140, 3) := by decide +kernel
theorem dX10_clear_38 : decode cX10_clear 38 = .ok (.ifCond .eq 7, 3) := by decide +kernel
theorem dX10_clear_41 : decode cX10_clear 41 = .ok (.iconst 1, 1) := by decide +kernel
theorem dX10_clear_42 : decode cX10_clear 42 = .ok (.goto 4, 3) := by decide +kernel
theorem dX10_clear_46 : decode cX10_clear 46 = .ok (.ireturn, 1) := by decide +kernel
theorem dX10_clear_22 : decode cX10_clear 22 = .ok (.aload_n 0, 1) := by decide +kernel
theorem dX10_clear_23 : decode cX10_clear 23 = .ok (.bipush (-2), 2) := by decide +kernel
set_option maxRecDepth 20000 in
theorem ggX10_clear_X10_refuseBad : GoodIn wsX10_clear wsX10_refuseBad := goodIn_r _ [17, 18, 53, 54, 55, 56, 57, 58, 59, 60, 61] (by decide +kernel) (by decide +kernel)
set_option maxRecDepth 20000 in
theorem gX10_clear_X10_refuseBad : GoodIn wsX10_clear (wsV RX10 52 RX10 yX10_refuseBad wsX10_refuseBad) := goodIn_app (goodIn_of _ (by decide +kernel)) ggX10_clear_X10_refuseBad
theorem dX10_clear_25 : decode cX10_clear 25 = .ok (.invokevirtual 52, 3) := by decide +kernel
theorem dX10_clear_28 : decode cX10_clear 28 = .ok (.ireturn, 1) := by decide +kernel
theorem dX10_knows_0 : decode cX10_knows 0 = .ok (.aload_n 0, 1) := by decide +kernel
theorem dX10_knows_1 : decode cX10_knows 1 = .ok (.iload_n 1, 1) := by decide +kernel
theorem dX10_knows_2 : decode cX10_knows 2 = .ok (.iload_n 2, 1) := by decide +kernel
set_option maxRecDepth 20000 in
theorem ggX10_knows_X10_isPairOfTwo : GoodIn wsX10_knows wsX10_isPairOfTwo := goodIn_r _ [6, 7, 8, 9, 10, 11, 12, 13, 220, 221, 222, 223, 224, 225, 226, 227, 228, 229, 230, 231, 232, 233, 234, 235, 236, 237, 238, 239, 240, 241, 242, 243, 244] (by decide +kernel) (by decide +kernel)
set_option maxRecDepth 20000 in
theorem gX10_knows_X10_isPairOfTwo : GoodIn wsX10_knows (wsV RX10 107 RX10 yX10_isPairOfTwo wsX10_isPairOfTwo) := goodIn_app (goodIn_of _ (by decide +kernel)) ggX10_knows_X10_isPairOfTwo
theorem dX10_knows_3 : decode cX10_knows 3 = .ok (.invokevirtual 107, 3) := by decide +kernel
theorem dX10_knows_6 : decode cX10_knows 6 = .ok (.ifCond .eq 12, 3) := by decide +kernel
theorem dX10_knows_18 : decode cX10_knows 18 = .ok (.aload_n 0, 1) := by decide +kernel
theorem dX10_knows_19 : decode cX10_knows 19 = .ok (.bipush (-2), 2) := by decide +kernel
set_option maxRecDepth 20000 in
theorem ggX10_knows_X10_refuseBad : GoodIn wsX10_knows wsX10_refuseBad := goodIn_r _ [20, 21, 220, 221, 222, 223, 224, 225, 226, 227, 228] (by decide +kernel) (by decide +kernel)
set_option maxRecDepth 20000 in
theorem gX10_knows_X10_refuseBad : GoodIn wsX10_knows (wsV RX10 52 RX10 yX10_refuseBad wsX10_refuseBad) := goodIn_app (goodIn_of _ (by decide +kernel)) ggX10_knows_X10_refuseBad
theorem dX10_knows_21 : decode cX10_knows 21 = .ok (.invokevirtual 52, 3) := by decide +kernel
theorem dX10_knows_24 : decode cX10_knows 24 = .ok (.ireturn, 1) := by decide +kernel
theorem dX10_where_0 : decode cX10_where 0 = .ok (.aload_n 0, 1) := by decide +kernel
theorem dX10_where_1 : decode cX10_where 1 = .ok (.getfield 10, 3) := by decide +kernel
theorem dX10_where_4 : decode cX10_where 4 = .ok (.iload_n 1, 1) := by decide +kernel
set_option maxRecDepth 20000 in
theorem ggX10_where_X3_isPerson : GoodIn wsX10_where wsX3_isPerson := goodIn_r _ [6, 7, 29, 30, 31, 32, 33, 34, 35, 36, 37, 38, 39, 40, 41, 42, 43, 44] (by decide +kernel) (by decide +kernel)
set_option maxRecDepth 20000 in
theorem gX10_where_X3_isPerson : GoodIn wsX10_where (wsV RX10 98 RX3 yX3_isPerson wsX3_isPerson) := goodIn_app (goodIn_of _ (by decide +kernel)) ggX10_where_X3_isPerson
theorem dX10_where_5 : decode cX10_where 5 = .ok (.invokevirtual 98, 3) := by decide +kernel
theorem dX10_where_8 : decode cX10_where 8 = .ok (.ifCond .eq 14, 3) := by decide +kernel
theorem dX10_where_22 : decode cX10_where 22 = .ok (.aload_n 0, 1) := by decide +kernel
theorem dX10_where_23 : decode cX10_where 23 = .ok (.bipush (-2), 2) := by decide +kernel
set_option maxRecDepth 20000 in
theorem ggX10_where_X10_refuseBad : GoodIn wsX10_where wsX10_refuseBad := goodIn_r _ [18, 19, 20, 21, 22, 23, 24, 25, 26, 27, 28] (by decide +kernel) (by decide +kernel)
set_option maxRecDepth 20000 in
theorem gX10_where_X10_refuseBad : GoodIn wsX10_where (wsV RX10 52 RX10 yX10_refuseBad wsX10_refuseBad) := goodIn_app (goodIn_of _ (by decide +kernel)) ggX10_where_X10_refuseBad
theorem dX10_where_25 : decode cX10_where 25 = .ok (.invokevirtual 52, 3) := by decide +kernel
theorem dX10_where_28 : decode cX10_where 28 = .ok (.ireturn, 1) := by decide +kernel
theorem dX10_may_0 : decode cX10_may 0 = .ok (.aload_n 0, 1) := by decide +kernel
theorem dX10_may_1 : decode cX10_may 1 = .ok (.getfield 35, 3) := by decide +kernel
set_option maxRecDepth 20000 in
theorem ggX10_may_X4_look : GoodIn wsX10_may wsX4_look := goodIn_r _ [6, 7, 8, 9, 10, 11, 12, 13, 14, 15, 16, 17, 18, 19, 20, 21, 22, 23, 24, 25, 26, 27, 28, 29, 30, 31, 32, 33, 34, 35, 36, 37, 38, 39, 40, 41, 42, 43, 44, 45, 46, 47, 48, 49, 50, 51, 52, 5, 53, 54, 55, 56, 57, 58, 59, 60, 61, 62, 63, 64, 65, 66, 67, 68, 69, 70, 71, 72, 73, 74, 75, 76, 77, 78, 79, 80, 81, 82, 83, 84, 85, 86, 87, 88, 89, 90, 91, 92, 93, 94, 95, 96, 97, 98, 99, 100, 101, 102, 103, 104, 105, 106, 107, 108, 109, 110, 111, 112, 113, 114, 115, 116, 117, 118, 119, 120, 121, 122, 123, 124, 125, 126, 127, 128, 129, 130, 131, 132, 133, 134, 135, 136, 137, 138, 139, 140, 141, 142, 143, 144, 145, 146, 147, 148, 149, 150, 151, 152, 153, 154, 155, 156, 157, 158, 159, 160, 161, 162, 163, 164, 165, 166, 167, 168, 169, 170, 171, 172, 173, 174, 175, 176, 177, 178, 179, 180, 181, 182, 183, 184, 185, 186, 187, 188, 189, 190, 191, 192, 193, 194, 220, 221, 222, 223, 224, 225, 226, 227, 228, 229, 230, 231, 232, 233, 234, 235, 236, 237, 238, 239, 240, 241, 242, 243, 244] (by decide +kernel) (by decide +kernel)
set_option maxRecDepth 20000 in
theorem gX10_may_X4_look : GoodIn wsX10_may (wsV RX10 143 RX4 yX4_look wsX4_look) := goodIn_app (goodIn_of _ (by decide +kernel)) ggX10_may_X4_look
theorem dX10_may_4 : decode cX10_may 4 = .ok (.invokevirtual 143, 3) := by decide +kernel
theorem dX10_may_7 : decode cX10_may 7 = .ok (.aload_n 0, 1) := by decide +kernel
theorem dX10_may_8 : decode cX10_may 8 = .ok (.getfield 35, 3) := by decide +kernel
set_option maxRecDepth 20000 in
theorem ggX10_may_X4_mayMask : GoodIn wsX10_may wsX4_mayMask := goodIn_r _ [198, 7, 10, 199, 200, 201, 5, 202, 9, 203, 204, 205, 206, 11, 207, 208, 209, 210, 12, 220, 221, 222, 223, 224, 225, 226, 227, 228, 229, 230, 231, 232, 233, 234, 235, 236, 237, 238, 239, 240, 241, 242, 243, 244] (by decide +kernel) (by decide +kernel)
set_option maxRecDepth 20000 in
theorem gX10_may_X4_mayMask : GoodIn wsX10_may (wsV RX10 155 RX4 yX4_mayMask wsX4_mayMask) := goodIn_app (goodIn_of _ (by decide +kernel)) ggX10_may_X4_mayMask
theorem dX10_may_11 : decode cX10_may 11 = .ok (.invokevirtual 155, 3) := by decide +kernel
theorem dX10_may_14 : decode cX10_may 14 = .ok (.ireturn, 1) := by decide +kernel
theorem dX10_judge_0 : decode cX10_judge 0 = .ok (.aload_n 0, 1) := by decide +kernel
theorem dX10_judge_1 : decode cX10_judge 1 = .ok (.iload_n 1, 1) := by decide +kernel
set_option maxRecDepth 20000 in
theorem ggX10_judge_X10_isGroup : GoodIn wsX10_judge wsX10_isGroup := goodIn_r _ [6, 7, 8, 9, 10, 11, 12, 13, 14, 15, 5, 16, 226, 227, 228, 229, 230, 231, 232, 233, 234, 235, 236, 237, 238, 239, 240, 241, 242, 243, 244, 245, 246, 247, 248, 249, 250] (by decide +kernel) (by decide +kernel)
set_option maxRecDepth 20000 in
theorem gX10_judge_X10_isGroup : GoodIn wsX10_judge (wsV RX10 158 RX10 yX10_isGroup wsX10_isGroup) := goodIn_app (goodIn_of _ (by decide +kernel)) ggX10_judge_X10_isGroup
theorem dX10_judge_2 : decode cX10_judge 2 = .ok (.invokevirtual 158, 3) := by decide +kernel
theorem dX10_judge_5 : decode cX10_judge 5 = .ok (.ifCond .ne 10, 3) := by decide +kernel
theorem dX10_judge_15 : decode cX10_judge 15 = .ok (.aload_n 0, 1) := by decide +kernel
theorem dX10_judge_16 : decode cX10_judge 16 = .ok (.getfield 35, 3) := by decide +kernel
set_option maxRecDepth 20000 in
theorem ggX10_judge_X4_look : GoodIn wsX10_judge wsX4_look := goodIn_r _ [26, 27, 28, 29, 30, 31, 32, 33, 34, 35, 11, 36, 37, 38, 39, 40, 41, 42, 43, 44, 45, 46, 47, 48, 49, 50, 5, 51, 52, 53, 54, 55, 56, 57, 58, 59, 60, 61, 62, 63, 64, 65, 66, 67, 68, 69, 70, 25, 71, 72, 73, 74, 75, 76, 77, 78, 79, 80, 81, 82, 13, 83, 84, 85, 86, 87, 88, 89, 90, 91, 92, 93, 94, 95, 96, 97, 98, 99, 100, 101, 102, 103, 104, 105, 106, 107, 108, 109, 110, 111, 112, 113, 114, 115, 116, 117, 118, 119, 120, 121, 122, 123, 124, 125, 126, 127, 128, 129, 130, 131, 132, 133, 134, 135, 136, 137, 138, 139, 140, 141, 142, 143, 144, 145, 146, 147, 148, 149, 150, 151, 152, 153, 154, 155, 156, 157, 158, 159, 160, 161, 162, 163, 164, 165, 166, 167, 168, 169, 170, 171, 172, 173, 174, 175, 176, 177, 178, 179, 180, 181, 182, 183, 184, 185, 186, 187, 188, 189, 190, 191, 192, 193, 194, 195, 196, 197, 198, 199, 200, 201, 202, 203, 204, 205, 206, 207, 208, 209, 210, 211, 251, 252, 253, 254, 255, 256, 257, 258, 259, 235, 236, 237, 238, 239, 240, 241, 242, 243, 244, 245, 246, 247, 248, 249, 250] (by decide +kernel) (by decide +kernel)
set_option maxRecDepth 20000 in
theorem gX10_judge_X4_look : GoodIn wsX10_judge (wsV RX10 143 RX4 yX4_look wsX4_look) := goodIn_app (goodIn_of _ (by decide +kernel)) ggX10_judge_X4_look
theorem dX10_judge_19 : decode cX10_judge 19 = .ok (.invokevirtual 143, 3) := by decide +kernel
theorem dX10_judge_22 : decode cX10_judge 22 = .ok (.aload_n 0, 1) := by decide +kernel
theorem dX10_judge_23 : decode cX10_judge 23 = .ok (.getfield 35, 3) := by decide +kernel
theorem dX10_judge_26 : decode cX10_judge 26 = .ok (.iload_n 1, 1) := by decide +kernel
set_option maxRecDepth 20000 in
theorem ggX10_judge_X4_firstBreach : GoodIn wsX10_judge wsX4_firstBreach := goodIn_r _ [215, 27, 30, 29, 216, 5, 217, 218, 219, 220, 25, 221, 31, 222, 223, 224, 225, 32, 251, 252, 253, 254, 255, 256, 257, 258, 259, 235, 236, 237, 238, 239, 240, 241, 242, 243, 244, 245, 246, 247, 248, 249, 250] (by decide +kernel) (by decide +kernel)
set_option maxRecDepth 20000 in
theorem gX10_judge_X4_firstBreach : GoodIn wsX10_judge (wsV RX10 161 RX4 yX4_firstBreach wsX4_firstBreach) := goodIn_app (goodIn_of _ (by decide +kernel)) ggX10_judge_X4_firstBreach
theorem dX10_judge_27 : decode cX10_judge 27 = .ok (.invokevirtual 161, 3) := by decide +kernel
theorem dX10_judge_30 : decode cX10_judge 30 = .ok (.ireturn, 1) := by decide +kernel
theorem dX10_judge_8 : decode cX10_judge 8 = .ok (.aload_n 0, 1) := by decide +kernel
theorem dX10_judge_9 : decode cX10_judge 9 = .ok (.bipush (-2), 2) := by decide +kernel
set_option maxRecDepth 20000 in
theorem ggX10_judge_X10_refuseBad : GoodIn wsX10_judge wsX10_refuseBad := goodIn_r _ [20, 21, 226, 227, 228, 229, 230, 231, 232, 233, 234] (by decide +kernel) (by decide +kernel)
set_option maxRecDepth 20000 in
theorem gX10_judge_X10_refuseBad : GoodIn wsX10_judge (wsV RX10 52 RX10 yX10_refuseBad wsX10_refuseBad) := goodIn_app (goodIn_of _ (by decide +kernel)) ggX10_judge_X10_refuseBad
theorem dX10_judge_11 : decode cX10_judge 11 = .ok (.invokevirtual 52, 3) := by decide +kernel
theorem dX10_judge_14 : decode cX10_judge 14 = .ok (.ireturn, 1) := by decide +kernel
theorem dX10_told_0 : decode cX10_told 0 = .ok (.aload_n 0, 1) := by decide +kernel
theorem dX10_told_1 : decode cX10_told 1 = .ok (.iload_n 1, 1) := by decide +kernel
set_option maxRecDepth 20000 in
theorem ggX10_told_X10_isGroup : GoodIn wsX10_told wsX10_isGroup := goodIn_r _ [6, 7, 8, 9, 10, 11, 12, 13, 14, 15, 5, 16, 233, 234, 235, 236, 237, 238, 239, 240, 241, 242, 243, 244, 245, 246, 247, 248, 249, 250, 251, 252, 253, 254, 255, 256, 257] (by decide +kernel) (by decide +kernel)
set_option maxRecDepth 20000 in
theorem gX10_told_X10_isGroup : GoodIn wsX10_told (wsV RX10 158 RX10 yX10_isGroup wsX10_isGroup) := goodIn_app (goodIn_of _ (by decide +kernel)) ggX10_told_X10_isGroup
theorem dX10_told_2 : decode cX10_told 2 = .ok (.invokevirtual 158, 3) := by decide +kernel
theorem dX10_told_5 : decode cX10_told 5 = .ok (.ifCond .ne 10, 3) := by decide +kernel
theorem dX10_told_15 : decode cX10_told 15 = .ok (.aload_n 0, 1) := by decide +kernel
theorem dX10_told_16 : decode cX10_told 16 = .ok (.getfield 35, 3) := by decide +kernel
set_option maxRecDepth 20000 in
theorem ggX10_told_X4_look : GoodIn wsX10_told wsX4_look := goodIn_r _ [26, 27, 28, 29, 30, 31, 32, 33, 34, 35, 11, 36, 37, 38, 39, 40, 41, 42, 43, 44, 45, 46, 47, 48, 49, 50, 5, 51, 52, 53, 54, 55, 56, 57, 58, 59, 60, 61, 62, 63, 64, 65, 66, 67, 68, 69, 70, 25, 71, 72, 73, 74, 75, 76, 77, 78, 79, 80, 81, 82, 13, 83, 84, 85, 86, 87, 88, 89, 90, 91, 92, 93, 94, 95, 96, 97, 98, 99, 100, 101, 102, 103, 104, 105, 106, 107, 108, 109, 110, 111, 112, 113, 114, 115, 116, 117, 118, 119, 120, 121, 122, 123, 124, 125, 126, 127, 128, 129, 130, 131, 132, 133, 134, 135, 136, 137, 138, 139, 140, 141, 142, 143, 144, 145, 146, 147, 148, 149, 150, 151, 152, 153, 154, 155, 156, 157, 158, 159, 160, 161, 162, 163, 164, 165, 166, 167, 168, 169, 170, 171, 172, 173, 174, 175, 176, 177, 178, 179, 180, 181, 182, 183, 184, 185, 186, 187, 188, 189, 190, 191, 192, 193, 194, 195, 196, 197, 198, 199, 200, 201, 202, 203, 204, 205, 206, 207, 208, 209, 210, 211, 258, 259, 260, 261, 262, 263, 264, 265, 266, 242, 243, 244, 245, 246, 247, 248, 249, 250, 251, 252, 253, 254, 255, 256, 257] (by decide +kernel) (by decide +kernel)
set_option maxRecDepth 20000 in
theorem gX10_told_X4_look : GoodIn wsX10_told (wsV RX10 143 RX4 yX4_look wsX4_look) := goodIn_app (goodIn_of _ (by decide +kernel)) ggX10_told_X4_look
theorem dX10_told_19 : decode cX10_told 19 = .ok (.invokevirtual 143, 3) := by decide +kernel
theorem dX10_told_22 : decode cX10_told 22 = .ok (.aload_n 0, 1) := by decide +kernel
theorem dX10_told_23 : decode cX10_told 23 = .ok (.getfield 35, 3) := by decide +kernel
theorem dX10_told_26 : decode cX10_told 26 = .ok (.iload_n 1, 1) := by decide +kernel
set_option maxRecDepth 20000 in
theorem ggX10_told_X4_isAllTold : GoodIn wsX10_told wsX4_isAllTold := goodIn_r _ [215, 27, 216, 217, 218, 219, 220, 221, 25, 222, 32, 223, 224, 225, 226, 29, 227, 228, 229, 230, 31, 231, 5, 232, 258, 259, 260, 261, 262, 263, 264, 265, 266, 242, 243, 244, 245, 246, 247, 248, 249, 250, 251, 252, 253, 254, 255, 256, 257] (by decide +kernel) (by decide +kernel)
set_option maxRecDepth 20000 in
theorem gX10_told_X4_isAllTold : GoodIn wsX10_told (wsV RX10 164 RX4 yX4_isAllTold wsX4_isAllTold) := goodIn_app (goodIn_of _ (by decide +kernel)) ggX10_told_X4_isAllTold
theorem dX10_told_27 : decode cX10_told 27 = .ok (.invokevirtual 164, 3) := by decide +kernel
theorem dX10_told_30 : decode cX10_told 30 = .ok (.ifCond .eq 7, 3) := by decide +kernel
theorem dX10_told_33 : decode cX10_told 33 = .ok (.iconst 1, 1) := by decide +kernel
theorem dX10_told_34 : decode cX10_told 34 = .ok (.goto 4, 3) := by decide +kernel
theorem dX10_told_38 : decode cX10_told 38 = .ok (.ireturn, 1) := by decide +kernel
theorem dX10_told_8 : decode cX10_told 8 = .ok (.aload_n 0, 1) := by decide +kernel
theorem dX10_told_9 : decode cX10_told 9 = .ok (.bipush (-2), 2) := by decide +kernel
set_option maxRecDepth 20000 in
theorem ggX10_told_X10_refuseBad : GoodIn wsX10_told wsX10_refuseBad := goodIn_r _ [20, 21, 233, 234, 235, 236, 237, 238, 239, 240, 241] (by decide +kernel) (by decide +kernel)
set_option maxRecDepth 20000 in
theorem gX10_told_X10_refuseBad : GoodIn wsX10_told (wsV RX10 52 RX10 yX10_refuseBad wsX10_refuseBad) := goodIn_app (goodIn_of _ (by decide +kernel)) ggX10_told_X10_refuseBad
theorem dX10_told_11 : decode cX10_told 11 = .ok (.invokevirtual 52, 3) := by decide +kernel
theorem dX10_told_14 : decode cX10_told 14 = .ok (.ireturn, 1) := by decide +kernel
theorem dX10_place_0 : decode cX10_place 0 = .ok (.aload_n 0, 1) := by decide +kernel
theorem dX10_place_1 : decode cX10_place 1 = .ok (.getfield 10, 3) := by decide +kernel
theorem dX10_place_4 : decode cX10_place 4 = .ok (.iload_n 1, 1) := by decide +kernel
set_option maxRecDepth 20000 in
theorem ggX10_place_X3_isPerson : GoodIn wsX10_place wsX3_isPerson := goodIn_r _ [7, 8, 285, 286, 287, 288, 289, 290, 291, 292, 293, 294, 295, 296, 297, 298, 299, 300] (by decide +kernel) (by decide +kernel)
set_option maxRecDepth 20000 in
theorem gX10_place_X3_isPerson : GoodIn wsX10_place (wsV RX10 98 RX3 yX3_isPerson wsX3_isPerson) := goodIn_app (goodIn_of _ (by decide +kernel)) ggX10_place_X3_isPerson
theorem dX10_place_5 : decode cX10_place 5 = .ok (.invokevirtual 98, 3) := by decide +kernel
theorem dX10_place_8 : decode cX10_place 8 = .ok (.ifCond .eq 11, 3) := by decide +kernel
theorem dX10_place_19 : decode cX10_place 19 = .ok (.aload_n 0, 1) := by decide +kernel
theorem dX10_place_20 : decode cX10_place 20 = .ok (.bipush (-2), 2) := by decide +kernel
set_option maxRecDepth 20000 in
theorem ggX10_place_X10_refuseBad : GoodIn wsX10_place wsX10_refuseBad := goodIn_r _ [24, 25, 276, 277, 278, 279, 280, 281, 282, 283, 284] (by decide +kernel) (by decide +kernel)
set_option maxRecDepth 20000 in
theorem gX10_place_X10_refuseBad : GoodIn wsX10_place (wsV RX10 52 RX10 yX10_refuseBad wsX10_refuseBad) := goodIn_app (goodIn_of _ (by decide +kernel)) ggX10_place_X10_refuseBad
theorem dX10_place_22 : decode cX10_place 22 = .ok (.invokevirtual 52, 3) := by decide +kernel
theorem dX10_place_25 : decode cX10_place 25 = .ok (.ireturn, 1) := by decide +kernel
theorem dX10_winds_0 : decode cX10_winds 0 = .ok (.aload_n 0, 1) := by decide +kernel
theorem dX10_winds_1 : decode cX10_winds 1 = .ok (.iload_n 1, 1) := by decide +kernel
set_option maxRecDepth 20000 in
theorem ggX10_winds_X10_isGroup : GoodIn wsX10_winds wsX10_isGroup := goodIn_r _ [6, 7, 8, 9, 10, 11, 12, 13, 14, 15, 5, 16, 238, 239, 240, 241, 242, 243, 244, 245, 246, 247, 248, 249, 250, 251, 252, 253, 254, 255, 256, 257, 258, 259, 260, 261, 262] (by decide +kernel) (by decide +kernel)
set_option maxRecDepth 20000 in
theorem gX10_winds_X10_isGroup : GoodIn wsX10_winds (wsV RX10 158 RX10 yX10_isGroup wsX10_isGroup) := goodIn_app (goodIn_of _ (by decide +kernel)) ggX10_winds_X10_isGroup
theorem dX10_winds_2 : decode cX10_winds 2 = .ok (.invokevirtual 158, 3) := by decide +kernel
theorem dX10_winds_5 : decode cX10_winds 5 = .ok (.ifCond .ne 10, 3) := by decide +kernel
theorem dX10_winds_15 : decode cX10_winds 15 = .ok (.aload_n 0, 1) := by decide +kernel
theorem dX10_winds_16 : decode cX10_winds 16 = .ok (.getfield 35, 3) := by decide +kernel
theorem dX10_winds_19 : decode cX10_winds 19 = .ok (.iload_n 1, 1) := by decide +kernel
set_option maxRecDepth 20000 in
theorem ggX10_winds_X4_windsWhereTold : GoodIn wsX10_winds wsX4_windsWhereTold := goodIn_r _ [26, 27, 28, 29, 30, 31, 25, 32, 33, 34, 35, 36, 37, 38, 39, 40, 11, 41, 42, 43, 44, 45, 46, 47, 48, 49, 50, 51, 52, 53, 54, 55, 5, 56, 57, 58, 59, 60, 61, 62, 63, 64, 65, 66, 67, 68, 69, 70, 71, 72, 73, 74, 75, 76, 77, 78, 79, 80, 81, 82, 83, 84, 85, 86, 87, 13, 88, 89, 90, 91, 92, 93, 94, 95, 96, 97, 98, 99, 100, 101, 102, 103, 104, 105, 106, 107, 108, 109, 110, 111, 112, 113, 114, 115, 116, 117, 118, 119, 120, 121, 122, 123, 124, 125, 126, 127, 128, 129, 130, 131, 132, 133, 134, 135, 136, 137, 138, 139, 140, 141, 142, 143, 144, 145, 146, 147, 148, 149, 150, 151, 152, 153, 154, 155, 156, 157, 158, 159, 160, 161, 162, 163, 164, 165, 166, 167, 168, 169, 170, 171, 172, 173, 174, 175, 176, 177, 178, 179, 180, 181, 182, 183, 184, 185, 186, 187, 188, 189, 190, 191, 192, 193, 194, 195, 196, 197, 198, 199, 200, 201, 202, 203, 204, 205, 206, 207, 208, 209, 210, 211, 212, 213, 214, 215, 216, 217, 218, 219, 220, 221, 222, 223, 224, 225, 226, 227, 228, 229, 230, 231, 232, 233, 234, 235, 236, 237, 263, 264, 265, 266, 267, 268, 269, 270, 271, 247, 248, 249, 250, 251, 252, 253, 254, 255, 256, 257, 258, 259, 260, 261, 262] (by decide +kernel) (by decide +kernel)
set_option maxRecDepth 20000 in
theorem gX10_winds_X4_windsWhereTold : GoodIn wsX10_winds (wsV RX10 175 RX4 yX4_windsWhereTold wsX4_windsWhereTold) := goodIn_app (goodIn_of _ (by decide +kernel)) ggX10_winds_X4_windsWhereTold
theorem dX10_winds_20 : decode cX10_winds 20 = .ok (.invokevirtual 175, 3) := by decide +kernel
theorem dX10_winds_23 : decode cX10_winds 23 = .ok (.ireturn, 1) := by decide +kernel
theorem dX10_winds_8 : decode cX10_winds 8 = .ok (.aload_n 0, 1) := by decide +kernel
theorem dX10_winds_9 : decode cX10_winds 9 = .ok (.bipush (-2), 2) := by decide +kernel
set_option maxRecDepth 20000 in
theorem ggX10_winds_X10_refuseBad : GoodIn wsX10_winds wsX10_refuseBad := goodIn_r _ [20, 21, 238, 239, 240, 241, 242, 243, 244, 245, 246] (by decide +kernel) (by decide +kernel)
set_option maxRecDepth 20000 in
theorem gX10_winds_X10_refuseBad : GoodIn wsX10_winds (wsV RX10 52 RX10 yX10_refuseBad wsX10_refuseBad) := goodIn_app (goodIn_of _ (by decide +kernel)) ggX10_winds_X10_refuseBad
theorem dX10_winds_11 : decode cX10_winds 11 = .ok (.invokevirtual 52, 3) := by decide +kernel
theorem dX10_winds_14 : decode cX10_winds 14 = .ok (.ireturn, 1) := by decide +kernel
theorem dX10_walk_0 : decode cX10_walk 0 = .ok (.aload_n 0, 1) := by decide +kernel
theorem dX10_walk_1 : decode cX10_walk 1 = .ok (.getfield 10, 3) := by decide +kernel
theorem dX10_walk_4 : decode cX10_walk 4 = .ok (.iload_n 1, 1) := by decide +kernel
set_option maxRecDepth 20000 in
theorem ggX10_walk_X3_isPerson : GoodIn wsX10_walk wsX3_isPerson := goodIn_r _ [8, 9, 318, 319, 320, 321, 322, 323, 324, 325, 326, 327, 328, 329, 330, 331, 332, 333] (by decide +kernel) (by decide +kernel)
set_option maxRecDepth 20000 in
theorem gX10_walk_X3_isPerson : GoodIn wsX10_walk (wsV RX10 98 RX3 yX3_isPerson wsX3_isPerson) := goodIn_app (goodIn_of _ (by decide +kernel)) ggX10_walk_X3_isPerson
theorem dX10_walk_5 : decode cX10_walk 5 = .ok (.invokevirtual 98, 3) := by decide +kernel
theorem dX10_walk_8 : decode cX10_walk 8 = .ok (.ifCond .eq 28, 3) := by decide +kernel
theorem dX10_walk_36 : decode cX10_walk 36 = .ok (.aload_n 0, 1) := by decide +kernel
theorem dX10_walk_37 : decode cX10_walk 37 = .ok (.bipush (-10), 2) := by decide +kernel
set_option maxRecDepth 20000 in
theorem ggX10_walk_X10_refuseBad : GoodIn wsX10_walk wsX10_refuseBad := goodIn_r _ [35, 36, 309, 310, 311, 312, 313, 314, 315, 316, 317] (by decide +kernel) (by decide +kernel)
set_option maxRecDepth 20000 in
theorem gX10_walk_X10_refuseBad : GoodIn wsX10_walk (wsV RX10 52 RX10 yX10_refuseBad wsX10_refuseBad) := goodIn_app (goodIn_of _ (by decide +kernel)) ggX10_walk_X10_refuseBad
theorem dX10_walk_39 : decode cX10_walk 39 = .ok (.invokevirtual 52, 3) := by decide +kernel
theorem dX10_walk_42 : decode cX10_walk 42 = .ok (.ireturn, 1) := by decide +kernel
theorem dX10_parade_0 : decode cX10_parade 0 = .ok (.aload_n 0, 1) := by decide +kernel
theorem dX10_parade_1 : decode cX10_parade 1 = .ok (.getfield 10, 3) := by decide +kernel
theorem dX10_parade_4 : decode cX10_parade 4 = .ok (.iload_n 1, 1) := by decide +kernel
set_option maxRecDepth 20000 in
theorem ggX10_parade_X3_isPerson : GoodIn wsX10_parade wsX3_isPerson := goodIn_r _ [8, 9, 303, 304, 305, 306, 307, 308, 309, 310, 311, 312, 313, 314, 315, 316, 317, 318] (by decide +kernel) (by decide +kernel)
set_option maxRecDepth 20000 in
theorem gX10_parade_X3_isPerson : GoodIn wsX10_parade (wsV RX10 98 RX3 yX3_isPerson wsX3_isPerson) := goodIn_app (goodIn_of _ (by decide +kernel)) ggX10_parade_X3_isPerson
theorem dX10_parade_5 : decode cX10_parade 5 = .ok (.invokevirtual 98, 3) := by decide +kernel
theorem dX10_parade_8 : decode cX10_parade 8 = .ok (.ifCond .eq 12, 3) := by decide +kernel
theorem dX10_parade_20 : decode cX10_parade 20 = .ok (.aload_n 0, 1) := by decide +kernel
theorem dX10_parade_21 : decode cX10_parade 21 = .ok (.bipush (-2), 2) := by decide +kernel
set_option maxRecDepth 20000 in
theorem ggX10_parade_X10_refuseBad : GoodIn wsX10_parade wsX10_refuseBad := goodIn_r _ [17, 18, 294, 295, 296, 297, 298, 299, 300, 301, 302] (by decide +kernel) (by decide +kernel)
set_option maxRecDepth 20000 in
theorem gX10_parade_X10_refuseBad : GoodIn wsX10_parade (wsV RX10 52 RX10 yX10_refuseBad wsX10_refuseBad) := goodIn_app (goodIn_of _ (by decide +kernel)) ggX10_parade_X10_refuseBad
theorem dX10_parade_23 : decode cX10_parade 23 = .ok (.invokevirtual 52, 3) := by decide +kernel
theorem dX10_parade_26 : decode cX10_parade 26 = .ok (.ireturn, 1) := by decide +kernel
theorem dX10_lesson_0 : decode cX10_lesson 0 = .ok (.aload_n 0, 1) := by decide +kernel
theorem dX10_lesson_1 : decode cX10_lesson 1 = .ok (.getfield 10, 3) := by decide +kernel
theorem dX10_lesson_4 : decode cX10_lesson 4 = .ok (.iload_n 1, 1) := by decide +kernel
set_option maxRecDepth 20000 in
theorem ggX10_lesson_X3_isPerson : GoodIn wsX10_lesson wsX3_isPerson := goodIn_r _ [7, 8, 246, 247, 248, 249, 250, 251, 252, 253, 254, 255, 256, 257, 258, 259, 260, 261] (by decide +kernel) (by decide +kernel)
set_option maxRecDepth 20000 in
theorem gX10_lesson_X3_isPerson : GoodIn wsX10_lesson (wsV RX10 98 RX3 yX3_isPerson wsX3_isPerson) := goodIn_app (goodIn_of _ (by decide +kernel)) ggX10_lesson_X3_isPerson
theorem dX10_lesson_5 : decode cX10_lesson 5 = .ok (.invokevirtual 98, 3) := by decide +kernel
theorem dX10_lesson_8 : decode cX10_lesson 8 = .ok (.ifCond .eq 19, 3) := by decide +kernel
theorem dX10_lesson_27 : decode cX10_lesson 27 = .ok (.aload_n 0, 1) := by decide +kernel
theorem dX10_lesson_28 : decode cX10_lesson 28 = .ok (.bipush (-2), 2) := by decide +kernel
set_option maxRecDepth 20000 in
theorem ggX10_lesson_X10_refuseBad : GoodIn wsX10_lesson wsX10_refuseBad := goodIn_r _ [27, 28, 237, 238, 239, 240, 241, 242, 243, 244, 245] (by decide +kernel) (by decide +kernel)
set_option maxRecDepth 20000 in
theorem gX10_lesson_X10_refuseBad : GoodIn wsX10_lesson (wsV RX10 52 RX10 yX10_refuseBad wsX10_refuseBad) := goodIn_app (goodIn_of _ (by decide +kernel)) ggX10_lesson_X10_refuseBad
theorem dX10_lesson_30 : decode cX10_lesson 30 = .ok (.invokevirtual 52, 3) := by decide +kernel
theorem dX10_lesson_33 : decode cX10_lesson 33 = .ok (.ireturn, 1) := by decide +kernel
theorem dX10_speakers_0 : decode cX10_speakers 0 = .ok (.aload_n 0, 1) := by decide +kernel
theorem dX10_speakers_1 : decode cX10_speakers 1 = .ok (.getfield 35, 3) := by decide +kernel
set_option maxRecDepth 20000 in
theorem ggX10_speakers_X4_look : GoodIn wsX10_speakers wsX4_look := goodIn_r _ [6, 7, 8, 9, 10, 11, 12, 13, 14, 15, 16, 17, 18, 19, 20, 21, 22, 23, 24, 25, 26, 27, 28, 29, 30, 31, 32, 33, 34, 35, 36, 37, 38, 39, 40, 41, 42, 43, 44, 45, 46, 47, 48, 49, 50, 51, 52, 5, 53, 54, 55, 56, 57, 58, 59, 60, 61, 62, 63, 64, 65, 66, 67, 68, 69, 70, 71, 72, 73, 74, 75, 76, 77, 78, 79, 80, 81, 82, 83, 84, 85, 86, 87, 88, 89, 90, 91, 92, 93, 94, 95, 96, 97, 98, 99, 100, 101, 102, 103, 104, 105, 106, 107, 108, 109, 110, 111, 112, 113, 114, 115, 116, 117, 118, 119, 120, 121, 122, 123, 124, 125, 126, 127, 128, 129, 130, 131, 132, 133, 134, 135, 136, 137, 138, 139, 140, 141, 142, 143, 144, 145, 146, 147, 148, 149, 150, 151, 152, 153, 154, 155, 156, 157, 158, 159, 160, 161, 162, 163, 164, 165, 166, 167, 168, 169, 170, 171, 172, 173, 174, 175, 176, 177, 178, 179, 180, 181, 182, 183, 184, 185, 186, 187, 188, 189, 190, 191, 192, 193, 194, 220, 221, 222, 223, 224, 225, 226, 227, 228, 229, 230, 231, 232, 233, 234, 235, 236, 237, 238, 239, 240, 241, 242, 243, 244] (by decide +kernel) (by decide +kernel)
set_option maxRecDepth 20000 in
theorem gX10_speakers_X4_look : GoodIn wsX10_speakers (wsV RX10 143 RX4 yX4_look wsX4_look) := goodIn_app (goodIn_of _ (by decide +kernel)) ggX10_speakers_X4_look
theorem dX10_speakers_4 : decode cX10_speakers 4 = .ok (.invokevirtual 143, 3) := by decide +kernel
theorem dX10_speakers_7 : decode cX10_speakers 7 = .ok (.aload_n 0, 1) := by decide +kernel
theorem dX10_speakers_8 : decode cX10_speakers 8 = .ok (.getfield 35, 3) := by decide +kernel
set_option maxRecDepth 20000 in
theorem ggX10_speakers_X4_speakerCount : GoodIn wsX10_speakers wsX4_speakerCount := goodIn_r _ [198, 7, 10, 199, 200, 201, 5, 202, 9, 203, 204, 205, 206, 11, 207, 208, 209, 210, 12, 220, 221, 222, 223, 224, 225, 226, 227, 228, 229, 230, 231, 232, 233, 234, 235, 236, 237, 238, 239, 240, 241, 242, 243, 244] (by decide +kernel) (by decide +kernel)
set_option maxRecDepth 20000 in
theorem gX10_speakers_X4_speakerCount : GoodIn wsX10_speakers (wsV RX10 189 RX4 yX4_speakerCount wsX4_speakerCount) := goodIn_app (goodIn_of _ (by decide +kernel)) ggX10_speakers_X4_speakerCount
theorem dX10_speakers_11 : decode cX10_speakers 11 = .ok (.invokevirtual 189, 3) := by decide +kernel
theorem dX10_speakers_14 : decode cX10_speakers 14 = .ok (.ireturn, 1) := by decide +kernel
theorem dX10_best_0 : decode cX10_best 0 = .ok (.iload_n 1, 1) := by decide +kernel
theorem dX10_best_1 : decode cX10_best 1 = .ok (.iconst 0, 1) := by decide +kernel
theorem dX10_best_2 : decode cX10_best 2 = .ok (.iconst 1, 1) := by decide +kernel
set_option maxRecDepth 20000 in
theorem ggX10_best_X10_isWithin : GoodIn wsX10_best wsX10_isWithin := goodIn_r _ [5] (by decide +kernel) (by decide +kernel)
set_option maxRecDepth 20000 in
theorem gX10_best_X10_isWithin : GoodIn wsX10_best (va_wsS RX10 48 yX10_isWithin wsX10_isWithin) := goodIn_app (goodIn_of _ (by decide +kernel)) ggX10_best_X10_isWithin
theorem dX10_best_3 : decode cX10_best 3 = .ok (.invokestatic 48, 3) := by decide +kernel
theorem dX10_best_6 : decode cX10_best 6 = .ok (.ifCond .ne 10, 3) := by decide +kernel
theorem dX10_best_16 : decode cX10_best 16 = .ok (.aload_n 0, 1) := by decide +kernel
theorem dX10_best_17 : decode cX10_best 17 = .ok (.getfield 35, 3) := by decide +kernel
theorem dX10_best_20 : decode cX10_best 20 = .ok (.iload_n 1, 1) := by decide +kernel
set_option maxRecDepth 20000 in
theorem ggX10_best_X4_bestSquare : GoodIn wsX10_best wsX4_bestSquare := goodIn_r _ [15, 16, 17, 18, 19, 14, 20, 21, 22, 23, 24, 25, 26, 27, 28, 29, 30, 31, 32, 33, 34, 35, 36, 37, 38, 39, 40, 41, 42, 43, 44, 4, 45, 46, 47, 48, 49, 50, 51, 52, 53, 54, 55, 56, 57, 58, 59, 60, 61, 62, 63, 64, 65, 66, 67, 68, 69, 70, 71, 72, 73, 74, 75, 76, 77, 78, 79, 80, 81, 82, 83, 84, 85, 86, 87, 88, 89, 90, 91, 92, 93, 94, 95, 96, 97, 98, 99, 100, 101, 102, 103, 104, 105, 106, 107, 108, 109, 110, 111, 112, 113, 114, 115, 116, 117, 118, 119, 120, 121, 122, 123, 124, 125, 126, 127, 128, 129, 130, 131, 132, 133, 134, 135, 136, 137, 138, 139, 140, 141, 142, 143, 144, 145, 146, 147, 148, 149, 150, 151, 152, 153, 154, 155, 156, 157, 158, 159, 160, 161, 162, 163, 164, 165, 166, 167, 168, 169, 170, 171, 172, 173, 174, 175, 176, 177, 178, 179, 180, 181, 182, 183, 184, 185, 186, 187, 188, 189, 190, 191, 192, 193, 194, 195, 196, 197, 198, 199, 200, 201, 202, 203, 204, 205, 206, 207, 208, 209, 210, 211, 212, 213, 214, 215, 216, 217, 218, 219, 220, 221, 222, 223, 224, 225, 226, 227, 228, 229, 230, 231, 232, 233, 234, 235, 236, 246, 247, 248, 249, 250, 251, 252, 253, 254, 255, 256, 257, 258, 259, 260, 261, 262, 263, 264, 265, 266, 267, 268, 269, 270] (by decide +kernel) (by decide +kernel)
set_option maxRecDepth 20000 in
theorem gX10_best_X4_bestSquare : GoodIn wsX10_best (wsV RX10 192 RX4 yX4_bestSquare wsX4_bestSquare) := goodIn_app (goodIn_of _ (by decide +kernel)) ggX10_best_X4_bestSquare
theorem dX10_best_21 : decode cX10_best 21 = .ok (.invokevirtual 192, 3) := by decide +kernel
theorem dX10_best_24 : decode cX10_best 24 = .ok (.ireturn, 1) := by decide +kernel
theorem dX10_best_9 : decode cX10_best 9 = .ok (.aload_n 0, 1) := by decide +kernel
theorem dX10_best_10 : decode cX10_best 10 = .ok (.bipush (-2), 2) := by decide +kernel
set_option maxRecDepth 20000 in
theorem ggX10_best_X10_refuseBad : GoodIn wsX10_best wsX10_refuseBad := goodIn_r _ [9, 10, 237, 238, 239, 240, 241, 242, 243, 244, 245] (by decide +kernel) (by decide +kernel)
set_option maxRecDepth 20000 in
theorem gX10_best_X10_refuseBad : GoodIn wsX10_best (wsV RX10 52 RX10 yX10_refuseBad wsX10_refuseBad) := goodIn_app (goodIn_of _ (by decide +kernel)) ggX10_best_X10_refuseBad
theorem dX10_best_12 : decode cX10_best 12 = .ok (.invokevirtual 52, 3) := by decide +kernel
theorem dX10_best_15 : decode cX10_best 15 = .ok (.ireturn, 1) := by decide +kernel
theorem dX10_worth_0 : decode cX10_worth 0 = .ok (.aload_n 0, 1) := by decide +kernel
theorem dX10_worth_1 : decode cX10_worth 1 = .ok (.getfield 10, 3) := by decide +kernel
theorem dX10_worth_4 : decode cX10_worth 4 = .ok (.iload_n 1, 1) := by decide +kernel
set_option maxRecDepth 20000 in
theorem ggX10_worth_X3_isPerson : GoodIn wsX10_worth wsX3_isPerson := goodIn_r _ [7, 8, 238, 239, 240, 241, 242, 243, 244, 245, 246, 247, 248, 249, 250, 251, 252, 253] (by decide +kernel) (by decide +kernel)
set_option maxRecDepth 20000 in
theorem gX10_worth_X3_isPerson : GoodIn wsX10_worth (wsV RX10 98 RX3 yX3_isPerson wsX3_isPerson) := goodIn_app (goodIn_of _ (by decide +kernel)) ggX10_worth_X3_isPerson
theorem dX10_worth_5 : decode cX10_worth 5 = .ok (.invokevirtual 98, 3) := by decide +kernel
theorem dX10_worth_8 : decode cX10_worth 8 = .ok (.ifCond .eq 12, 3) := by decide +kernel
theorem dX10_worth_20 : decode cX10_worth 20 = .ok (.aload_n 0, 1) := by decide +kernel
theorem dX10_worth_21 : decode cX10_worth 21 = .ok (.bipush (-10), 2) := by decide +kernel
set_option maxRecDepth 20000 in
theorem ggX10_worth_X10_refuseBad : GoodIn wsX10_worth wsX10_refuseBad := goodIn_r _ [16, 17, 229, 230, 231, 232, 233, 234, 235, 236, 237] (by decide +kernel) (by decide +kernel)
set_option maxRecDepth 20000 in
theorem gX10_worth_X10_refuseBad : GoodIn wsX10_worth (wsV RX10 52 RX10 yX10_refuseBad wsX10_refuseBad) := goodIn_app (goodIn_of _ (by decide +kernel)) ggX10_worth_X10_refuseBad
theorem dX10_worth_23 : decode cX10_worth 23 = .ok (.invokevirtual 52, 3) := by decide +kernel
theorem dX10_worth_26 : decode cX10_worth 26 = .ok (.ireturn, 1) := by decide +kernel
theorem dX10_spots_0 : decode cX10_spots 0 = .ok (.aload_n 0, 1) := by decide +kernel
theorem dX10_spots_1 : decode cX10_spots 1 = .ok (.getfield 10, 3) := by decide +kernel
theorem dX10_spots_4 : decode cX10_spots 4 = .ok (.iload_n 1, 1) := by decide +kernel
set_option maxRecDepth 20000 in
theorem ggX10_spots_X3_isPerson : GoodIn wsX10_spots wsX3_isPerson := goodIn_r _ [7, 8, 281, 282, 283, 284, 285, 286, 287, 288, 289, 290, 291, 292, 293, 294, 295, 296] (by decide +kernel) (by decide +kernel)
set_option maxRecDepth 20000 in
theorem gX10_spots_X3_isPerson : GoodIn wsX10_spots (wsV RX10 98 RX3 yX3_isPerson wsX3_isPerson) := goodIn_app (goodIn_of _ (by decide +kernel)) ggX10_spots_X3_isPerson
theorem dX10_spots_5 : decode cX10_spots 5 = .ok (.invokevirtual 98, 3) := by decide +kernel
theorem dX10_spots_8 : decode cX10_spots 8 = .ok (.ifCond .eq 8, 3) := by decide +kernel
theorem dX10_spots_16 : decode cX10_spots 16 = .ok (.aload_n 0, 1) := by decide +kernel
theorem dX10_spots_17 : decode cX10_spots 17 = .ok (.bipush (-10), 2) := by decide +kernel
set_option maxRecDepth 20000 in
theorem ggX10_spots_X10_refuseBad : GoodIn wsX10_spots wsX10_refuseBad := goodIn_r _ [13, 14, 272, 273, 274, 275, 276, 277, 278, 279, 280] (by decide +kernel) (by decide +kernel)
set_option maxRecDepth 20000 in
theorem gX10_spots_X10_refuseBad : GoodIn wsX10_spots (wsV RX10 52 RX10 yX10_refuseBad wsX10_refuseBad) := goodIn_app (goodIn_of _ (by decide +kernel)) ggX10_spots_X10_refuseBad
theorem dX10_spots_19 : decode cX10_spots 19 = .ok (.invokevirtual 52, 3) := by decide +kernel
theorem dX10_spots_22 : decode cX10_spots 22 = .ok (.ireturn, 1) := by decide +kernel
theorem dX10_from_0 : decode cX10_from 0 = .ok (.iload_n 1, 1) := by decide +kernel
theorem dX10_from_1 : decode cX10_from 1 = .ok (.iconst 0, 1) := by decide +kernel
theorem dX10_from_2 : decode cX10_from 2 = .ok (.aload_n 0, 1) := by decide +kernel
theorem dX10_from_3 : decode cX10_from 3 = .ok (.getfield 19, 3) := by decide +kernel
theorem dX10_from_6 : decode cX10_from 6 = .ok (.arraylength, 1) := by decide +kernel
theorem dX10_from_7 : decode cX10_from 7 = .ok (.iconst 1, 1) := by decide +kernel
theorem dX10_from_8 : decode cX10_from 8 = .ok (.isub, 1) := by decide +kernel
set_option maxRecDepth 20000 in
theorem ggX10_from_X10_isWithin : GoodIn wsX10_from wsX10_isWithin := goodIn_r _ [6] (by decide +kernel) (by decide +kernel)
set_option maxRecDepth 20000 in
theorem gX10_from_X10_isWithin : GoodIn wsX10_from (va_wsS RX10 48 yX10_isWithin wsX10_isWithin) := goodIn_app (goodIn_of _ (by decide +kernel)) ggX10_from_X10_isWithin
theorem dX10_from_9 : decode cX10_from 9 = .ok (.invokestatic 48, 3) := by decide +kernel
theorem dX10_from_12 : decode cX10_from 12 = .ok (.ifCond .ne 10, 3) := by decide +kernel
theorem dX10_from_22 : decode cX10_from 22 = .ok (.aload_n 0, 1) := by decide +kernel
theorem dX10_from_23 : decode cX10_from 23 = .ok (.getfield 19, 3) := by decide +kernel
theorem dX10_from_26 : decode cX10_from 26 = .ok (.iload_n 1, 1) := by decide +kernel
theorem dX10_from_27 : decode cX10_from 27 = .ok (.aaload, 1) := by decide +kernel
theorem dX10_from_28 : decode cX10_from 28 = .ok (.astore_n 2, 1) := by decide +kernel
theorem dX10_from_29 : decode cX10_from 29 = .ok (.aload_n 2, 1) := by decide +kernel
theorem dX10_from_30 : decode cX10_from 30 = .ok (.ifnonnull 10, 3) := by decide +kernel
theorem dX10_from_33 : decode cX10_from 33 = .ok (.aload_n 0, 1) := by decide +kernel
theorem dX10_from_34 : decode cX10_from 34 = .ok (.bipush (-3), 2) := by decide +kernel
set_option maxRecDepth 20000 in
theorem ggX10_from_X10_refuseNo : GoodIn wsX10_from wsX10_refuseNo := goodIn_r _ [15, 16, 42, 43, 44, 45, 46, 47, 48, 49, 50] (by decide +kernel) (by decide +kernel)
set_option maxRecDepth 20000 in
theorem gX10_from_X10_refuseNo : GoodIn wsX10_from (wsV RX10 72 RX10 yX10_refuseNo wsX10_refuseNo) := goodIn_app (goodIn_of _ (by decide +kernel)) ggX10_from_X10_refuseNo
theorem dX10_from_36 : decode cX10_from 36 = .ok (.invokevirtual 72, 3) := by decide +kernel
theorem dX10_from_39 : decode cX10_from 39 = .ok (.ireturn, 1) := by decide +kernel
theorem dX10_from_15 : decode cX10_from 15 = .ok (.aload_n 0, 1) := by decide +kernel
theorem dX10_from_16 : decode cX10_from 16 = .ok (.bipush (-2), 2) := by decide +kernel
set_option maxRecDepth 20000 in
theorem ggX10_from_X10_refuseBad : GoodIn wsX10_from wsX10_refuseBad := goodIn_r _ [10, 11, 42, 43, 44, 45, 46, 47, 48, 49, 50] (by decide +kernel) (by decide +kernel)
set_option maxRecDepth 20000 in
theorem gX10_from_X10_refuseBad : GoodIn wsX10_from (wsV RX10 52 RX10 yX10_refuseBad wsX10_refuseBad) := goodIn_app (goodIn_of _ (by decide +kernel)) ggX10_from_X10_refuseBad
theorem dX10_from_18 : decode cX10_from 18 = .ok (.invokevirtual 52, 3) := by decide +kernel
theorem dX10_from_21 : decode cX10_from 21 = .ok (.ireturn, 1) := by decide +kernel
theorem dX10_status_0 : decode cX10_status 0 = .ok (.iload_n 1, 1) := by decide +kernel
theorem dX10_status_1 : decode cX10_status 1 = .ok (.tableswitch 42 0 2 #[27, 32, 37], 27) := by decide +kernel
theorem dX10_status_28 : decode cX10_status 28 = .ok (.aload_n 0, 1) := by decide +kernel
theorem dX10_status_29 : decode cX10_status 29 = .ok (.getfield 204, 3) := by decide +kernel
theorem dX10_status_32 : decode cX10_status 32 = .ok (.ireturn, 1) := by decide +kernel
theorem dX10_status_33 : decode cX10_status 33 = .ok (.aload_n 0, 1) := by decide +kernel
theorem dX10_status_34 : decode cX10_status 34 = .ok (.getfield 207, 3) := by decide +kernel
theorem dX10_status_37 : decode cX10_status 37 = .ok (.ireturn, 1) := by decide +kernel
theorem dX10_status_38 : decode cX10_status 38 = .ok (.aload_n 0, 1) := by decide +kernel
theorem dX10_status_39 : decode cX10_status 39 = .ok (.getfield 210, 3) := by decide +kernel
theorem dX10_status_42 : decode cX10_status 42 = .ok (.ireturn, 1) := by decide +kernel
theorem dX10_status_43 : decode cX10_status 43 = .ok (.aload_n 0, 1) := by decide +kernel
theorem dX10_status_44 : decode cX10_status 44 = .ok (.iconst (-1), 1) := by decide +kernel
set_option maxRecDepth 20000 in
theorem ggX10_status_X10_refuseBad : GoodIn wsX10_status wsX10_refuseBad := goodIn_r _ [8, 1, 9, 10, 11, 12, 13, 14, 15, 16, 17] (by decide +kernel) (by decide +kernel)
set_option maxRecDepth 20000 in
theorem gX10_status_X10_refuseBad : GoodIn wsX10_status (wsV RX10 52 RX10 yX10_refuseBad wsX10_refuseBad) := goodIn_app (goodIn_of _ (by decide +kernel)) ggX10_status_X10_refuseBad
theorem dX10_status_45 : decode cX10_status 45 = .ok (.invokevirtual 52, 3) := by decide +kernel
theorem dX10_status_48 : decode cX10_status 48 = .ok (.ireturn, 1) := by decide +kernel
set_option maxHeartbeats 4000000 in
set_option maxRecDepth 100000 in
theorem tp_wipe (l : Launch) (D : va_G) (cy : Nat → ClassId) (h g df im pn w pa : Nat) (b : Nat) (sz : Nat)  : Met l yX10_wipe wsX10_wipe ({ frames := 0, cells := 0, slots := 0, locals := 0 }) (va_Pc [.ref h] (kPre D cy [(h, .inr (10, [.ref g, .ref df, .ref im, .ref pn, .ref w, .ref pa, .int 0, .int 0, .int 0])), (pn, .inr (8, [.ref b, .int 0, .int 0, .int 0, .int 0, .int 0, .int 0]))] sz)) (va_Qi (fun (r : Int32) (_ : Unit) => r = 0) (fun (u : Unit) t => va_P D vwCl ([]) t.heap ∧ va_D (va_A [(h, .inr (10, [.ref g, .ref df, .ref im, .ref pn, .ref w, .ref pa, .int 0, .int 0, .int 0])), (pn, .inr (8, [.ref b, .int 0, .int 0, .int 0, .int 0, .int 0, .int 0]))] sz) ([])) (va_A [(h, .inr (10, [.ref g, .ref df, .ref im, .ref pn, .ref w, .ref pa, .int 0, .int 0, .int 0])), (pn, .inr (8, [.ref b, .int 0, .int 0, .int 0, .int 0, .int 0, .int 0]))] sz)) 0 0 (va_A [(h, .inr (10, [.ref g, .ref df, .ref im, .ref pn, .ref w, .ref pa, .int 0, .int 0, .int 0])), (pn, .inr (8, [.ref b, .int 0, .int 0, .int 0, .int 0, .int 0, .int 0]))] sz) := by
  refine Met.ofW (cc := cX10_wipe) (maxL := 2) (ret := (some .int)) (by decide) rfl ?_
  intro p e s m args below meth c s₁ B hml hv
  obtain ⟨rfl, hsz, hP, hKA, hD0⟩ := hv
  have hx := B.exec
  have hb := B.bytes
  have hr := B.returns
  have hts := atoms_spec (ws := wsX10_wipe) B.pre
  have hown : s.vm.findClass RX10 = some m.cls := findClass_of_methodNamed B.named
  have hlocks := B.notSynchronized
  subst hsz
  have hK := hKA.1
  have hD := hD0.self (sz := s.heap.size)
  generalize hAe : va_A [(h, .inr (10, [.ref g, .ref df, .ref im, .ref pn, .ref w, .ref pa, .int 0, .int 0, .int 0])), (pn, .inr (8, [.ref b, .int 0, .int 0, .int 0, .int 0, .int 0, .int 0]))] s.heap.size = A at hD ⊢
  have hA : ∀ q : Nat, s.heap.size ≤ q → A q := fun q h => by rw [← hAe]; exact Or.inr h
  have hS : va_S A s.heap s.heap [] := va_S.rf
  have hP : va_P D vwCl [(h, .inr (10, [.ref g, .ref df, .ref im, .ref pn, .ref w, .ref pa, .int 0, .int 0, .int 0])), (pn, .inr (8, [.ref b, .int 0, .int 0, .int 0, .int 0, .int 0, .int 0]))] s.heap := hP
  have hl := lv_entry ([.ref h]) (n := 2) (Nat.le_of_ble_eq_true rfl)
  rw [lg_entry_eq]
  generalize (lg_sl ([.ref h]) ++ List.replicate (2 - (lg_sl ([.ref h])).length) Slot.unset).toArray = ls at hl ⊢
  have hl : lv_has ls 2 [(0, .ref h)] := hl
  have z0_ := hts (.fieldLink RX10 26 "HeardSeen" "plan" "LHeardSeen$Plan;") (by decide +kernel)
  have zi10_ : ∀ w ∈ u_ws RX10 TX10 9, w ∈ wsX10_wipe := by decide +kernel
  have z2_ := hts (.fieldLink RX10 127 "HeardSeen$Plan" "length" "I") (by decide +kernel)
  have zi8_ : ∀ w ∈ u_ws RX8 TX8 7, w ∈ wsX10_wipe := by decide +kernel
  refine lv_aload_n hx hb dX10_wipe_0 rfl (lv_at hl 0 rfl) ?_
  refine va_get (D := D) (ci := 10) (v := .ref pn) (C := RX10) (T := TX10) (N := 9) hx hb hts zi10_ hown hK hP 0 rfl rfl 3 (by decide) z0_ (fun _ h9 => h9) rfl dX10_wipe_1 ?_
  refine va_get (D := D) (ci := 8) (v := .int 0) (C := RX8) (T := TX8) (N := 7) hx hb hts zi8_ hown hK hP 1 rfl rfl 1 (by decide) z2_ (fun _ h9 => h9) rfl dX10_wipe_4 ?_
  refine lv_istore_n (lv' := [(1, .int 0), (0, .ref h)]) hx hb dX10_wipe_7 rfl hl (by decide) rfl (fun ls hl => ?_)
  refine lv_aload_n hx hb dX10_wipe_8 rfl (lv_at hl 1 rfl) ?_
  refine va_get (D := D) (ci := 10) (v := .ref pn) (C := RX10) (T := TX10) (N := 9) hx hb hts zi10_ hown hK hP 0 rfl rfl 3 (by decide) z0_ (fun _ h9 => h9) rfl dX10_wipe_9 ?_
  refine lv_iconst (v := 0) hx hb dX10_wipe_12 (by decide) ?_
  refine va_put (D := D) (ci := 8) (v := .int 0) (ty := .int) (C := RX8) (T := TX8) (N := 7) hx hb hts zi8_ tyX8 tyX8_ok nmX8 hown hK hP hD hS 1 rfl rfl 1 (by decide) z2_ (fun _ h9 => h9) rfl (by decide +kernel) rfl rfl (Nat.le_of_ble_eq_true rfl) dX10_wipe_13 (fun H locs hP hD hS => ?_)
  have hP : va_P D vwCl [(h, .inr (10, [.ref g, .ref df, .ref im, .ref pn, .ref w, .ref pa, .int 0, .int 0, .int 0])), (pn, .inr (8, [.ref b, .int 0, .int 0, .int 0, .int 0, .int 0, .int 0]))] H := hP
  have hD : va_D A [(h, .inr (10, [.ref g, .ref df, .ref im, .ref pn, .ref w, .ref pa, .int 0, .int 0, .int 0])), (pn, .inr (8, [.ref b, .int 0, .int 0, .int 0, .int 0, .int 0, .int 0]))] := hD
  refine lv_iload_n hx hb dX10_wipe_16 rfl (lv_at hl 0 rfl) ?_
  have hP9 := hP.sub (ws' := []) [] rfl
  have hD9 := hD.sub (ws' := []) [] (by decide) rfl
  exact W.iret (v := 0) hx hb hr (fun t ht hW => ⟨⟨0, (), rfl, rfl, by rw [ht]; exact hP9, hD9⟩, hS.F ht⟩) hS.2.2 dX10_wipe_17

set_option maxHeartbeats 4000000 in
set_option maxRecDepth 100000 in
theorem tp_read (l : Launch) (D : va_G) (cy : Nat → ClassId) (h g df im pn w pa : Nat) (b : Nat) (sz : Nat)  : Met l yX10_read wsX10_read ({ frames := 3, cells := 0, slots := 0, locals := 64 }) (va_Pc [.ref h] (kPre D cy [(h, .inr (10, [.ref g, .ref df, .ref im, .ref pn, .ref w, .ref pa, .int 0, .int 0, .int 0])), (pn, .inr (8, [.ref b, .int 0, .int 0, .int 0, .int 0, .int 0, .int 0]))] sz)) (va_Qi (fun (r : Int32) (_ : Unit) => r = -10) (fun (u : Unit) t => va_P D vwCl ([]) t.heap ∧ va_D (va_A [(h, .inr (10, [.ref g, .ref df, .ref im, .ref pn, .ref w, .ref pa, .int 0, .int 0, .int 0])), (pn, .inr (8, [.ref b, .int 0, .int 0, .int 0, .int 0, .int 0, .int 0]))] sz) ([])) (va_A [(h, .inr (10, [.ref g, .ref df, .ref im, .ref pn, .ref w, .ref pa, .int 0, .int 0, .int 0])), (pn, .inr (8, [.ref b, .int 0, .int 0, .int 0, .int 0, .int 0, .int 0]))] sz)) 0 0 (va_A [(h, .inr (10, [.ref g, .ref df, .ref im, .ref pn, .ref w, .ref pa, .int 0, .int 0, .int 0])), (pn, .inr (8, [.ref b, .int 0, .int 0, .int 0, .int 0, .int 0, .int 0]))] sz) := by
  refine Met.ofW (cc := cX10_read) (maxL := 2) (ret := (some .int)) (by decide) rfl ?_
  intro p e s m args below meth c s₁ B hml hv
  obtain ⟨rfl, hsz, hP, hKA, hD0⟩ := hv
  have hx := B.exec
  have hb := B.bytes
  have hr := B.returns
  have hts := atoms_spec (ws := wsX10_read) B.pre
  have hown : s.vm.findClass RX10 = some m.cls := findClass_of_methodNamed B.named
  have hlocks := B.notSynchronized
  subst hsz
  have hK := hKA.1
  have hD := hD0.self (sz := s.heap.size)
  generalize hAe : va_A [(h, .inr (10, [.ref g, .ref df, .ref im, .ref pn, .ref w, .ref pa, .int 0, .int 0, .int 0])), (pn, .inr (8, [.ref b, .int 0, .int 0, .int 0, .int 0, .int 0, .int 0]))] s.heap.size = A at hD ⊢
  have hA : ∀ q : Nat, s.heap.size ≤ q → A q := fun q h => by rw [← hAe]; exact Or.inr h
  have hS : va_S A s.heap s.heap [] := va_S.rf
  have hP : va_P D vwCl [(h, .inr (10, [.ref g, .ref df, .ref im, .ref pn, .ref w, .ref pa, .int 0, .int 0, .int 0])), (pn, .inr (8, [.ref b, .int 0, .int 0, .int 0, .int 0, .int 0, .int 0]))] s.heap := hP
  have hl := lv_entry ([.ref h]) (n := 2) (Nat.le_of_ble_eq_true rfl)
  rw [lg_entry_eq]
  generalize (lg_sl ([.ref h]) ++ List.replicate (2 - (lg_sl ([.ref h])).length) Slot.unset).toArray = ls at hl ⊢
  have hl : lv_has ls 2 [(0, .ref h)] := hl
  have z0_ := hts (.fieldLink RX10 26 "HeardSeen" "plan" "LHeardSeen$Plan;") (by decide +kernel)
  have zi10_ : ∀ w ∈ u_ws RX10 TX10 9, w ∈ wsX10_read := by decide +kernel
  have z2_ := hts (.fieldLink RX10 16 "HeardSeen" "draft" "LHeardSeen$Garden;") (by decide +kernel)
  refine lv_aload_n hx hb dX10_read_0 rfl (lv_at hl 0 rfl) ?_
  refine va_get (D := D) (ci := 10) (v := .ref pn) (C := RX10) (T := TX10) (N := 9) hx hb hts zi10_ hown hK hP 0 rfl rfl 3 (by decide) z0_ (fun _ h9 => h9) rfl dX10_read_1 ?_
  refine lv_aload_n hx hb dX10_read_4 rfl (lv_at hl 0 rfl) ?_
  refine va_get (D := D) (ci := 10) (v := .ref df) (C := RX10) (T := TX10) (N := 9) hx hb hts zi10_ hown hK hP 0 rfl rfl 1 (by decide) z2_ (fun _ h9 => h9) rfl dX10_read_5 ?_
  refine wr_i (wr := [(h, .inr (10, [.ref g, .ref df, .ref im, .ref pn, .ref w, .ref pa, .int 0, .int 0, .int 0]))]) (va_runV (As := [.ref df]) (rest := []) ⟨hx, hb, hml, hown, hts⟩ (c0_layInto l D cy pn b df 0 0 0 0 0 _) (cwV 1 hts gX10_read_X8_layInto rfl rfl rfl (by decide +kernel) ⟨Nat.le_of_ble_eq_true rfl, Nat.le_of_ble_eq_true rfl⟩) (pV (ci := 8) (k := 0) hKA (hP.sub (ws' := [(pn, .inr (8, [.ref b, .int 0, .int 0, .int 0, .int 0, .int 0, .int 0]))]) [1] rfl) (hD.sub (ws' := [(pn, .inr (8, [.ref b, .int 0, .int 0, .int 0, .int 0, .int 0, .int 0]))]) [1] (by decide) rfl) rfl rfl) rfl rfl hl.1 rfl (lv_room (Nat.le_of_ble_eq_true rfl)) dX10_read_8 ⟨Nat.le_of_ble_eq_true rfl, Nat.le_of_ble_eq_true rfl⟩) hP hD hS hA [1] [0] rfl rfl (by decide +kernel) (by decide +kernel) (fun r1 ur1 H locs hwr1 hP hD hS => ?_)
  have hP : va_P D vwCl [(h, .inr (10, [.ref g, .ref df, .ref im, .ref pn, .ref w, .ref pa, .int 0, .int 0, .int 0]))] H := hP
  have hD : va_D A [(h, .inr (10, [.ref g, .ref df, .ref im, .ref pn, .ref w, .ref pa, .int 0, .int 0, .int 0]))] := hD
  rcases hwr1 with rfl
  · skip
    refine lv_istore_n (lv' := [(1, .int 0), (0, .ref h)]) hx hb dX10_read_11 rfl hl (by decide) rfl (fun ls hl => ?_)
    refine lv_iload_n hx hb dX10_read_12 rfl (lv_at hl 0 rfl) ?_
    refine lv_iconst (v := (-1)) hx hb dX10_read_13 (by decide) ?_
    refine lv_icmp_eq (tgt := 22) hx hb dX10_read_14 (by decide) (fun c2 => absurd c2 (by decide)) (fun c2 => ?_)
    refine lv_bipush (v := (-10)) hx hb dX10_read_17 (by decide) ?_
    refine lv_iload_n hx hb dX10_read_19 rfl (lv_at hl 0 rfl) ?_
    refine lv_isub hx hb dX10_read_20 ?_
    refine lv_topi (fun x3 ex3 => ?_)
    obtain rfl : x3 = (-10) := by rw [ex3]; decide +kernel
    have hP9 := hP.sub (ws' := []) [] rfl
    have hD9 := hD.sub (ws' := []) [] (by decide) rfl
    exact W.iret (v := (-10)) hx hb hr (fun t ht hW => ⟨⟨(-10), (), rfl, rfl, by rw [ht]; exact hP9, hD9⟩, hS.F ht⟩) hS.2.2 dX10_read_21

set_option maxHeartbeats 4000000 in
set_option maxRecDepth 100000 in
theorem tp_clear (l : Launch) (D : va_G) (cy : Nat → ClassId) (h g df im pn w pa : Nat) (k0 k1 k2 k3 k4 k5 k6 : Nat) (x y : Int32) (sz : Nat)  : Met l yX10_clear wsX10_clear ({ frames := 3, cells := 0, slots := 0, locals := 71 }) (va_Pc [.ref h, .int x, .int y] (kPre D cy [(h, .inr (10, [.ref g, .ref df, .ref im, .ref pn, .ref w, .ref pa, .int 0, .int 0, .int 0])), (g, .inr (3, [.int 6, .int 6, .int 1, .int 0, .long 0, .long 0, .int 0, .int 0, .int 0, .ref k0, .ref k1, .ref k2, .ref k3, .ref k4, .ref k5, .ref k6]))] sz)) (va_Qi (fun (r : Int32) (_ : Unit) => r = sp_clear x y) (fun (u : Unit) t => va_P D vwCl ([]) t.heap ∧ va_D (va_A [(h, .inr (10, [.ref g, .ref df, .ref im, .ref pn, .ref w, .ref pa, .int 0, .int 0, .int 0])), (g, .inr (3, [.int 6, .int 6, .int 1, .int 0, .long 0, .long 0, .int 0, .int 0, .int 0, .ref k0, .ref k1, .ref k2, .ref k3, .ref k4, .ref k5, .ref k6]))] sz) ([])) (va_A [(h, .inr (10, [.ref g, .ref df, .ref im, .ref pn, .ref w, .ref pa, .int 0, .int 0, .int 0])), (g, .inr (3, [.int 6, .int 6, .int 1, .int 0, .long 0, .long 0, .int 0, .int 0, .int 0, .ref k0, .ref k1, .ref k2, .ref k3, .ref k4, .ref k5, .ref k6]))] sz)) 0 0 (va_A [(h, .inr (10, [.ref g, .ref df, .ref im, .ref pn, .ref w, .ref pa, .int 0, .int 0, .int 0])), (g, .inr (3, [.int 6, .int 6, .int 1, .int 0, .long 0, .long 0, .int 0, .int 0, .int 0, .ref k0, .ref k1, .ref k2, .ref k3, .ref k4, .ref k5, .ref k6]))] sz) := by
  refine Met.ofW (cc := cX10_clear) (maxL := 3) (ret := (some .int)) (by decide) rfl ?_
  intro p e s m args below meth c s₁ B hml hv
  obtain ⟨rfl, hsz, hP, hKA, hD0⟩ := hv
  have hx := B.exec
  have hb := B.bytes
  have hr := B.returns
  have hts := atoms_spec (ws := wsX10_clear) B.pre
  have hown : s.vm.findClass RX10 = some m.cls := findClass_of_methodNamed B.named
  have hlocks := B.notSynchronized
  subst hsz
  have hK := hKA.1
  have hD := hD0.self (sz := s.heap.size)
  generalize hAe : va_A [(h, .inr (10, [.ref g, .ref df, .ref im, .ref pn, .ref w, .ref pa, .int 0, .int 0, .int 0])), (g, .inr (3, [.int 6, .int 6, .int 1, .int 0, .long 0, .long 0, .int 0, .int 0, .int 0, .ref k0, .ref k1, .ref k2, .ref k3, .ref k4, .ref k5, .ref k6]))] s.heap.size = A at hD ⊢
  have hA : ∀ q : Nat, s.heap.size ≤ q → A q := fun q h => by rw [← hAe]; exact Or.inr h
  have hS : va_S A s.heap s.heap [] := va_S.rf
  have hP : va_P D vwCl [(h, .inr (10, [.ref g, .ref df, .ref im, .ref pn, .ref w, .ref pa, .int 0, .int 0, .int 0])), (g, .inr (3, [.int 6, .int 6, .int 1, .int 0, .long 0, .long 0, .int 0, .int 0, .int 0, .ref k0, .ref k1, .ref k2, .ref k3, .ref k4, .ref k5, .ref k6]))] s.heap := hP
  have hl := lv_entry ([.ref h, .int x, .int y]) (n := 3) (Nat.le_of_ble_eq_true rfl)
  rw [lg_entry_eq]
  generalize (lg_sl ([.ref h, .int x, .int y]) ++ List.replicate (3 - (lg_sl ([.ref h, .int x, .int y])).length) Slot.unset).toArray = ls at hl ⊢
  have hl : lv_has ls 3 [(0, .ref h), (1, .int x), (2, .int y)] := hl
  have z0_ := hts (.fieldLink RX10 10 "HeardSeen" "now" "LHeardSeen$Garden;") (by decide +kernel)
  have zi10_ : ∀ w ∈ u_ws RX10 TX10 9, w ∈ wsX10_clear := by decide +kernel
  refine lv_aload_n hx hb dX10_clear_0 rfl (lv_at hl 0 rfl) ?_
  refine va_get (D := D) (ci := 10) (v := .ref g) (C := RX10) (T := TX10) (N := 9) hx hb hts zi10_ hown hK hP 0 rfl rfl 0 (by decide) z0_ (fun _ h9 => h9) rfl dX10_clear_1 ?_
  refine lv_iload_n hx hb dX10_clear_4 rfl (lv_at hl 1 rfl) ?_
  refine rd_i (va_runV (As := [.int x]) (rest := []) ⟨hx, hb, hml, hown, hts⟩ (c_X3_isSquare l D cy g 6 6 1 0 0 0 0 0 0 k0 k1 k2 k3 k4 k5 k6 x _) (cwV 1 hts gX10_clear_X3_isSquare rfl rfl rfl (by decide +kernel) ⟨Nat.le_of_ble_eq_true rfl, Nat.le_of_ble_eq_true rfl⟩) (pV (ci := 3) (k := 0) hKA (hP.sub (ws' := [(g, .inr (3, [.int 6, .int 6, .int 1, .int 0, .long 0, .long 0, .int 0, .int 0, .int 0, .ref k0, .ref k1, .ref k2, .ref k3, .ref k4, .ref k5, .ref k6]))]) [1] rfl) (hD.sub (ws' := [(g, .inr (3, [.int 6, .int 6, .int 1, .int 0, .long 0, .long 0, .int 0, .int 0, .int 0, .ref k0, .ref k1, .ref k2, .ref k3, .ref k4, .ref k5, .ref k6]))]) [1] (by decide) rfl) rfl rfl) rfl rfl hl.1 rfl (lv_room (Nat.le_of_ble_eq_true rfl)) dX10_clear_5 ⟨Nat.le_of_ble_eq_true rfl, Nat.le_of_ble_eq_true rfl⟩) hP hS hA (fun r1 H locs hwr1 hP hS => ?_)
  rcases hwr1 with ⟨rfl, har1, hbr1⟩ | ⟨rfl, hnr1⟩
  · skip
    have hbr1 : x < 36 := hbr1
    obtain ⟨jx, hjx, rfl⟩ := z_nn (n := 36) (by decide) har1 hbr1
    refine lv_if_eq (tgt := 22) hx hb dX10_clear_8 (by decide) (fun c2 => absurd c2 (by decide)) (fun c2 => ?_)
    refine lv_aload_n hx hb dX10_clear_11 rfl (lv_at hl 0 rfl) ?_
    refine va_get (D := D) (ci := 10) (v := .ref g) (C := RX10) (T := TX10) (N := 9) hx hb hts zi10_ hown hK hP 0 rfl rfl 0 (by decide) z0_ (fun _ h9 => h9) rfl dX10_clear_12 ?_
    refine lv_iload_n hx hb dX10_clear_15 rfl (lv_at hl 2 rfl) ?_
    refine rd_i (va_runV (As := [.int y]) (rest := []) ⟨hx, hb, hml, hown, hts⟩ (c_X3_isSquare l D cy g 6 6 1 0 0 0 0 0 0 k0 k1 k2 k3 k4 k5 k6 y _) (cwV 1 hts gX10_clear_X3_isSquare rfl rfl rfl (by decide +kernel) ⟨Nat.le_of_ble_eq_true rfl, Nat.le_of_ble_eq_true rfl⟩) (pV (ci := 3) (k := 0) hKA (hP.sub (ws' := [(g, .inr (3, [.int 6, .int 6, .int 1, .int 0, .long 0, .long 0, .int 0, .int 0, .int 0, .ref k0, .ref k1, .ref k2, .ref k3, .ref k4, .ref k5, .ref k6]))]) [1] rfl) (hD.sub (ws' := [(g, .inr (3, [.int 6, .int 6, .int 1, .int 0, .long 0, .long 0, .int 0, .int 0, .int 0, .ref k0, .ref k1, .ref k2, .ref k3, .ref k4, .ref k5, .ref k6]))]) [1] (by decide) rfl) rfl rfl) rfl rfl hl.1 rfl (lv_room (Nat.le_of_ble_eq_true rfl)) dX10_clear_16 ⟨Nat.le_of_ble_eq_true rfl, Nat.le_of_ble_eq_true rfl⟩) hP hS hA (fun r3 H locs hwr3 hP hS => ?_)
    rcases hwr3 with ⟨rfl, har3, hbr3⟩ | ⟨rfl, hnr3⟩
    · skip
      have hbr3 : y < 36 := hbr3
      obtain ⟨jy, hjy, rfl⟩ := z_nn (n := 36) (by decide) har3 hbr3
      refine lv_if_ne (tgt := 29) hx hb dX10_clear_19 (by decide) (fun c4 => ?_) (fun c4 => absurd c4 (by decide))
      refine lv_aload_n hx hb dX10_clear_29 rfl (lv_at hl 0 rfl) ?_
      refine va_get (D := D) (ci := 10) (v := .ref g) (C := RX10) (T := TX10) (N := 9) hx hb hts zi10_ hown hK hP 0 rfl rfl 0 (by decide) z0_ (fun _ h9 => h9) rfl dX10_clear_30 ?_
      refine lv_iload_n hx hb dX10_clear_33 rfl (lv_at hl 1 rfl) ?_
      refine lv_iload_n hx hb dX10_clear_34 rfl (lv_at hl 2 rfl) ?_
      refine rd_i (va_runV (As := [.int (nI jx), .int (nI jy)]) (rest := []) ⟨hx, hb, hml, hown, hts⟩ (c0_isClear l D cy g 6 1 0 0 0 0 0 k0 k1 k2 k3 k4 k5 k6 jx jy _ (by omega) (by omega)) (cwV 2 hts gX10_clear_X3_isClear rfl rfl rfl (by decide +kernel) ⟨Nat.le_of_ble_eq_true rfl, Nat.le_of_ble_eq_true rfl⟩) (pV (ci := 3) (k := 0) hKA (hP.sub (ws' := [(g, .inr (3, [.int 6, .int 6, .int 1, .int 0, .long 0, .long 0, .int 0, .int 0, .int 0, .ref k0, .ref k1, .ref k2, .ref k3, .ref k4, .ref k5, .ref k6]))]) [1] rfl) (hD.sub (ws' := [(g, .inr (3, [.int 6, .int 6, .int 1, .int 0, .long 0, .long 0, .int 0, .int 0, .int 0, .ref k0, .ref k1, .ref k2, .ref k3, .ref k4, .ref k5, .ref k6]))]) [1] (by decide) rfl) rfl rfl) rfl rfl hl.1 rfl (lv_room (Nat.le_of_ble_eq_true rfl)) dX10_clear_35 ⟨Nat.le_of_ble_eq_true rfl, Nat.le_of_ble_eq_true rfl⟩) hP hS hA (fun r5 H locs hwr5 hP hS => ?_)
      rcases hwr5 with rfl
      · skip
        refine lv_if_eq (tgt := 45) hx hb dX10_clear_38 (by decide) (fun c6 => absurd c6 (by decide)) (fun c6 => ?_)
        refine lv_iconst (v := 1) hx hb dX10_clear_41 (by decide) ?_
        refine lv_goto (tgt := 46) hx hb dX10_clear_42 (by decide) ?_
        have hP9 := hP.sub (ws' := []) [] rfl
        have hD9 := hD.sub (ws' := []) [] (by decide) rfl
        exact W.iret (v := 1) hx hb hr (fun t ht hW => ⟨⟨1, (), rfl, (by simp [sp_clear, har1, hbr1, har3, hbr3]), by rw [ht]; exact hP9, hD9⟩, hS.F ht⟩) hS.2.2 dX10_clear_46
    · skip
      have hnr3 : ¬ (0 ≤ y ∧ y < 36) := hnr3
      refine lv_if_ne (tgt := 29) hx hb dX10_clear_19 (by decide) (fun c7 => absurd c7 (by decide)) (fun c7 => ?_)
      refine lv_aload_n hx hb dX10_clear_22 rfl (lv_at hl 0 rfl) ?_
      refine lv_bipush (v := (-2)) hx hb dX10_clear_23 (by decide) ?_
      refine wr_i (wr := [(g, .inr (3, [.int 6, .int 6, .int 1, .int 0, .long 0, .long 0, .int 0, .int 0, .int 0, .ref k0, .ref k1, .ref k2, .ref k3, .ref k4, .ref k5, .ref k6]))]) (va_runV (As := [.int (-2)]) (rest := []) ⟨hx, hb, hml, hown, hts⟩ (c_X10_refuseBad l D cy h g df im pn w pa 0 0 0 (-2) _) (cwV 1 hts gX10_clear_X10_refuseBad rfl rfl rfl (by decide +kernel) ⟨Nat.le_of_ble_eq_true rfl, Nat.le_of_ble_eq_true rfl⟩) (pV (ci := 10) (k := 0) hKA (hP.sub (ws' := [(h, .inr (10, [.ref g, .ref df, .ref im, .ref pn, .ref w, .ref pa, .int 0, .int 0, .int 0]))]) [0] rfl) (hD.sub (ws' := [(h, .inr (10, [.ref g, .ref df, .ref im, .ref pn, .ref w, .ref pa, .int 0, .int 0, .int 0]))]) [0] (by decide) rfl) rfl rfl) rfl rfl hl.1 rfl (lv_room (Nat.le_of_ble_eq_true rfl)) dX10_clear_25 ⟨Nat.le_of_ble_eq_true rfl, Nat.le_of_ble_eq_true rfl⟩) hP hD hS hA [0] [1] rfl rfl (by decide +kernel) (by decide +kernel) (fun r8 ur8 H locs hwr8 hP hD hS => ?_)
      have hP : va_P D vwCl [(g, .inr (3, [.int 6, .int 6, .int 1, .int 0, .long 0, .long 0, .int 0, .int 0, .int 0, .ref k0, .ref k1, .ref k2, .ref k3, .ref k4, .ref k5, .ref k6])), (h, .inr (10, [.ref g, .ref df, .ref im, .ref pn, .ref w, .ref pa, .int (0 + 1), .int 0, .int 0]))] H := hP
      have hD : va_D A [(g, .inr (3, [.int 6, .int 6, .int 1, .int 0, .long 0, .long 0, .int 0, .int 0, .int 0, .ref k0, .ref k1, .ref k2, .ref k3, .ref k4, .ref k5, .ref k6])), (h, .inr (10, [.ref g, .ref df, .ref im, .ref pn, .ref w, .ref pa, .int (0 + 1), .int 0, .int 0]))] := hD
      subst hwr8
      have hP9 := hP.sub (ws' := []) [] rfl
      have hD9 := hD.sub (ws' := []) [] (by decide) rfl
      exact W.iret (v := (-2)) hx hb hr (fun t ht hW => ⟨⟨(-2), (), rfl, (by simp [sp_clear, har1, hbr1, hnr3]), by rw [ht]; exact hP9, hD9⟩, hS.F ht⟩) hS.2.2 dX10_clear_28
  · skip
    have hnr1 : ¬ (0 ≤ x ∧ x < 36) := hnr1
    refine lv_if_eq (tgt := 22) hx hb dX10_clear_8 (by decide) (fun c9 => ?_) (fun c9 => absurd c9 (by decide))
    refine lv_aload_n hx hb dX10_clear_22 rfl (lv_at hl 0 rfl) ?_
    refine lv_bipush (v := (-2)) hx hb dX10_clear_23 (by decide) ?_
    refine wr_i (wr := [(g, .inr (3, [.int 6, .int 6, .int 1, .int 0, .long 0, .long 0, .int 0, .int 0, .int 0, .ref k0, .ref k1, .ref k2, .ref k3, .ref k4, .ref k5, .ref k6]))]) (va_runV (As := [.int (-2)]) (rest := []) ⟨hx, hb, hml, hown, hts⟩ (c_X10_refuseBad l D cy h g df im pn w pa 0 0 0 (-2) _) (cwV 1 hts gX10_clear_X10_refuseBad rfl rfl rfl (by decide +kernel) ⟨Nat.le_of_ble_eq_true rfl, Nat.le_of_ble_eq_true rfl⟩) (pV (ci := 10) (k := 0) hKA (hP.sub (ws' := [(h, .inr (10, [.ref g, .ref df, .ref im, .ref pn, .ref w, .ref pa, .int 0, .int 0, .int 0]))]) [0] rfl) (hD.sub (ws' := [(h, .inr (10, [.ref g, .ref df, .ref im, .ref pn, .ref w, .ref pa, .int 0, .int 0, .int 0]))]) [0] (by decide) rfl) rfl rfl) rfl rfl hl.1 rfl (lv_room (Nat.le_of_ble_eq_true rfl)) dX10_clear_25 ⟨Nat.le_of_ble_eq_true rfl, Nat.le_of_ble_eq_true rfl⟩) hP hD hS hA [0] [1] rfl rfl (by decide +kernel) (by decide +kernel) (fun r10 ur10 H locs hwr10 hP hD hS => ?_)
    have hP : va_P D vwCl [(g, .inr (3, [.int 6, .int 6, .int 1, .int 0, .long 0, .long 0, .int 0, .int 0, .int 0, .ref k0, .ref k1, .ref k2, .ref k3, .ref k4, .ref k5, .ref k6])), (h, .inr (10, [.ref g, .ref df, .ref im, .ref pn, .ref w, .ref pa, .int (0 + 1), .int 0, .int 0]))] H := hP
    have hD : va_D A [(g, .inr (3, [.int 6, .int 6, .int 1, .int 0, .long 0, .long 0, .int 0, .int 0, .int 0, .ref k0, .ref k1, .ref k2, .ref k3, .ref k4, .ref k5, .ref k6])), (h, .inr (10, [.ref g, .ref df, .ref im, .ref pn, .ref w, .ref pa, .int (0 + 1), .int 0, .int 0]))] := hD
    subst hwr10
    have hP9 := hP.sub (ws' := []) [] rfl
    have hD9 := hD.sub (ws' := []) [] (by decide) rfl
    exact W.iret (v := (-2)) hx hb hr (fun t ht hW => ⟨⟨(-2), (), rfl, (by simp [sp_clear, hnr1]), by rw [ht]; exact hP9, hD9⟩, hS.F ht⟩) hS.2.2 dX10_clear_28

set_option maxHeartbeats 4000000 in
set_option maxRecDepth 100000 in
theorem tp_knows (l : Launch) (D : va_G) (cy : Nat → ClassId) (h g df im pn w pa : Nat) (k0 k1 k2 k3 k4 k5 k6 : Nat) (x y z : Int32) (sz : Nat)  : Met l yX10_knows wsX10_knows ({ frames := 2, cells := 0, slots := 0, locals := 43 }) (va_Pc [.ref h, .int x, .int y, .int z] (kPre D cy [(h, .inr (10, [.ref g, .ref df, .ref im, .ref pn, .ref w, .ref pa, .int 0, .int 0, .int 0])), (g, .inr (3, [.int 6, .int 6, .int 1, .int 0, .long 0, .long 0, .int 0, .int 0, .int 0, .ref k0, .ref k1, .ref k2, .ref k3, .ref k4, .ref k5, .ref k6]))] sz)) (va_Qi (fun (r : Int32) (_ : Unit) => r = -2) (fun (u : Unit) t => va_P D vwCl ([]) t.heap ∧ va_D (va_A [(h, .inr (10, [.ref g, .ref df, .ref im, .ref pn, .ref w, .ref pa, .int 0, .int 0, .int 0])), (g, .inr (3, [.int 6, .int 6, .int 1, .int 0, .long 0, .long 0, .int 0, .int 0, .int 0, .ref k0, .ref k1, .ref k2, .ref k3, .ref k4, .ref k5, .ref k6]))] sz) ([])) (va_A [(h, .inr (10, [.ref g, .ref df, .ref im, .ref pn, .ref w, .ref pa, .int 0, .int 0, .int 0])), (g, .inr (3, [.int 6, .int 6, .int 1, .int 0, .long 0, .long 0, .int 0, .int 0, .int 0, .ref k0, .ref k1, .ref k2, .ref k3, .ref k4, .ref k5, .ref k6]))] sz)) 0 0 (va_A [(h, .inr (10, [.ref g, .ref df, .ref im, .ref pn, .ref w, .ref pa, .int 0, .int 0, .int 0])), (g, .inr (3, [.int 6, .int 6, .int 1, .int 0, .long 0, .long 0, .int 0, .int 0, .int 0, .ref k0, .ref k1, .ref k2, .ref k3, .ref k4, .ref k5, .ref k6]))] sz) := by
  refine Met.ofW (cc := cX10_knows) (maxL := 5) (ret := (some .int)) (by decide) rfl ?_
  intro p e s m args below meth c s₁ B hml hv
  obtain ⟨rfl, hsz, hP, hKA, hD0⟩ := hv
  have hx := B.exec
  have hb := B.bytes
  have hr := B.returns
  have hts := atoms_spec (ws := wsX10_knows) B.pre
  have hown : s.vm.findClass RX10 = some m.cls := findClass_of_methodNamed B.named
  have hlocks := B.notSynchronized
  subst hsz
  have hK := hKA.1
  have hD := hD0.self (sz := s.heap.size)
  generalize hAe : va_A [(h, .inr (10, [.ref g, .ref df, .ref im, .ref pn, .ref w, .ref pa, .int 0, .int 0, .int 0])), (g, .inr (3, [.int 6, .int 6, .int 1, .int 0, .long 0, .long 0, .int 0, .int 0, .int 0, .ref k0, .ref k1, .ref k2, .ref k3, .ref k4, .ref k5, .ref k6]))] s.heap.size = A at hD ⊢
  have hA : ∀ q : Nat, s.heap.size ≤ q → A q := fun q h => by rw [← hAe]; exact Or.inr h
  have hS : va_S A s.heap s.heap [] := va_S.rf
  have hP : va_P D vwCl [(h, .inr (10, [.ref g, .ref df, .ref im, .ref pn, .ref w, .ref pa, .int 0, .int 0, .int 0])), (g, .inr (3, [.int 6, .int 6, .int 1, .int 0, .long 0, .long 0, .int 0, .int 0, .int 0, .ref k0, .ref k1, .ref k2, .ref k3, .ref k4, .ref k5, .ref k6]))] s.heap := hP
  have hl := lv_entry ([.ref h, .int x, .int y, .int z]) (n := 5) (Nat.le_of_ble_eq_true rfl)
  rw [lg_entry_eq]
  generalize (lg_sl ([.ref h, .int x, .int y, .int z]) ++ List.replicate (5 - (lg_sl ([.ref h, .int x, .int y, .int z])).length) Slot.unset).toArray = ls at hl ⊢
  have hl : lv_has ls 5 [(0, .ref h), (1, .int x), (2, .int y), (3, .int z)] := hl
  refine lv_aload_n hx hb dX10_knows_0 rfl (lv_at hl 0 rfl) ?_
  refine lv_iload_n hx hb dX10_knows_1 rfl (lv_at hl 1 rfl) ?_
  refine lv_iload_n hx hb dX10_knows_2 rfl (lv_at hl 2 rfl) ?_
  refine rd_i (va_runV (As := [.int x, .int y]) (rest := []) ⟨hx, hb, hml, hown, hts⟩ (c0_isPairOfTwo l D cy h g df im pn w pa 0 0 0 k0 k1 k2 k3 k4 k5 k6 x y _) (cwV 2 hts gX10_knows_X10_isPairOfTwo rfl rfl rfl (by decide +kernel) ⟨Nat.le_of_ble_eq_true rfl, Nat.le_of_ble_eq_true rfl⟩) (pV (ci := 10) (k := 0) hKA (hP.sub (ws' := [(h, .inr (10, [.ref g, .ref df, .ref im, .ref pn, .ref w, .ref pa, .int 0, .int 0, .int 0])), (g, .inr (3, [.int 6, .int 6, .int 1, .int 0, .long 0, .long 0, .int 0, .int 0, .int 0, .ref k0, .ref k1, .ref k2, .ref k3, .ref k4, .ref k5, .ref k6]))]) [0, 1] rfl) (hD.sub (ws' := [(h, .inr (10, [.ref g, .ref df, .ref im, .ref pn, .ref w, .ref pa, .int 0, .int 0, .int 0])), (g, .inr (3, [.int 6, .int 6, .int 1, .int 0, .long 0, .long 0, .int 0, .int 0, .int 0, .ref k0, .ref k1, .ref k2, .ref k3, .ref k4, .ref k5, .ref k6]))]) [0, 1] (by decide) rfl) rfl rfl) rfl rfl hl.1 rfl (lv_room (Nat.le_of_ble_eq_true rfl)) dX10_knows_3 ⟨Nat.le_of_ble_eq_true rfl, Nat.le_of_ble_eq_true rfl⟩) hP hS hA (fun r1 H locs hwr1 hP hS => ?_)
  rcases hwr1 with rfl
  · skip
    refine lv_if_eq (tgt := 18) hx hb dX10_knows_6 (by decide) (fun c2 => ?_) (fun c2 => absurd c2 (by decide))
    refine lv_aload_n hx hb dX10_knows_18 rfl (lv_at hl 0 rfl) ?_
    refine lv_bipush (v := (-2)) hx hb dX10_knows_19 (by decide) ?_
    refine wr_i (wr := [(g, .inr (3, [.int 6, .int 6, .int 1, .int 0, .long 0, .long 0, .int 0, .int 0, .int 0, .ref k0, .ref k1, .ref k2, .ref k3, .ref k4, .ref k5, .ref k6]))]) (va_runV (As := [.int (-2)]) (rest := []) ⟨hx, hb, hml, hown, hts⟩ (c_X10_refuseBad l D cy h g df im pn w pa 0 0 0 (-2) _) (cwV 1 hts gX10_knows_X10_refuseBad rfl rfl rfl (by decide +kernel) ⟨Nat.le_of_ble_eq_true rfl, Nat.le_of_ble_eq_true rfl⟩) (pV (ci := 10) (k := 0) hKA (hP.sub (ws' := [(h, .inr (10, [.ref g, .ref df, .ref im, .ref pn, .ref w, .ref pa, .int 0, .int 0, .int 0]))]) [0] rfl) (hD.sub (ws' := [(h, .inr (10, [.ref g, .ref df, .ref im, .ref pn, .ref w, .ref pa, .int 0, .int 0, .int 0]))]) [0] (by decide) rfl) rfl rfl) rfl rfl hl.1 rfl (lv_room (Nat.le_of_ble_eq_true rfl)) dX10_knows_21 ⟨Nat.le_of_ble_eq_true rfl, Nat.le_of_ble_eq_true rfl⟩) hP hD hS hA [0] [1] rfl rfl (by decide +kernel) (by decide +kernel) (fun r3 ur3 H locs hwr3 hP hD hS => ?_)
    have hP : va_P D vwCl [(g, .inr (3, [.int 6, .int 6, .int 1, .int 0, .long 0, .long 0, .int 0, .int 0, .int 0, .ref k0, .ref k1, .ref k2, .ref k3, .ref k4, .ref k5, .ref k6])), (h, .inr (10, [.ref g, .ref df, .ref im, .ref pn, .ref w, .ref pa, .int (0 + 1), .int 0, .int 0]))] H := hP
    have hD : va_D A [(g, .inr (3, [.int 6, .int 6, .int 1, .int 0, .long 0, .long 0, .int 0, .int 0, .int 0, .ref k0, .ref k1, .ref k2, .ref k3, .ref k4, .ref k5, .ref k6])), (h, .inr (10, [.ref g, .ref df, .ref im, .ref pn, .ref w, .ref pa, .int (0 + 1), .int 0, .int 0]))] := hD
    subst hwr3
    have hP9 := hP.sub (ws' := []) [] rfl
    have hD9 := hD.sub (ws' := []) [] (by decide) rfl
    exact W.iret (v := (-2)) hx hb hr (fun t ht hW => ⟨⟨(-2), (), rfl, rfl, by rw [ht]; exact hP9, hD9⟩, hS.F ht⟩) hS.2.2 dX10_knows_24

set_option maxHeartbeats 4000000 in
set_option maxRecDepth 100000 in
theorem tp_where (l : Launch) (D : va_G) (cy : Nat → ClassId) (h g df im pn w pa : Nat) (k0 k1 k2 k3 k4 k5 k6 : Nat) (x : Int32) (sz : Nat)  : Met l yX10_where wsX10_where ({ frames := 1, cells := 0, slots := 0, locals := 21 }) (va_Pc [.ref h, .int x] (kPre D cy [(h, .inr (10, [.ref g, .ref df, .ref im, .ref pn, .ref w, .ref pa, .int 0, .int 0, .int 0])), (g, .inr (3, [.int 6, .int 6, .int 1, .int 0, .long 0, .long 0, .int 0, .int 0, .int 0, .ref k0, .ref k1, .ref k2, .ref k3, .ref k4, .ref k5, .ref k6]))] sz)) (va_Qi (fun (r : Int32) (_ : Unit) => r = -2) (fun (u : Unit) t => va_P D vwCl ([]) t.heap ∧ va_D (va_A [(h, .inr (10, [.ref g, .ref df, .ref im, .ref pn, .ref w, .ref pa, .int 0, .int 0, .int 0])), (g, .inr (3, [.int 6, .int 6, .int 1, .int 0, .long 0, .long 0, .int 0, .int 0, .int 0, .ref k0, .ref k1, .ref k2, .ref k3, .ref k4, .ref k5, .ref k6]))] sz) ([])) (va_A [(h, .inr (10, [.ref g, .ref df, .ref im, .ref pn, .ref w, .ref pa, .int 0, .int 0, .int 0])), (g, .inr (3, [.int 6, .int 6, .int 1, .int 0, .long 0, .long 0, .int 0, .int 0, .int 0, .ref k0, .ref k1, .ref k2, .ref k3, .ref k4, .ref k5, .ref k6]))] sz)) 0 0 (va_A [(h, .inr (10, [.ref g, .ref df, .ref im, .ref pn, .ref w, .ref pa, .int 0, .int 0, .int 0])), (g, .inr (3, [.int 6, .int 6, .int 1, .int 0, .long 0, .long 0, .int 0, .int 0, .int 0, .ref k0, .ref k1, .ref k2, .ref k3, .ref k4, .ref k5, .ref k6]))] sz) := by
  refine Met.ofW (cc := cX10_where) (maxL := 2) (ret := (some .int)) (by decide) rfl ?_
  intro p e s m args below meth c s₁ B hml hv
  obtain ⟨rfl, hsz, hP, hKA, hD0⟩ := hv
  have hx := B.exec
  have hb := B.bytes
  have hr := B.returns
  have hts := atoms_spec (ws := wsX10_where) B.pre
  have hown : s.vm.findClass RX10 = some m.cls := findClass_of_methodNamed B.named
  have hlocks := B.notSynchronized
  subst hsz
  have hK := hKA.1
  have hD := hD0.self (sz := s.heap.size)
  generalize hAe : va_A [(h, .inr (10, [.ref g, .ref df, .ref im, .ref pn, .ref w, .ref pa, .int 0, .int 0, .int 0])), (g, .inr (3, [.int 6, .int 6, .int 1, .int 0, .long 0, .long 0, .int 0, .int 0, .int 0, .ref k0, .ref k1, .ref k2, .ref k3, .ref k4, .ref k5, .ref k6]))] s.heap.size = A at hD ⊢
  have hA : ∀ q : Nat, s.heap.size ≤ q → A q := fun q h => by rw [← hAe]; exact Or.inr h
  have hS : va_S A s.heap s.heap [] := va_S.rf
  have hP : va_P D vwCl [(h, .inr (10, [.ref g, .ref df, .ref im, .ref pn, .ref w, .ref pa, .int 0, .int 0, .int 0])), (g, .inr (3, [.int 6, .int 6, .int 1, .int 0, .long 0, .long 0, .int 0, .int 0, .int 0, .ref k0, .ref k1, .ref k2, .ref k3, .ref k4, .ref k5, .ref k6]))] s.heap := hP
  have hl := lv_entry ([.ref h, .int x]) (n := 2) (Nat.le_of_ble_eq_true rfl)
  rw [lg_entry_eq]
  generalize (lg_sl ([.ref h, .int x]) ++ List.replicate (2 - (lg_sl ([.ref h, .int x])).length) Slot.unset).toArray = ls at hl ⊢
  have hl : lv_has ls 2 [(0, .ref h), (1, .int x)] := hl
  have z0_ := hts (.fieldLink RX10 10 "HeardSeen" "now" "LHeardSeen$Garden;") (by decide +kernel)
  have zi10_ : ∀ w ∈ u_ws RX10 TX10 9, w ∈ wsX10_where := by decide +kernel
  refine lv_aload_n hx hb dX10_where_0 rfl (lv_at hl 0 rfl) ?_
  refine va_get (D := D) (ci := 10) (v := .ref g) (C := RX10) (T := TX10) (N := 9) hx hb hts zi10_ hown hK hP 0 rfl rfl 0 (by decide) z0_ (fun _ h9 => h9) rfl dX10_where_1 ?_
  refine lv_iload_n hx hb dX10_where_4 rfl (lv_at hl 1 rfl) ?_
  refine rd_i (va_runV (As := [.int x]) (rest := []) ⟨hx, hb, hml, hown, hts⟩ (c_X3_isPerson l D cy g 6 6 1 0 0 0 0 0 0 k0 k1 k2 k3 k4 k5 k6 x _) (cwV 1 hts gX10_where_X3_isPerson rfl rfl rfl (by decide +kernel) ⟨Nat.le_of_ble_eq_true rfl, Nat.le_of_ble_eq_true rfl⟩) (pV (ci := 3) (k := 0) hKA (hP.sub (ws' := [(g, .inr (3, [.int 6, .int 6, .int 1, .int 0, .long 0, .long 0, .int 0, .int 0, .int 0, .ref k0, .ref k1, .ref k2, .ref k3, .ref k4, .ref k5, .ref k6]))]) [1] rfl) (hD.sub (ws' := [(g, .inr (3, [.int 6, .int 6, .int 1, .int 0, .long 0, .long 0, .int 0, .int 0, .int 0, .ref k0, .ref k1, .ref k2, .ref k3, .ref k4, .ref k5, .ref k6]))]) [1] (by decide) rfl) rfl rfl) rfl rfl hl.1 rfl (lv_room (Nat.le_of_ble_eq_true rfl)) dX10_where_5 ⟨Nat.le_of_ble_eq_true rfl, Nat.le_of_ble_eq_true rfl⟩) hP hS hA (fun r1 H locs hwr1 hP hS => ?_)
  rcases hwr1 with ⟨rfl, har1, hbr1, hcr1⟩ | ⟨rfl, hnr1⟩
  · exact absurd har1 (Int32.not_le.mpr hbr1)
  · skip
    refine lv_if_eq (tgt := 22) hx hb dX10_where_8 (by decide) (fun c2 => ?_) (fun c2 => absurd c2 (by decide))
    refine lv_aload_n hx hb dX10_where_22 rfl (lv_at hl 0 rfl) ?_
    refine lv_bipush (v := (-2)) hx hb dX10_where_23 (by decide) ?_
    refine wr_i (wr := [(g, .inr (3, [.int 6, .int 6, .int 1, .int 0, .long 0, .long 0, .int 0, .int 0, .int 0, .ref k0, .ref k1, .ref k2, .ref k3, .ref k4, .ref k5, .ref k6]))]) (va_runV (As := [.int (-2)]) (rest := []) ⟨hx, hb, hml, hown, hts⟩ (c_X10_refuseBad l D cy h g df im pn w pa 0 0 0 (-2) _) (cwV 1 hts gX10_where_X10_refuseBad rfl rfl rfl (by decide +kernel) ⟨Nat.le_of_ble_eq_true rfl, Nat.le_of_ble_eq_true rfl⟩) (pV (ci := 10) (k := 0) hKA (hP.sub (ws' := [(h, .inr (10, [.ref g, .ref df, .ref im, .ref pn, .ref w, .ref pa, .int 0, .int 0, .int 0]))]) [0] rfl) (hD.sub (ws' := [(h, .inr (10, [.ref g, .ref df, .ref im, .ref pn, .ref w, .ref pa, .int 0, .int 0, .int 0]))]) [0] (by decide) rfl) rfl rfl) rfl rfl hl.1 rfl (lv_room (Nat.le_of_ble_eq_true rfl)) dX10_where_25 ⟨Nat.le_of_ble_eq_true rfl, Nat.le_of_ble_eq_true rfl⟩) hP hD hS hA [0] [1] rfl rfl (by decide +kernel) (by decide +kernel) (fun r3 ur3 H locs hwr3 hP hD hS => ?_)
    have hP : va_P D vwCl [(g, .inr (3, [.int 6, .int 6, .int 1, .int 0, .long 0, .long 0, .int 0, .int 0, .int 0, .ref k0, .ref k1, .ref k2, .ref k3, .ref k4, .ref k5, .ref k6])), (h, .inr (10, [.ref g, .ref df, .ref im, .ref pn, .ref w, .ref pa, .int (0 + 1), .int 0, .int 0]))] H := hP
    have hD : va_D A [(g, .inr (3, [.int 6, .int 6, .int 1, .int 0, .long 0, .long 0, .int 0, .int 0, .int 0, .ref k0, .ref k1, .ref k2, .ref k3, .ref k4, .ref k5, .ref k6])), (h, .inr (10, [.ref g, .ref df, .ref im, .ref pn, .ref w, .ref pa, .int (0 + 1), .int 0, .int 0]))] := hD
    subst hwr3
    have hP9 := hP.sub (ws' := []) [] rfl
    have hD9 := hD.sub (ws' := []) [] (by decide) rfl
    exact W.iret (v := (-2)) hx hb hr (fun t ht hW => ⟨⟨(-2), (), rfl, rfl, by rw [ht]; exact hP9, hD9⟩, hS.F ht⟩) hS.2.2 dX10_where_28

set_option maxHeartbeats 4000000 in
set_option maxRecDepth 100000 in
theorem tp_may (l : Launch) (D : va_G) (cy : Nat → ClassId) (h g df im pn w pa : Nat) (a0 a1 a2 a3 a4 a5 : Nat) (k0 k1 k2 k3 k4 k5 k6 : Nat) (sz : Nat)  : Met l yX10_may wsX10_may ({ frames := 4, cells := 0, slots := 0, locals := 90 }) (va_Pc [.ref h] (kPre D cy [(h, .inr (10, [.ref g, .ref df, .ref im, .ref pn, .ref w, .ref pa, .int 0, .int 0, .int 0])), (g, .inr (3, [.int 6, .int 6, .int 1, .int 0, .long 0, .long 0, .int 0, .int 0, .int 0, .ref k0, .ref k1, .ref k2, .ref k3, .ref k4, .ref k5, .ref k6])), (w, .inr (4, [.ref g, .ref a0, .ref a1, .ref a2, .ref a3, .ref a4, .ref a5, .int 0, .long 0]))] sz)) (va_Qi (fun (r : Int32) (_ : Unit) => r = 0) (fun (u : Unit) t => va_P D vwCl ([]) t.heap ∧ va_D (va_A [(h, .inr (10, [.ref g, .ref df, .ref im, .ref pn, .ref w, .ref pa, .int 0, .int 0, .int 0])), (g, .inr (3, [.int 6, .int 6, .int 1, .int 0, .long 0, .long 0, .int 0, .int 0, .int 0, .ref k0, .ref k1, .ref k2, .ref k3, .ref k4, .ref k5, .ref k6])), (w, .inr (4, [.ref g, .ref a0, .ref a1, .ref a2, .ref a3, .ref a4, .ref a5, .int 0, .long 0]))] sz) ([])) (va_A [(h, .inr (10, [.ref g, .ref df, .ref im, .ref pn, .ref w, .ref pa, .int 0, .int 0, .int 0])), (g, .inr (3, [.int 6, .int 6, .int 1, .int 0, .long 0, .long 0, .int 0, .int 0, .int 0, .ref k0, .ref k1, .ref k2, .ref k3, .ref k4, .ref k5, .ref k6])), (w, .inr (4, [.ref g, .ref a0, .ref a1, .ref a2, .ref a3, .ref a4, .ref a5, .int 0, .long 0]))] sz)) 0 0 (va_A [(h, .inr (10, [.ref g, .ref df, .ref im, .ref pn, .ref w, .ref pa, .int 0, .int 0, .int 0])), (g, .inr (3, [.int 6, .int 6, .int 1, .int 0, .long 0, .long 0, .int 0, .int 0, .int 0, .ref k0, .ref k1, .ref k2, .ref k3, .ref k4, .ref k5, .ref k6])), (w, .inr (4, [.ref g, .ref a0, .ref a1, .ref a2, .ref a3, .ref a4, .ref a5, .int 0, .long 0]))] sz) := by
  refine Met.ofW (cc := cX10_may) (maxL := 1) (ret := (some .int)) (by decide) rfl ?_
  intro p e s m args below meth c s₁ B hml hv
  obtain ⟨rfl, hsz, hP, hKA, hD0⟩ := hv
  have hx := B.exec
  have hb := B.bytes
  have hr := B.returns
  have hts := atoms_spec (ws := wsX10_may) B.pre
  have hown : s.vm.findClass RX10 = some m.cls := findClass_of_methodNamed B.named
  have hlocks := B.notSynchronized
  subst hsz
  have hK := hKA.1
  have hD := hD0.self (sz := s.heap.size)
  generalize hAe : va_A [(h, .inr (10, [.ref g, .ref df, .ref im, .ref pn, .ref w, .ref pa, .int 0, .int 0, .int 0])), (g, .inr (3, [.int 6, .int 6, .int 1, .int 0, .long 0, .long 0, .int 0, .int 0, .int 0, .ref k0, .ref k1, .ref k2, .ref k3, .ref k4, .ref k5, .ref k6])), (w, .inr (4, [.ref g, .ref a0, .ref a1, .ref a2, .ref a3, .ref a4, .ref a5, .int 0, .long 0]))] s.heap.size = A at hD ⊢
  have hA : ∀ q : Nat, s.heap.size ≤ q → A q := fun q h => by rw [← hAe]; exact Or.inr h
  have hS : va_S A s.heap s.heap [] := va_S.rf
  have hP : va_P D vwCl [(h, .inr (10, [.ref g, .ref df, .ref im, .ref pn, .ref w, .ref pa, .int 0, .int 0, .int 0])), (g, .inr (3, [.int 6, .int 6, .int 1, .int 0, .long 0, .long 0, .int 0, .int 0, .int 0, .ref k0, .ref k1, .ref k2, .ref k3, .ref k4, .ref k5, .ref k6])), (w, .inr (4, [.ref g, .ref a0, .ref a1, .ref a2, .ref a3, .ref a4, .ref a5, .int 0, .long 0]))] s.heap := hP
  have hl := lv_entry ([.ref h]) (n := 1) (Nat.le_of_ble_eq_true rfl)
  rw [lg_entry_eq]
  generalize (lg_sl ([.ref h]) ++ List.replicate (1 - (lg_sl ([.ref h])).length) Slot.unset).toArray = ls at hl ⊢
  have hl : lv_has ls 1 [(0, .ref h)] := hl
  have z0_ := hts (.fieldLink RX10 35 "HeardSeen" "law" "LHeardSeen$Law;") (by decide +kernel)
  have zi10_ : ∀ w ∈ u_ws RX10 TX10 9, w ∈ wsX10_may := by decide +kernel
  refine lv_aload_n hx hb dX10_may_0 rfl (lv_at hl 0 rfl) ?_
  refine va_get (D := D) (ci := 10) (v := .ref w) (C := RX10) (T := TX10) (N := 9) hx hb hts zi10_ hown hK hP 0 rfl rfl 4 (by decide) z0_ (fun _ h9 => h9) rfl dX10_may_1 ?_
  refine wr_v (wr := [(h, .inr (10, [.ref g, .ref df, .ref im, .ref pn, .ref w, .ref pa, .int 0, .int 0, .int 0]))]) (va_runV (As := []) (rest := []) ⟨hx, hb, hml, hown, hts⟩ (c0_look l D cy w g a0 a1 a2 a3 a4 a5 0 0 6 6 1 0 0 0 k0 k1 k2 k3 k4 k5 k6 _) (cwV 0 hts gX10_may_X4_look rfl rfl rfl (by decide +kernel) ⟨Nat.le_of_ble_eq_true rfl, Nat.le_of_ble_eq_true rfl⟩) (pV (ci := 4) (k := 0) hKA (hP.sub (ws' := [(w, .inr (4, [.ref g, .ref a0, .ref a1, .ref a2, .ref a3, .ref a4, .ref a5, .int 0, .long 0])), (g, .inr (3, [.int 6, .int 6, .int 1, .int 0, .long 0, .long 0, .int 0, .int 0, .int 0, .ref k0, .ref k1, .ref k2, .ref k3, .ref k4, .ref k5, .ref k6]))]) [2, 1] rfl) (hD.sub (ws' := [(w, .inr (4, [.ref g, .ref a0, .ref a1, .ref a2, .ref a3, .ref a4, .ref a5, .int 0, .long 0])), (g, .inr (3, [.int 6, .int 6, .int 1, .int 0, .long 0, .long 0, .int 0, .int 0, .int 0, .ref k0, .ref k1, .ref k2, .ref k3, .ref k4, .ref k5, .ref k6]))]) [2, 1] (by decide) rfl) rfl rfl) rfl rfl hl.1 rfl (lv_room (Nat.le_of_ble_eq_true rfl)) dX10_may_4 ⟨Nat.le_of_ble_eq_true rfl, Nat.le_of_ble_eq_true rfl⟩) hP hD hS hA [2, 1] [0] rfl rfl (by decide +kernel) (by decide +kernel) (fun ur1 H locs hwr1 hP hD hS => ?_)
  obtain ⟨dn2, rfl⟩ : ∃ z, z = ur1 := ⟨_, rfl⟩
  have hP : va_P D vwCl [(h, .inr (10, [.ref g, .ref df, .ref im, .ref pn, .ref w, .ref pa, .int 0, .int 0, .int 0])), (w, .inr (4, [.ref g, .ref a0, .ref a1, .ref a2, .ref a3, .ref a4, .ref a5, .int 0, .long dn2])), (g, .inr (3, [.int 6, .int 6, .int 1, .int 0, .long 0, .long 0, .int 0, .int 0, .int 0, .ref k0, .ref k1, .ref k2, .ref k3, .ref k4, .ref k5, .ref k6]))] H := hP
  have hD : va_D A [(h, .inr (10, [.ref g, .ref df, .ref im, .ref pn, .ref w, .ref pa, .int 0, .int 0, .int 0])), (w, .inr (4, [.ref g, .ref a0, .ref a1, .ref a2, .ref a3, .ref a4, .ref a5, .int 0, .long dn2])), (g, .inr (3, [.int 6, .int 6, .int 1, .int 0, .long 0, .long 0, .int 0, .int 0, .int 0, .ref k0, .ref k1, .ref k2, .ref k3, .ref k4, .ref k5, .ref k6]))] := hD
  refine lv_aload_n hx hb dX10_may_7 rfl (lv_at hl 0 rfl) ?_
  refine va_get (D := D) (ci := 10) (v := .ref w) (C := RX10) (T := TX10) (N := 9) hx hb hts zi10_ hown hK hP 0 rfl rfl 4 (by decide) z0_ (fun _ h9 => h9) rfl dX10_may_8 ?_
  refine rd_i (va_runV (As := []) (rest := []) ⟨hx, hb, hml, hown, hts⟩ (c0_mayMask l D cy w g a0 a1 a2 a3 a4 a5 0 dn2 6 6 1 0 0 0 k0 k1 k2 k3 k4 k5 k6 _) (cwV 0 hts gX10_may_X4_mayMask rfl rfl rfl (by decide +kernel) ⟨Nat.le_of_ble_eq_true rfl, Nat.le_of_ble_eq_true rfl⟩) (pV (ci := 4) (k := 0) hKA (hP.sub (ws' := [(w, .inr (4, [.ref g, .ref a0, .ref a1, .ref a2, .ref a3, .ref a4, .ref a5, .int 0, .long dn2])), (g, .inr (3, [.int 6, .int 6, .int 1, .int 0, .long 0, .long 0, .int 0, .int 0, .int 0, .ref k0, .ref k1, .ref k2, .ref k3, .ref k4, .ref k5, .ref k6]))]) [1, 2] rfl) (hD.sub (ws' := [(w, .inr (4, [.ref g, .ref a0, .ref a1, .ref a2, .ref a3, .ref a4, .ref a5, .int 0, .long dn2])), (g, .inr (3, [.int 6, .int 6, .int 1, .int 0, .long 0, .long 0, .int 0, .int 0, .int 0, .ref k0, .ref k1, .ref k2, .ref k3, .ref k4, .ref k5, .ref k6]))]) [1, 2] (by decide) rfl) rfl rfl) rfl rfl hl.1 rfl (lv_room (Nat.le_of_ble_eq_true rfl)) dX10_may_11 ⟨Nat.le_of_ble_eq_true rfl, Nat.le_of_ble_eq_true rfl⟩) hP hS hA (fun r3 H locs hwr3 hP hS => ?_)
  rcases hwr3 with rfl
  · skip
    have hP9 := hP.sub (ws' := []) [] rfl
    have hD9 := hD.sub (ws' := []) [] (by decide) rfl
    exact W.iret (v := 0) hx hb hr (fun t ht hW => ⟨⟨0, (), rfl, rfl, by rw [ht]; exact hP9, hD9⟩, hS.F ht⟩) hS.2.2 dX10_may_14

set_option maxHeartbeats 4000000 in
set_option maxRecDepth 100000 in
theorem tp_judge (l : Launch) (D : va_G) (cy : Nat → ClassId) (h g df im pn w pa : Nat) (a0 a1 a2 a3 a4 a5 : Nat) (k0 k1 k2 k3 k4 k5 k6 : Nat) (x : Int32) (sz : Nat)  : Met l yX10_judge wsX10_judge ({ frames := 4, cells := 0, slots := 0, locals := 90 }) (va_Pc [.ref h, .int x] (kPre D cy [(h, .inr (10, [.ref g, .ref df, .ref im, .ref pn, .ref w, .ref pa, .int 0, .int 0, .int 0])), (g, .inr (3, [.int 6, .int 6, .int 1, .int 0, .long 0, .long 0, .int 0, .int 0, .int 0, .ref k0, .ref k1, .ref k2, .ref k3, .ref k4, .ref k5, .ref k6])), (w, .inr (4, [.ref g, .ref a0, .ref a1, .ref a2, .ref a3, .ref a4, .ref a5, .int 0, .long 0]))] sz)) (va_Qi (fun (r : Int32) (_ : Unit) => r = sp_grp x (-1)) (fun (u : Unit) t => va_P D vwCl ([]) t.heap ∧ va_D (va_A [(h, .inr (10, [.ref g, .ref df, .ref im, .ref pn, .ref w, .ref pa, .int 0, .int 0, .int 0])), (g, .inr (3, [.int 6, .int 6, .int 1, .int 0, .long 0, .long 0, .int 0, .int 0, .int 0, .ref k0, .ref k1, .ref k2, .ref k3, .ref k4, .ref k5, .ref k6])), (w, .inr (4, [.ref g, .ref a0, .ref a1, .ref a2, .ref a3, .ref a4, .ref a5, .int 0, .long 0]))] sz) ([])) (va_A [(h, .inr (10, [.ref g, .ref df, .ref im, .ref pn, .ref w, .ref pa, .int 0, .int 0, .int 0])), (g, .inr (3, [.int 6, .int 6, .int 1, .int 0, .long 0, .long 0, .int 0, .int 0, .int 0, .ref k0, .ref k1, .ref k2, .ref k3, .ref k4, .ref k5, .ref k6])), (w, .inr (4, [.ref g, .ref a0, .ref a1, .ref a2, .ref a3, .ref a4, .ref a5, .int 0, .long 0]))] sz)) 0 0 (va_A [(h, .inr (10, [.ref g, .ref df, .ref im, .ref pn, .ref w, .ref pa, .int 0, .int 0, .int 0])), (g, .inr (3, [.int 6, .int 6, .int 1, .int 0, .long 0, .long 0, .int 0, .int 0, .int 0, .ref k0, .ref k1, .ref k2, .ref k3, .ref k4, .ref k5, .ref k6])), (w, .inr (4, [.ref g, .ref a0, .ref a1, .ref a2, .ref a3, .ref a4, .ref a5, .int 0, .long 0]))] sz) := by
  refine Met.ofW (cc := cX10_judge) (maxL := 2) (ret := (some .int)) (by decide) rfl ?_
  intro p e s m args below meth c s₁ B hml hv
  obtain ⟨rfl, hsz, hP, hKA, hD0⟩ := hv
  have hx := B.exec
  have hb := B.bytes
  have hr := B.returns
  have hts := atoms_spec (ws := wsX10_judge) B.pre
  have hown : s.vm.findClass RX10 = some m.cls := findClass_of_methodNamed B.named
  have hlocks := B.notSynchronized
  subst hsz
  have hK := hKA.1
  have hD := hD0.self (sz := s.heap.size)
  generalize hAe : va_A [(h, .inr (10, [.ref g, .ref df, .ref im, .ref pn, .ref w, .ref pa, .int 0, .int 0, .int 0])), (g, .inr (3, [.int 6, .int 6, .int 1, .int 0, .long 0, .long 0, .int 0, .int 0, .int 0, .ref k0, .ref k1, .ref k2, .ref k3, .ref k4, .ref k5, .ref k6])), (w, .inr (4, [.ref g, .ref a0, .ref a1, .ref a2, .ref a3, .ref a4, .ref a5, .int 0, .long 0]))] s.heap.size = A at hD ⊢
  have hA : ∀ q : Nat, s.heap.size ≤ q → A q := fun q h => by rw [← hAe]; exact Or.inr h
  have hS : va_S A s.heap s.heap [] := va_S.rf
  have hP : va_P D vwCl [(h, .inr (10, [.ref g, .ref df, .ref im, .ref pn, .ref w, .ref pa, .int 0, .int 0, .int 0])), (g, .inr (3, [.int 6, .int 6, .int 1, .int 0, .long 0, .long 0, .int 0, .int 0, .int 0, .ref k0, .ref k1, .ref k2, .ref k3, .ref k4, .ref k5, .ref k6])), (w, .inr (4, [.ref g, .ref a0, .ref a1, .ref a2, .ref a3, .ref a4, .ref a5, .int 0, .long 0]))] s.heap := hP
  have hl := lv_entry ([.ref h, .int x]) (n := 2) (Nat.le_of_ble_eq_true rfl)
  rw [lg_entry_eq]
  generalize (lg_sl ([.ref h, .int x]) ++ List.replicate (2 - (lg_sl ([.ref h, .int x])).length) Slot.unset).toArray = ls at hl ⊢
  have hl : lv_has ls 2 [(0, .ref h), (1, .int x)] := hl
  have z0_ := hts (.fieldLink RX10 35 "HeardSeen" "law" "LHeardSeen$Law;") (by decide +kernel)
  have zi10_ : ∀ w ∈ u_ws RX10 TX10 9, w ∈ wsX10_judge := by decide +kernel
  refine lv_aload_n hx hb dX10_judge_0 rfl (lv_at hl 0 rfl) ?_
  refine lv_iload_n hx hb dX10_judge_1 rfl (lv_at hl 1 rfl) ?_
  refine rd_i (va_runV (As := [.int x]) (rest := []) ⟨hx, hb, hml, hown, hts⟩ (c0_isGroup l D cy h g df im pn w pa 0 0 0 k0 k1 k2 k3 k4 k5 k6 x _) (cwV 1 hts gX10_judge_X10_isGroup rfl rfl rfl (by decide +kernel) ⟨Nat.le_of_ble_eq_true rfl, Nat.le_of_ble_eq_true rfl⟩) (pV (ci := 10) (k := 0) hKA (hP.sub (ws' := [(h, .inr (10, [.ref g, .ref df, .ref im, .ref pn, .ref w, .ref pa, .int 0, .int 0, .int 0])), (g, .inr (3, [.int 6, .int 6, .int 1, .int 0, .long 0, .long 0, .int 0, .int 0, .int 0, .ref k0, .ref k1, .ref k2, .ref k3, .ref k4, .ref k5, .ref k6]))]) [0, 1] rfl) (hD.sub (ws' := [(h, .inr (10, [.ref g, .ref df, .ref im, .ref pn, .ref w, .ref pa, .int 0, .int 0, .int 0])), (g, .inr (3, [.int 6, .int 6, .int 1, .int 0, .long 0, .long 0, .int 0, .int 0, .int 0, .ref k0, .ref k1, .ref k2, .ref k3, .ref k4, .ref k5, .ref k6]))]) [0, 1] (by decide) rfl) rfl rfl) rfl rfl hl.1 rfl (lv_room (Nat.le_of_ble_eq_true rfl)) dX10_judge_2 ⟨Nat.le_of_ble_eq_true rfl, Nat.le_of_ble_eq_true rfl⟩) hP hS hA (fun r1 H locs hwr1 hP hS => ?_)
  rcases hwr1 with ⟨rfl, har1, hbr1⟩ | ⟨rfl, hnr1⟩
  · skip
    refine lv_if_ne (tgt := 15) hx hb dX10_judge_5 (by decide) (fun c2 => ?_) (fun c2 => absurd c2 (by decide))
    refine lv_aload_n hx hb dX10_judge_15 rfl (lv_at hl 0 rfl) ?_
    refine va_get (D := D) (ci := 10) (v := .ref w) (C := RX10) (T := TX10) (N := 9) hx hb hts zi10_ hown hK hP 0 rfl rfl 4 (by decide) z0_ (fun _ h9 => h9) rfl dX10_judge_16 ?_
    refine wr_v (wr := [(h, .inr (10, [.ref g, .ref df, .ref im, .ref pn, .ref w, .ref pa, .int 0, .int 0, .int 0]))]) (va_runV (As := []) (rest := []) ⟨hx, hb, hml, hown, hts⟩ (c0_look l D cy w g a0 a1 a2 a3 a4 a5 0 0 6 6 1 0 0 0 k0 k1 k2 k3 k4 k5 k6 _) (cwV 0 hts gX10_judge_X4_look rfl rfl rfl (by decide +kernel) ⟨Nat.le_of_ble_eq_true rfl, Nat.le_of_ble_eq_true rfl⟩) (pV (ci := 4) (k := 0) hKA (hP.sub (ws' := [(w, .inr (4, [.ref g, .ref a0, .ref a1, .ref a2, .ref a3, .ref a4, .ref a5, .int 0, .long 0])), (g, .inr (3, [.int 6, .int 6, .int 1, .int 0, .long 0, .long 0, .int 0, .int 0, .int 0, .ref k0, .ref k1, .ref k2, .ref k3, .ref k4, .ref k5, .ref k6]))]) [2, 1] rfl) (hD.sub (ws' := [(w, .inr (4, [.ref g, .ref a0, .ref a1, .ref a2, .ref a3, .ref a4, .ref a5, .int 0, .long 0])), (g, .inr (3, [.int 6, .int 6, .int 1, .int 0, .long 0, .long 0, .int 0, .int 0, .int 0, .ref k0, .ref k1, .ref k2, .ref k3, .ref k4, .ref k5, .ref k6]))]) [2, 1] (by decide) rfl) rfl rfl) rfl rfl hl.1 rfl (lv_room (Nat.le_of_ble_eq_true rfl)) dX10_judge_19 ⟨Nat.le_of_ble_eq_true rfl, Nat.le_of_ble_eq_true rfl⟩) hP hD hS hA [2, 1] [0] rfl rfl (by decide +kernel) (by decide +kernel) (fun ur3 H locs hwr3 hP hD hS => ?_)
    obtain ⟨dn4, rfl⟩ : ∃ z, z = ur3 := ⟨_, rfl⟩
    have hP : va_P D vwCl [(h, .inr (10, [.ref g, .ref df, .ref im, .ref pn, .ref w, .ref pa, .int 0, .int 0, .int 0])), (w, .inr (4, [.ref g, .ref a0, .ref a1, .ref a2, .ref a3, .ref a4, .ref a5, .int 0, .long dn4])), (g, .inr (3, [.int 6, .int 6, .int 1, .int 0, .long 0, .long 0, .int 0, .int 0, .int 0, .ref k0, .ref k1, .ref k2, .ref k3, .ref k4, .ref k5, .ref k6]))] H := hP
    have hD : va_D A [(h, .inr (10, [.ref g, .ref df, .ref im, .ref pn, .ref w, .ref pa, .int 0, .int 0, .int 0])), (w, .inr (4, [.ref g, .ref a0, .ref a1, .ref a2, .ref a3, .ref a4, .ref a5, .int 0, .long dn4])), (g, .inr (3, [.int 6, .int 6, .int 1, .int 0, .long 0, .long 0, .int 0, .int 0, .int 0, .ref k0, .ref k1, .ref k2, .ref k3, .ref k4, .ref k5, .ref k6]))] := hD
    refine lv_aload_n hx hb dX10_judge_22 rfl (lv_at hl 0 rfl) ?_
    refine va_get (D := D) (ci := 10) (v := .ref w) (C := RX10) (T := TX10) (N := 9) hx hb hts zi10_ hown hK hP 0 rfl rfl 4 (by decide) z0_ (fun _ h9 => h9) rfl dX10_judge_23 ?_
    refine lv_iload_n hx hb dX10_judge_26 rfl (lv_at hl 1 rfl) ?_
    refine rd_i (va_runV (As := [.int x]) (rest := []) ⟨hx, hb, hml, hown, hts⟩ (c0_firstBreach l D cy w g a0 a1 a2 a3 a4 a5 0 dn4 6 6 1 0 0 0 k0 k1 k2 k3 k4 k5 k6 x _) (cwV 1 hts gX10_judge_X4_firstBreach rfl rfl rfl (by decide +kernel) ⟨Nat.le_of_ble_eq_true rfl, Nat.le_of_ble_eq_true rfl⟩) (pV (ci := 4) (k := 0) hKA (hP.sub (ws' := [(w, .inr (4, [.ref g, .ref a0, .ref a1, .ref a2, .ref a3, .ref a4, .ref a5, .int 0, .long dn4])), (g, .inr (3, [.int 6, .int 6, .int 1, .int 0, .long 0, .long 0, .int 0, .int 0, .int 0, .ref k0, .ref k1, .ref k2, .ref k3, .ref k4, .ref k5, .ref k6]))]) [1, 2] rfl) (hD.sub (ws' := [(w, .inr (4, [.ref g, .ref a0, .ref a1, .ref a2, .ref a3, .ref a4, .ref a5, .int 0, .long dn4])), (g, .inr (3, [.int 6, .int 6, .int 1, .int 0, .long 0, .long 0, .int 0, .int 0, .int 0, .ref k0, .ref k1, .ref k2, .ref k3, .ref k4, .ref k5, .ref k6]))]) [1, 2] (by decide) rfl) rfl rfl) rfl rfl hl.1 rfl (lv_room (Nat.le_of_ble_eq_true rfl)) dX10_judge_27 ⟨Nat.le_of_ble_eq_true rfl, Nat.le_of_ble_eq_true rfl⟩) hP hS hA (fun r5 H locs hwr5 hP hS => ?_)
    rcases hwr5 with rfl
    · skip
      have hP9 := hP.sub (ws' := []) [] rfl
      have hD9 := hD.sub (ws' := []) [] (by decide) rfl
      exact W.iret (v := (-1)) hx hb hr (fun t ht hW => ⟨⟨(-1), (), rfl, (by simp [sp_grp, har1, hbr1]), by rw [ht]; exact hP9, hD9⟩, hS.F ht⟩) hS.2.2 dX10_judge_30
  · skip
    refine lv_if_ne (tgt := 15) hx hb dX10_judge_5 (by decide) (fun c6 => absurd c6 (by decide)) (fun c6 => ?_)
    refine lv_aload_n hx hb dX10_judge_8 rfl (lv_at hl 0 rfl) ?_
    refine lv_bipush (v := (-2)) hx hb dX10_judge_9 (by decide) ?_
    refine wr_i (wr := [(g, .inr (3, [.int 6, .int 6, .int 1, .int 0, .long 0, .long 0, .int 0, .int 0, .int 0, .ref k0, .ref k1, .ref k2, .ref k3, .ref k4, .ref k5, .ref k6])), (w, .inr (4, [.ref g, .ref a0, .ref a1, .ref a2, .ref a3, .ref a4, .ref a5, .int 0, .long 0]))]) (va_runV (As := [.int (-2)]) (rest := []) ⟨hx, hb, hml, hown, hts⟩ (c_X10_refuseBad l D cy h g df im pn w pa 0 0 0 (-2) _) (cwV 1 hts gX10_judge_X10_refuseBad rfl rfl rfl (by decide +kernel) ⟨Nat.le_of_ble_eq_true rfl, Nat.le_of_ble_eq_true rfl⟩) (pV (ci := 10) (k := 0) hKA (hP.sub (ws' := [(h, .inr (10, [.ref g, .ref df, .ref im, .ref pn, .ref w, .ref pa, .int 0, .int 0, .int 0]))]) [0] rfl) (hD.sub (ws' := [(h, .inr (10, [.ref g, .ref df, .ref im, .ref pn, .ref w, .ref pa, .int 0, .int 0, .int 0]))]) [0] (by decide) rfl) rfl rfl) rfl rfl hl.1 rfl (lv_room (Nat.le_of_ble_eq_true rfl)) dX10_judge_11 ⟨Nat.le_of_ble_eq_true rfl, Nat.le_of_ble_eq_true rfl⟩) hP hD hS hA [0] [1, 2] rfl rfl (by decide +kernel) (by decide +kernel) (fun r7 ur7 H locs hwr7 hP hD hS => ?_)
    have hP : va_P D vwCl [(g, .inr (3, [.int 6, .int 6, .int 1, .int 0, .long 0, .long 0, .int 0, .int 0, .int 0, .ref k0, .ref k1, .ref k2, .ref k3, .ref k4, .ref k5, .ref k6])), (w, .inr (4, [.ref g, .ref a0, .ref a1, .ref a2, .ref a3, .ref a4, .ref a5, .int 0, .long 0])), (h, .inr (10, [.ref g, .ref df, .ref im, .ref pn, .ref w, .ref pa, .int (0 + 1), .int 0, .int 0]))] H := hP
    have hD : va_D A [(g, .inr (3, [.int 6, .int 6, .int 1, .int 0, .long 0, .long 0, .int 0, .int 0, .int 0, .ref k0, .ref k1, .ref k2, .ref k3, .ref k4, .ref k5, .ref k6])), (w, .inr (4, [.ref g, .ref a0, .ref a1, .ref a2, .ref a3, .ref a4, .ref a5, .int 0, .long 0])), (h, .inr (10, [.ref g, .ref df, .ref im, .ref pn, .ref w, .ref pa, .int (0 + 1), .int 0, .int 0]))] := hD
    subst hwr7
    have hP9 := hP.sub (ws' := []) [] rfl
    have hD9 := hD.sub (ws' := []) [] (by decide) rfl
    exact W.iret (v := (-2)) hx hb hr (fun t ht hW => ⟨⟨(-2), (), rfl, (by simp [sp_grp, hnr1]), by rw [ht]; exact hP9, hD9⟩, hS.F ht⟩) hS.2.2 dX10_judge_14

set_option maxHeartbeats 4000000 in
set_option maxRecDepth 100000 in
theorem tp_told (l : Launch) (D : va_G) (cy : Nat → ClassId) (h g df im pn w pa : Nat) (a0 a1 a2 a3 a4 a5 : Nat) (k0 k1 k2 k3 k4 k5 k6 : Nat) (x : Int32) (sz : Nat)  : Met l yX10_told wsX10_told ({ frames := 4, cells := 0, slots := 0, locals := 90 }) (va_Pc [.ref h, .int x] (kPre D cy [(h, .inr (10, [.ref g, .ref df, .ref im, .ref pn, .ref w, .ref pa, .int 0, .int 0, .int 0])), (g, .inr (3, [.int 6, .int 6, .int 1, .int 0, .long 0, .long 0, .int 0, .int 0, .int 0, .ref k0, .ref k1, .ref k2, .ref k3, .ref k4, .ref k5, .ref k6])), (w, .inr (4, [.ref g, .ref a0, .ref a1, .ref a2, .ref a3, .ref a4, .ref a5, .int 0, .long 0]))] sz)) (va_Qi (fun (r : Int32) (_ : Unit) => r = sp_grp x 1) (fun (u : Unit) t => va_P D vwCl ([]) t.heap ∧ va_D (va_A [(h, .inr (10, [.ref g, .ref df, .ref im, .ref pn, .ref w, .ref pa, .int 0, .int 0, .int 0])), (g, .inr (3, [.int 6, .int 6, .int 1, .int 0, .long 0, .long 0, .int 0, .int 0, .int 0, .ref k0, .ref k1, .ref k2, .ref k3, .ref k4, .ref k5, .ref k6])), (w, .inr (4, [.ref g, .ref a0, .ref a1, .ref a2, .ref a3, .ref a4, .ref a5, .int 0, .long 0]))] sz) ([])) (va_A [(h, .inr (10, [.ref g, .ref df, .ref im, .ref pn, .ref w, .ref pa, .int 0, .int 0, .int 0])), (g, .inr (3, [.int 6, .int 6, .int 1, .int 0, .long 0, .long 0, .int 0, .int 0, .int 0, .ref k0, .ref k1, .ref k2, .ref k3, .ref k4, .ref k5, .ref k6])), (w, .inr (4, [.ref g, .ref a0, .ref a1, .ref a2, .ref a3, .ref a4, .ref a5, .int 0, .long 0]))] sz)) 0 0 (va_A [(h, .inr (10, [.ref g, .ref df, .ref im, .ref pn, .ref w, .ref pa, .int 0, .int 0, .int 0])), (g, .inr (3, [.int 6, .int 6, .int 1, .int 0, .long 0, .long 0, .int 0, .int 0, .int 0, .ref k0, .ref k1, .ref k2, .ref k3, .ref k4, .ref k5, .ref k6])), (w, .inr (4, [.ref g, .ref a0, .ref a1, .ref a2, .ref a3, .ref a4, .ref a5, .int 0, .long 0]))] sz) := by
  refine Met.ofW (cc := cX10_told) (maxL := 2) (ret := (some .int)) (by decide) rfl ?_
  intro p e s m args below meth c s₁ B hml hv
  obtain ⟨rfl, hsz, hP, hKA, hD0⟩ := hv
  have hx := B.exec
  have hb := B.bytes
  have hr := B.returns
  have hts := atoms_spec (ws := wsX10_told) B.pre
  have hown : s.vm.findClass RX10 = some m.cls := findClass_of_methodNamed B.named
  have hlocks := B.notSynchronized
  subst hsz
  have hK := hKA.1
  have hD := hD0.self (sz := s.heap.size)
  generalize hAe : va_A [(h, .inr (10, [.ref g, .ref df, .ref im, .ref pn, .ref w, .ref pa, .int 0, .int 0, .int 0])), (g, .inr (3, [.int 6, .int 6, .int 1, .int 0, .long 0, .long 0, .int 0, .int 0, .int 0, .ref k0, .ref k1, .ref k2, .ref k3, .ref k4, .ref k5, .ref k6])), (w, .inr (4, [.ref g, .ref a0, .ref a1, .ref a2, .ref a3, .ref a4, .ref a5, .int 0, .long 0]))] s.heap.size = A at hD ⊢
  have hA : ∀ q : Nat, s.heap.size ≤ q → A q := fun q h => by rw [← hAe]; exact Or.inr h
  have hS : va_S A s.heap s.heap [] := va_S.rf
  have hP : va_P D vwCl [(h, .inr (10, [.ref g, .ref df, .ref im, .ref pn, .ref w, .ref pa, .int 0, .int 0, .int 0])), (g, .inr (3, [.int 6, .int 6, .int 1, .int 0, .long 0, .long 0, .int 0, .int 0, .int 0, .ref k0, .ref k1, .ref k2, .ref k3, .ref k4, .ref k5, .ref k6])), (w, .inr (4, [.ref g, .ref a0, .ref a1, .ref a2, .ref a3, .ref a4, .ref a5, .int 0, .long 0]))] s.heap := hP
  have hl := lv_entry ([.ref h, .int x]) (n := 2) (Nat.le_of_ble_eq_true rfl)
  rw [lg_entry_eq]
  generalize (lg_sl ([.ref h, .int x]) ++ List.replicate (2 - (lg_sl ([.ref h, .int x])).length) Slot.unset).toArray = ls at hl ⊢
  have hl : lv_has ls 2 [(0, .ref h), (1, .int x)] := hl
  have z0_ := hts (.fieldLink RX10 35 "HeardSeen" "law" "LHeardSeen$Law;") (by decide +kernel)
  have zi10_ : ∀ w ∈ u_ws RX10 TX10 9, w ∈ wsX10_told := by decide +kernel
  refine lv_aload_n hx hb dX10_told_0 rfl (lv_at hl 0 rfl) ?_
  refine lv_iload_n hx hb dX10_told_1 rfl (lv_at hl 1 rfl) ?_
  refine rd_i (va_runV (As := [.int x]) (rest := []) ⟨hx, hb, hml, hown, hts⟩ (c0_isGroup l D cy h g df im pn w pa 0 0 0 k0 k1 k2 k3 k4 k5 k6 x _) (cwV 1 hts gX10_told_X10_isGroup rfl rfl rfl (by decide +kernel) ⟨Nat.le_of_ble_eq_true rfl, Nat.le_of_ble_eq_true rfl⟩) (pV (ci := 10) (k := 0) hKA (hP.sub (ws' := [(h, .inr (10, [.ref g, .ref df, .ref im, .ref pn, .ref w, .ref pa, .int 0, .int 0, .int 0])), (g, .inr (3, [.int 6, .int 6, .int 1, .int 0, .long 0, .long 0, .int 0, .int 0, .int 0, .ref k0, .ref k1, .ref k2, .ref k3, .ref k4, .ref k5, .ref k6]))]) [0, 1] rfl) (hD.sub (ws' := [(h, .inr (10, [.ref g, .ref df, .ref im, .ref pn, .ref w, .ref pa, .int 0, .int 0, .int 0])), (g, .inr (3, [.int 6, .int 6, .int 1, .int 0, .long 0, .long 0, .int 0, .int 0, .int 0, .ref k0, .ref k1, .ref k2, .ref k3, .ref k4, .ref k5, .ref k6]))]) [0, 1] (by decide) rfl) rfl rfl) rfl rfl hl.1 rfl (lv_room (Nat.le_of_ble_eq_true rfl)) dX10_told_2 ⟨Nat.le_of_ble_eq_true rfl, Nat.le_of_ble_eq_true rfl⟩) hP hS hA (fun r1 H locs hwr1 hP hS => ?_)
  rcases hwr1 with ⟨rfl, har1, hbr1⟩ | ⟨rfl, hnr1⟩
  · skip
    refine lv_if_ne (tgt := 15) hx hb dX10_told_5 (by decide) (fun c2 => ?_) (fun c2 => absurd c2 (by decide))
    refine lv_aload_n hx hb dX10_told_15 rfl (lv_at hl 0 rfl) ?_
    refine va_get (D := D) (ci := 10) (v := .ref w) (C := RX10) (T := TX10) (N := 9) hx hb hts zi10_ hown hK hP 0 rfl rfl 4 (by decide) z0_ (fun _ h9 => h9) rfl dX10_told_16 ?_
    refine wr_v (wr := [(h, .inr (10, [.ref g, .ref df, .ref im, .ref pn, .ref w, .ref pa, .int 0, .int 0, .int 0]))]) (va_runV (As := []) (rest := []) ⟨hx, hb, hml, hown, hts⟩ (c0_look l D cy w g a0 a1 a2 a3 a4 a5 0 0 6 6 1 0 0 0 k0 k1 k2 k3 k4 k5 k6 _) (cwV 0 hts gX10_told_X4_look rfl rfl rfl (by decide +kernel) ⟨Nat.le_of_ble_eq_true rfl, Nat.le_of_ble_eq_true rfl⟩) (pV (ci := 4) (k := 0) hKA (hP.sub (ws' := [(w, .inr (4, [.ref g, .ref a0, .ref a1, .ref a2, .ref a3, .ref a4, .ref a5, .int 0, .long 0])), (g, .inr (3, [.int 6, .int 6, .int 1, .int 0, .long 0, .long 0, .int 0, .int 0, .int 0, .ref k0, .ref k1, .ref k2, .ref k3, .ref k4, .ref k5, .ref k6]))]) [2, 1] rfl) (hD.sub (ws' := [(w, .inr (4, [.ref g, .ref a0, .ref a1, .ref a2, .ref a3, .ref a4, .ref a5, .int 0, .long 0])), (g, .inr (3, [.int 6, .int 6, .int 1, .int 0, .long 0, .long 0, .int 0, .int 0, .int 0, .ref k0, .ref k1, .ref k2, .ref k3, .ref k4, .ref k5, .ref k6]))]) [2, 1] (by decide) rfl) rfl rfl) rfl rfl hl.1 rfl (lv_room (Nat.le_of_ble_eq_true rfl)) dX10_told_19 ⟨Nat.le_of_ble_eq_true rfl, Nat.le_of_ble_eq_true rfl⟩) hP hD hS hA [2, 1] [0] rfl rfl (by decide +kernel) (by decide +kernel) (fun ur3 H locs hwr3 hP hD hS => ?_)
    obtain ⟨dn4, rfl⟩ : ∃ z, z = ur3 := ⟨_, rfl⟩
    have hP : va_P D vwCl [(h, .inr (10, [.ref g, .ref df, .ref im, .ref pn, .ref w, .ref pa, .int 0, .int 0, .int 0])), (w, .inr (4, [.ref g, .ref a0, .ref a1, .ref a2, .ref a3, .ref a4, .ref a5, .int 0, .long dn4])), (g, .inr (3, [.int 6, .int 6, .int 1, .int 0, .long 0, .long 0, .int 0, .int 0, .int 0, .ref k0, .ref k1, .ref k2, .ref k3, .ref k4, .ref k5, .ref k6]))] H := hP
    have hD : va_D A [(h, .inr (10, [.ref g, .ref df, .ref im, .ref pn, .ref w, .ref pa, .int 0, .int 0, .int 0])), (w, .inr (4, [.ref g, .ref a0, .ref a1, .ref a2, .ref a3, .ref a4, .ref a5, .int 0, .long dn4])), (g, .inr (3, [.int 6, .int 6, .int 1, .int 0, .long 0, .long 0, .int 0, .int 0, .int 0, .ref k0, .ref k1, .ref k2, .ref k3, .ref k4, .ref k5, .ref k6]))] := hD
    refine lv_aload_n hx hb dX10_told_22 rfl (lv_at hl 0 rfl) ?_
    refine va_get (D := D) (ci := 10) (v := .ref w) (C := RX10) (T := TX10) (N := 9) hx hb hts zi10_ hown hK hP 0 rfl rfl 4 (by decide) z0_ (fun _ h9 => h9) rfl dX10_told_23 ?_
    refine lv_iload_n hx hb dX10_told_26 rfl (lv_at hl 1 rfl) ?_
    refine rd_i (va_runV (As := [.int x]) (rest := []) ⟨hx, hb, hml, hown, hts⟩ (c0_isAllTold l D cy w g a0 a1 a2 a3 a4 a5 0 dn4 6 6 1 0 0 0 k0 k1 k2 k3 k4 k5 k6 x _) (cwV 1 hts gX10_told_X4_isAllTold rfl rfl rfl (by decide +kernel) ⟨Nat.le_of_ble_eq_true rfl, Nat.le_of_ble_eq_true rfl⟩) (pV (ci := 4) (k := 0) hKA (hP.sub (ws' := [(w, .inr (4, [.ref g, .ref a0, .ref a1, .ref a2, .ref a3, .ref a4, .ref a5, .int 0, .long dn4])), (g, .inr (3, [.int 6, .int 6, .int 1, .int 0, .long 0, .long 0, .int 0, .int 0, .int 0, .ref k0, .ref k1, .ref k2, .ref k3, .ref k4, .ref k5, .ref k6]))]) [1, 2] rfl) (hD.sub (ws' := [(w, .inr (4, [.ref g, .ref a0, .ref a1, .ref a2, .ref a3, .ref a4, .ref a5, .int 0, .long dn4])), (g, .inr (3, [.int 6, .int 6, .int 1, .int 0, .long 0, .long 0, .int 0, .int 0, .int 0, .ref k0, .ref k1, .ref k2, .ref k3, .ref k4, .ref k5, .ref k6]))]) [1, 2] (by decide) rfl) rfl rfl) rfl rfl hl.1 rfl (lv_room (Nat.le_of_ble_eq_true rfl)) dX10_told_27 ⟨Nat.le_of_ble_eq_true rfl, Nat.le_of_ble_eq_true rfl⟩) hP hS hA (fun r5 H locs hwr5 hP hS => ?_)
    rcases hwr5 with rfl
    · skip
      refine lv_if_eq (tgt := 37) hx hb dX10_told_30 (by decide) (fun c6 => absurd c6 (by decide)) (fun c6 => ?_)
      refine lv_iconst (v := 1) hx hb dX10_told_33 (by decide) ?_
      refine lv_goto (tgt := 38) hx hb dX10_told_34 (by decide) ?_
      have hP9 := hP.sub (ws' := []) [] rfl
      have hD9 := hD.sub (ws' := []) [] (by decide) rfl
      exact W.iret (v := 1) hx hb hr (fun t ht hW => ⟨⟨1, (), rfl, (by simp [sp_grp, har1, hbr1]), by rw [ht]; exact hP9, hD9⟩, hS.F ht⟩) hS.2.2 dX10_told_38
  · skip
    refine lv_if_ne (tgt := 15) hx hb dX10_told_5 (by decide) (fun c7 => absurd c7 (by decide)) (fun c7 => ?_)
    refine lv_aload_n hx hb dX10_told_8 rfl (lv_at hl 0 rfl) ?_
    refine lv_bipush (v := (-2)) hx hb dX10_told_9 (by decide) ?_
    refine wr_i (wr := [(g, .inr (3, [.int 6, .int 6, .int 1, .int 0, .long 0, .long 0, .int 0, .int 0, .int 0, .ref k0, .ref k1, .ref k2, .ref k3, .ref k4, .ref k5, .ref k6])), (w, .inr (4, [.ref g, .ref a0, .ref a1, .ref a2, .ref a3, .ref a4, .ref a5, .int 0, .long 0]))]) (va_runV (As := [.int (-2)]) (rest := []) ⟨hx, hb, hml, hown, hts⟩ (c_X10_refuseBad l D cy h g df im pn w pa 0 0 0 (-2) _) (cwV 1 hts gX10_told_X10_refuseBad rfl rfl rfl (by decide +kernel) ⟨Nat.le_of_ble_eq_true rfl, Nat.le_of_ble_eq_true rfl⟩) (pV (ci := 10) (k := 0) hKA (hP.sub (ws' := [(h, .inr (10, [.ref g, .ref df, .ref im, .ref pn, .ref w, .ref pa, .int 0, .int 0, .int 0]))]) [0] rfl) (hD.sub (ws' := [(h, .inr (10, [.ref g, .ref df, .ref im, .ref pn, .ref w, .ref pa, .int 0, .int 0, .int 0]))]) [0] (by decide) rfl) rfl rfl) rfl rfl hl.1 rfl (lv_room (Nat.le_of_ble_eq_true rfl)) dX10_told_11 ⟨Nat.le_of_ble_eq_true rfl, Nat.le_of_ble_eq_true rfl⟩) hP hD hS hA [0] [1, 2] rfl rfl (by decide +kernel) (by decide +kernel) (fun r8 ur8 H locs hwr8 hP hD hS => ?_)
    have hP : va_P D vwCl [(g, .inr (3, [.int 6, .int 6, .int 1, .int 0, .long 0, .long 0, .int 0, .int 0, .int 0, .ref k0, .ref k1, .ref k2, .ref k3, .ref k4, .ref k5, .ref k6])), (w, .inr (4, [.ref g, .ref a0, .ref a1, .ref a2, .ref a3, .ref a4, .ref a5, .int 0, .long 0])), (h, .inr (10, [.ref g, .ref df, .ref im, .ref pn, .ref w, .ref pa, .int (0 + 1), .int 0, .int 0]))] H := hP
    have hD : va_D A [(g, .inr (3, [.int 6, .int 6, .int 1, .int 0, .long 0, .long 0, .int 0, .int 0, .int 0, .ref k0, .ref k1, .ref k2, .ref k3, .ref k4, .ref k5, .ref k6])), (w, .inr (4, [.ref g, .ref a0, .ref a1, .ref a2, .ref a3, .ref a4, .ref a5, .int 0, .long 0])), (h, .inr (10, [.ref g, .ref df, .ref im, .ref pn, .ref w, .ref pa, .int (0 + 1), .int 0, .int 0]))] := hD
    subst hwr8
    have hP9 := hP.sub (ws' := []) [] rfl
    have hD9 := hD.sub (ws' := []) [] (by decide) rfl
    exact W.iret (v := (-2)) hx hb hr (fun t ht hW => ⟨⟨(-2), (), rfl, (by simp [sp_grp, hnr1]), by rw [ht]; exact hP9, hD9⟩, hS.F ht⟩) hS.2.2 dX10_told_14

set_option maxHeartbeats 4000000 in
set_option maxRecDepth 100000 in
theorem tp_place (l : Launch) (D : va_G) (cy : Nat → ClassId) (h g df im pn w pa : Nat) (k0 k1 k2 k3 k4 k5 k6 : Nat) (x y : Int32) (sz : Nat)  : Met l yX10_place wsX10_place ({ frames := 1, cells := 0, slots := 0, locals := 21 }) (va_Pc [.ref h, .int x, .int y] (kPre D cy [(h, .inr (10, [.ref g, .ref df, .ref im, .ref pn, .ref w, .ref pa, .int 0, .int 0, .int 0])), (g, .inr (3, [.int 6, .int 6, .int 1, .int 0, .long 0, .long 0, .int 0, .int 0, .int 0, .ref k0, .ref k1, .ref k2, .ref k3, .ref k4, .ref k5, .ref k6]))] sz)) (va_Qi (fun (r : Int32) (_ : Unit) => r = -2) (fun (u : Unit) t => va_P D vwCl ([]) t.heap ∧ va_D (va_A [(h, .inr (10, [.ref g, .ref df, .ref im, .ref pn, .ref w, .ref pa, .int 0, .int 0, .int 0])), (g, .inr (3, [.int 6, .int 6, .int 1, .int 0, .long 0, .long 0, .int 0, .int 0, .int 0, .ref k0, .ref k1, .ref k2, .ref k3, .ref k4, .ref k5, .ref k6]))] sz) ([])) (va_A [(h, .inr (10, [.ref g, .ref df, .ref im, .ref pn, .ref w, .ref pa, .int 0, .int 0, .int 0])), (g, .inr (3, [.int 6, .int 6, .int 1, .int 0, .long 0, .long 0, .int 0, .int 0, .int 0, .ref k0, .ref k1, .ref k2, .ref k3, .ref k4, .ref k5, .ref k6]))] sz)) 0 0 (va_A [(h, .inr (10, [.ref g, .ref df, .ref im, .ref pn, .ref w, .ref pa, .int 0, .int 0, .int 0])), (g, .inr (3, [.int 6, .int 6, .int 1, .int 0, .long 0, .long 0, .int 0, .int 0, .int 0, .ref k0, .ref k1, .ref k2, .ref k3, .ref k4, .ref k5, .ref k6]))] sz) := by
  refine Met.ofW (cc := cX10_place) (maxL := 3) (ret := (some .int)) (by decide) rfl ?_
  intro p e s m args below meth c s₁ B hml hv
  obtain ⟨rfl, hsz, hP, hKA, hD0⟩ := hv
  have hx := B.exec
  have hb := B.bytes
  have hr := B.returns
  have hts := atoms_spec (ws := wsX10_place) B.pre
  have hown : s.vm.findClass RX10 = some m.cls := findClass_of_methodNamed B.named
  have hlocks := B.notSynchronized
  subst hsz
  have hK := hKA.1
  have hD := hD0.self (sz := s.heap.size)
  generalize hAe : va_A [(h, .inr (10, [.ref g, .ref df, .ref im, .ref pn, .ref w, .ref pa, .int 0, .int 0, .int 0])), (g, .inr (3, [.int 6, .int 6, .int 1, .int 0, .long 0, .long 0, .int 0, .int 0, .int 0, .ref k0, .ref k1, .ref k2, .ref k3, .ref k4, .ref k5, .ref k6]))] s.heap.size = A at hD ⊢
  have hA : ∀ q : Nat, s.heap.size ≤ q → A q := fun q h => by rw [← hAe]; exact Or.inr h
  have hS : va_S A s.heap s.heap [] := va_S.rf
  have hP : va_P D vwCl [(h, .inr (10, [.ref g, .ref df, .ref im, .ref pn, .ref w, .ref pa, .int 0, .int 0, .int 0])), (g, .inr (3, [.int 6, .int 6, .int 1, .int 0, .long 0, .long 0, .int 0, .int 0, .int 0, .ref k0, .ref k1, .ref k2, .ref k3, .ref k4, .ref k5, .ref k6]))] s.heap := hP
  have hl := lv_entry ([.ref h, .int x, .int y]) (n := 3) (Nat.le_of_ble_eq_true rfl)
  rw [lg_entry_eq]
  generalize (lg_sl ([.ref h, .int x, .int y]) ++ List.replicate (3 - (lg_sl ([.ref h, .int x, .int y])).length) Slot.unset).toArray = ls at hl ⊢
  have hl : lv_has ls 3 [(0, .ref h), (1, .int x), (2, .int y)] := hl
  have z0_ := hts (.fieldLink RX10 10 "HeardSeen" "now" "LHeardSeen$Garden;") (by decide +kernel)
  have zi10_ : ∀ w ∈ u_ws RX10 TX10 9, w ∈ wsX10_place := by decide +kernel
  refine lv_aload_n hx hb dX10_place_0 rfl (lv_at hl 0 rfl) ?_
  refine va_get (D := D) (ci := 10) (v := .ref g) (C := RX10) (T := TX10) (N := 9) hx hb hts zi10_ hown hK hP 0 rfl rfl 0 (by decide) z0_ (fun _ h9 => h9) rfl dX10_place_1 ?_
  refine lv_iload_n hx hb dX10_place_4 rfl (lv_at hl 1 rfl) ?_
  refine rd_i (va_runV (As := [.int x]) (rest := []) ⟨hx, hb, hml, hown, hts⟩ (c_X3_isPerson l D cy g 6 6 1 0 0 0 0 0 0 k0 k1 k2 k3 k4 k5 k6 x _) (cwV 1 hts gX10_place_X3_isPerson rfl rfl rfl (by decide +kernel) ⟨Nat.le_of_ble_eq_true rfl, Nat.le_of_ble_eq_true rfl⟩) (pV (ci := 3) (k := 0) hKA (hP.sub (ws' := [(g, .inr (3, [.int 6, .int 6, .int 1, .int 0, .long 0, .long 0, .int 0, .int 0, .int 0, .ref k0, .ref k1, .ref k2, .ref k3, .ref k4, .ref k5, .ref k6]))]) [1] rfl) (hD.sub (ws' := [(g, .inr (3, [.int 6, .int 6, .int 1, .int 0, .long 0, .long 0, .int 0, .int 0, .int 0, .ref k0, .ref k1, .ref k2, .ref k3, .ref k4, .ref k5, .ref k6]))]) [1] (by decide) rfl) rfl rfl) rfl rfl hl.1 rfl (lv_room (Nat.le_of_ble_eq_true rfl)) dX10_place_5 ⟨Nat.le_of_ble_eq_true rfl, Nat.le_of_ble_eq_true rfl⟩) hP hS hA (fun r1 H locs hwr1 hP hS => ?_)
  rcases hwr1 with ⟨rfl, har1, hbr1, hcr1⟩ | ⟨rfl, hnr1⟩
  · exact absurd har1 (Int32.not_le.mpr hbr1)
  · skip
    refine lv_if_eq (tgt := 19) hx hb dX10_place_8 (by decide) (fun c2 => ?_) (fun c2 => absurd c2 (by decide))
    refine lv_aload_n hx hb dX10_place_19 rfl (lv_at hl 0 rfl) ?_
    refine lv_bipush (v := (-2)) hx hb dX10_place_20 (by decide) ?_
    refine wr_i (wr := [(g, .inr (3, [.int 6, .int 6, .int 1, .int 0, .long 0, .long 0, .int 0, .int 0, .int 0, .ref k0, .ref k1, .ref k2, .ref k3, .ref k4, .ref k5, .ref k6]))]) (va_runV (As := [.int (-2)]) (rest := []) ⟨hx, hb, hml, hown, hts⟩ (c_X10_refuseBad l D cy h g df im pn w pa 0 0 0 (-2) _) (cwV 1 hts gX10_place_X10_refuseBad rfl rfl rfl (by decide +kernel) ⟨Nat.le_of_ble_eq_true rfl, Nat.le_of_ble_eq_true rfl⟩) (pV (ci := 10) (k := 0) hKA (hP.sub (ws' := [(h, .inr (10, [.ref g, .ref df, .ref im, .ref pn, .ref w, .ref pa, .int 0, .int 0, .int 0]))]) [0] rfl) (hD.sub (ws' := [(h, .inr (10, [.ref g, .ref df, .ref im, .ref pn, .ref w, .ref pa, .int 0, .int 0, .int 0]))]) [0] (by decide) rfl) rfl rfl) rfl rfl hl.1 rfl (lv_room (Nat.le_of_ble_eq_true rfl)) dX10_place_22 ⟨Nat.le_of_ble_eq_true rfl, Nat.le_of_ble_eq_true rfl⟩) hP hD hS hA [0] [1] rfl rfl (by decide +kernel) (by decide +kernel) (fun r3 ur3 H locs hwr3 hP hD hS => ?_)
    have hP : va_P D vwCl [(g, .inr (3, [.int 6, .int 6, .int 1, .int 0, .long 0, .long 0, .int 0, .int 0, .int 0, .ref k0, .ref k1, .ref k2, .ref k3, .ref k4, .ref k5, .ref k6])), (h, .inr (10, [.ref g, .ref df, .ref im, .ref pn, .ref w, .ref pa, .int (0 + 1), .int 0, .int 0]))] H := hP
    have hD : va_D A [(g, .inr (3, [.int 6, .int 6, .int 1, .int 0, .long 0, .long 0, .int 0, .int 0, .int 0, .ref k0, .ref k1, .ref k2, .ref k3, .ref k4, .ref k5, .ref k6])), (h, .inr (10, [.ref g, .ref df, .ref im, .ref pn, .ref w, .ref pa, .int (0 + 1), .int 0, .int 0]))] := hD
    subst hwr3
    have hP9 := hP.sub (ws' := []) [] rfl
    have hD9 := hD.sub (ws' := []) [] (by decide) rfl
    exact W.iret (v := (-2)) hx hb hr (fun t ht hW => ⟨⟨(-2), (), rfl, rfl, by rw [ht]; exact hP9, hD9⟩, hS.F ht⟩) hS.2.2 dX10_place_25

set_option maxHeartbeats 4000000 in
set_option maxRecDepth 100000 in
theorem tp_winds (l : Launch) (D : va_G) (cy : Nat → ClassId) (h g df im pn w pa : Nat) (a0 a1 a2 a3 a4 a5 : Nat) (k0 k1 k2 k3 k4 k5 k6 : Nat) (x : Int32) (sz : Nat)  : Met l yX10_winds wsX10_winds ({ frames := 5, cells := 0, slots := 0, locals := 114 }) (va_Pc [.ref h, .int x] (kPre D cy [(h, .inr (10, [.ref g, .ref df, .ref im, .ref pn, .ref w, .ref pa, .int 0, .int 0, .int 0])), (g, .inr (3, [.int 6, .int 6, .int 1, .int 0, .long 0, .long 0, .int 0, .int 0, .int 0, .ref k0, .ref k1, .ref k2, .ref k3, .ref k4, .ref k5, .ref k6])), (w, .inr (4, [.ref g, .ref a0, .ref a1, .ref a2, .ref a3, .ref a4, .ref a5, .int 0, .long 0]))] sz)) (va_Qi (fun (r : Int32) (_ : Unit) => r = sp_grp x 7) (fun (u : Unit) t => va_P D vwCl ([]) t.heap ∧ va_D (va_A [(h, .inr (10, [.ref g, .ref df, .ref im, .ref pn, .ref w, .ref pa, .int 0, .int 0, .int 0])), (g, .inr (3, [.int 6, .int 6, .int 1, .int 0, .long 0, .long 0, .int 0, .int 0, .int 0, .ref k0, .ref k1, .ref k2, .ref k3, .ref k4, .ref k5, .ref k6])), (w, .inr (4, [.ref g, .ref a0, .ref a1, .ref a2, .ref a3, .ref a4, .ref a5, .int 0, .long 0]))] sz) ([])) (va_A [(h, .inr (10, [.ref g, .ref df, .ref im, .ref pn, .ref w, .ref pa, .int 0, .int 0, .int 0])), (g, .inr (3, [.int 6, .int 6, .int 1, .int 0, .long 0, .long 0, .int 0, .int 0, .int 0, .ref k0, .ref k1, .ref k2, .ref k3, .ref k4, .ref k5, .ref k6])), (w, .inr (4, [.ref g, .ref a0, .ref a1, .ref a2, .ref a3, .ref a4, .ref a5, .int 0, .long 0]))] sz)) 0 0 (va_A [(h, .inr (10, [.ref g, .ref df, .ref im, .ref pn, .ref w, .ref pa, .int 0, .int 0, .int 0])), (g, .inr (3, [.int 6, .int 6, .int 1, .int 0, .long 0, .long 0, .int 0, .int 0, .int 0, .ref k0, .ref k1, .ref k2, .ref k3, .ref k4, .ref k5, .ref k6])), (w, .inr (4, [.ref g, .ref a0, .ref a1, .ref a2, .ref a3, .ref a4, .ref a5, .int 0, .long 0]))] sz) := by
  refine Met.ofW (cc := cX10_winds) (maxL := 2) (ret := (some .int)) (by decide) rfl ?_
  intro p e s m args below meth c s₁ B hml hv
  obtain ⟨rfl, hsz, hP, hKA, hD0⟩ := hv
  have hx := B.exec
  have hb := B.bytes
  have hr := B.returns
  have hts := atoms_spec (ws := wsX10_winds) B.pre
  have hown : s.vm.findClass RX10 = some m.cls := findClass_of_methodNamed B.named
  have hlocks := B.notSynchronized
  subst hsz
  have hK := hKA.1
  have hD := hD0.self (sz := s.heap.size)
  generalize hAe : va_A [(h, .inr (10, [.ref g, .ref df, .ref im, .ref pn, .ref w, .ref pa, .int 0, .int 0, .int 0])), (g, .inr (3, [.int 6, .int 6, .int 1, .int 0, .long 0, .long 0, .int 0, .int 0, .int 0, .ref k0, .ref k1, .ref k2, .ref k3, .ref k4, .ref k5, .ref k6])), (w, .inr (4, [.ref g, .ref a0, .ref a1, .ref a2, .ref a3, .ref a4, .ref a5, .int 0, .long 0]))] s.heap.size = A at hD ⊢
  have hA : ∀ q : Nat, s.heap.size ≤ q → A q := fun q h => by rw [← hAe]; exact Or.inr h
  have hS : va_S A s.heap s.heap [] := va_S.rf
  have hP : va_P D vwCl [(h, .inr (10, [.ref g, .ref df, .ref im, .ref pn, .ref w, .ref pa, .int 0, .int 0, .int 0])), (g, .inr (3, [.int 6, .int 6, .int 1, .int 0, .long 0, .long 0, .int 0, .int 0, .int 0, .ref k0, .ref k1, .ref k2, .ref k3, .ref k4, .ref k5, .ref k6])), (w, .inr (4, [.ref g, .ref a0, .ref a1, .ref a2, .ref a3, .ref a4, .ref a5, .int 0, .long 0]))] s.heap := hP
  have hl := lv_entry ([.ref h, .int x]) (n := 2) (Nat.le_of_ble_eq_true rfl)
  rw [lg_entry_eq]
  generalize (lg_sl ([.ref h, .int x]) ++ List.replicate (2 - (lg_sl ([.ref h, .int x])).length) Slot.unset).toArray = ls at hl ⊢
  have hl : lv_has ls 2 [(0, .ref h), (1, .int x)] := hl
  have z0_ := hts (.fieldLink RX10 35 "HeardSeen" "law" "LHeardSeen$Law;") (by decide +kernel)
  have zi10_ : ∀ w ∈ u_ws RX10 TX10 9, w ∈ wsX10_winds := by decide +kernel
  refine lv_aload_n hx hb dX10_winds_0 rfl (lv_at hl 0 rfl) ?_
  refine lv_iload_n hx hb dX10_winds_1 rfl (lv_at hl 1 rfl) ?_
  refine rd_i (va_runV (As := [.int x]) (rest := []) ⟨hx, hb, hml, hown, hts⟩ (c0_isGroup l D cy h g df im pn w pa 0 0 0 k0 k1 k2 k3 k4 k5 k6 x _) (cwV 1 hts gX10_winds_X10_isGroup rfl rfl rfl (by decide +kernel) ⟨Nat.le_of_ble_eq_true rfl, Nat.le_of_ble_eq_true rfl⟩) (pV (ci := 10) (k := 0) hKA (hP.sub (ws' := [(h, .inr (10, [.ref g, .ref df, .ref im, .ref pn, .ref w, .ref pa, .int 0, .int 0, .int 0])), (g, .inr (3, [.int 6, .int 6, .int 1, .int 0, .long 0, .long 0, .int 0, .int 0, .int 0, .ref k0, .ref k1, .ref k2, .ref k3, .ref k4, .ref k5, .ref k6]))]) [0, 1] rfl) (hD.sub (ws' := [(h, .inr (10, [.ref g, .ref df, .ref im, .ref pn, .ref w, .ref pa, .int 0, .int 0, .int 0])), (g, .inr (3, [.int 6, .int 6, .int 1, .int 0, .long 0, .long 0, .int 0, .int 0, .int 0, .ref k0, .ref k1, .ref k2, .ref k3, .ref k4, .ref k5, .ref k6]))]) [0, 1] (by decide) rfl) rfl rfl) rfl rfl hl.1 rfl (lv_room (Nat.le_of_ble_eq_true rfl)) dX10_winds_2 ⟨Nat.le_of_ble_eq_true rfl, Nat.le_of_ble_eq_true rfl⟩) hP hS hA (fun r1 H locs hwr1 hP hS => ?_)
  rcases hwr1 with ⟨rfl, har1, hbr1⟩ | ⟨rfl, hnr1⟩
  · skip
    refine lv_if_ne (tgt := 15) hx hb dX10_winds_5 (by decide) (fun c2 => ?_) (fun c2 => absurd c2 (by decide))
    refine lv_aload_n hx hb dX10_winds_15 rfl (lv_at hl 0 rfl) ?_
    refine va_get (D := D) (ci := 10) (v := .ref w) (C := RX10) (T := TX10) (N := 9) hx hb hts zi10_ hown hK hP 0 rfl rfl 4 (by decide) z0_ (fun _ h9 => h9) rfl dX10_winds_16 ?_
    refine lv_iload_n hx hb dX10_winds_19 rfl (lv_at hl 1 rfl) ?_
    refine wr_i (wr := [(h, .inr (10, [.ref g, .ref df, .ref im, .ref pn, .ref w, .ref pa, .int 0, .int 0, .int 0]))]) (va_runV (As := [.int x]) (rest := []) ⟨hx, hb, hml, hown, hts⟩ (c0_winds l D cy w g a0 a1 a2 a3 a4 a5 0 0 6 6 1 0 0 0 k0 k1 k2 k3 k4 k5 k6 x _) (cwV 1 hts gX10_winds_X4_windsWhereTold rfl rfl rfl (by decide +kernel) ⟨Nat.le_of_ble_eq_true rfl, Nat.le_of_ble_eq_true rfl⟩) (pV (ci := 4) (k := 0) hKA (hP.sub (ws' := [(w, .inr (4, [.ref g, .ref a0, .ref a1, .ref a2, .ref a3, .ref a4, .ref a5, .int 0, .long 0])), (g, .inr (3, [.int 6, .int 6, .int 1, .int 0, .long 0, .long 0, .int 0, .int 0, .int 0, .ref k0, .ref k1, .ref k2, .ref k3, .ref k4, .ref k5, .ref k6]))]) [2, 1] rfl) (hD.sub (ws' := [(w, .inr (4, [.ref g, .ref a0, .ref a1, .ref a2, .ref a3, .ref a4, .ref a5, .int 0, .long 0])), (g, .inr (3, [.int 6, .int 6, .int 1, .int 0, .long 0, .long 0, .int 0, .int 0, .int 0, .ref k0, .ref k1, .ref k2, .ref k3, .ref k4, .ref k5, .ref k6]))]) [2, 1] (by decide) rfl) rfl rfl) rfl rfl hl.1 rfl (lv_room (Nat.le_of_ble_eq_true rfl)) dX10_winds_20 ⟨Nat.le_of_ble_eq_true rfl, Nat.le_of_ble_eq_true rfl⟩) hP hD hS hA [2, 1] [0] rfl rfl (by decide +kernel) (by decide +kernel) (fun r3 ur3 H locs hwr3 hP hD hS => ?_)
    have hP : va_P D vwCl [(h, .inr (10, [.ref g, .ref df, .ref im, .ref pn, .ref w, .ref pa, .int 0, .int 0, .int 0]))] H := hP
    have hD : va_D A [(h, .inr (10, [.ref g, .ref df, .ref im, .ref pn, .ref w, .ref pa, .int 0, .int 0, .int 0]))] := hD
    rcases hwr3 with rfl
    · skip
      have hP9 := hP.sub (ws' := []) [] rfl
      have hD9 := hD.sub (ws' := []) [] (by decide) rfl
      exact W.iret (v := 7) hx hb hr (fun t ht hW => ⟨⟨7, (), rfl, (by simp [sp_grp, har1, hbr1]), by rw [ht]; exact hP9, hD9⟩, hS.F ht⟩) hS.2.2 dX10_winds_23
  · skip
    refine lv_if_ne (tgt := 15) hx hb dX10_winds_5 (by decide) (fun c4 => absurd c4 (by decide)) (fun c4 => ?_)
    refine lv_aload_n hx hb dX10_winds_8 rfl (lv_at hl 0 rfl) ?_
    refine lv_bipush (v := (-2)) hx hb dX10_winds_9 (by decide) ?_
    refine wr_i (wr := [(g, .inr (3, [.int 6, .int 6, .int 1, .int 0, .long 0, .long 0, .int 0, .int 0, .int 0, .ref k0, .ref k1, .ref k2, .ref k3, .ref k4, .ref k5, .ref k6])), (w, .inr (4, [.ref g, .ref a0, .ref a1, .ref a2, .ref a3, .ref a4, .ref a5, .int 0, .long 0]))]) (va_runV (As := [.int (-2)]) (rest := []) ⟨hx, hb, hml, hown, hts⟩ (c_X10_refuseBad l D cy h g df im pn w pa 0 0 0 (-2) _) (cwV 1 hts gX10_winds_X10_refuseBad rfl rfl rfl (by decide +kernel) ⟨Nat.le_of_ble_eq_true rfl, Nat.le_of_ble_eq_true rfl⟩) (pV (ci := 10) (k := 0) hKA (hP.sub (ws' := [(h, .inr (10, [.ref g, .ref df, .ref im, .ref pn, .ref w, .ref pa, .int 0, .int 0, .int 0]))]) [0] rfl) (hD.sub (ws' := [(h, .inr (10, [.ref g, .ref df, .ref im, .ref pn, .ref w, .ref pa, .int 0, .int 0, .int 0]))]) [0] (by decide) rfl) rfl rfl) rfl rfl hl.1 rfl (lv_room (Nat.le_of_ble_eq_true rfl)) dX10_winds_11 ⟨Nat.le_of_ble_eq_true rfl, Nat.le_of_ble_eq_true rfl⟩) hP hD hS hA [0] [1, 2] rfl rfl (by decide +kernel) (by decide +kernel) (fun r5 ur5 H locs hwr5 hP hD hS => ?_)
    have hP : va_P D vwCl [(g, .inr (3, [.int 6, .int 6, .int 1, .int 0, .long 0, .long 0, .int 0, .int 0, .int 0, .ref k0, .ref k1, .ref k2, .ref k3, .ref k4, .ref k5, .ref k6])), (w, .inr (4, [.ref g, .ref a0, .ref a1, .ref a2, .ref a3, .ref a4, .ref a5, .int 0, .long 0])), (h, .inr (10, [.ref g, .ref df, .ref im, .ref pn, .ref w, .ref pa, .int (0 + 1), .int 0, .int 0]))] H := hP
    have hD : va_D A [(g, .inr (3, [.int 6, .int 6, .int 1, .int 0, .long 0, .long 0, .int 0, .int 0, .int 0, .ref k0, .ref k1, .ref k2, .ref k3, .ref k4, .ref k5, .ref k6])), (w, .inr (4, [.ref g, .ref a0, .ref a1, .ref a2, .ref a3, .ref a4, .ref a5, .int 0, .long 0])), (h, .inr (10, [.ref g, .ref df, .ref im, .ref pn, .ref w, .ref pa, .int (0 + 1), .int 0, .int 0]))] := hD
    subst hwr5
    have hP9 := hP.sub (ws' := []) [] rfl
    have hD9 := hD.sub (ws' := []) [] (by decide) rfl
    exact W.iret (v := (-2)) hx hb hr (fun t ht hW => ⟨⟨(-2), (), rfl, (by simp [sp_grp, hnr1]), by rw [ht]; exact hP9, hD9⟩, hS.F ht⟩) hS.2.2 dX10_winds_14

set_option maxHeartbeats 4000000 in
set_option maxRecDepth 100000 in
theorem tp_walk (l : Launch) (D : va_G) (cy : Nat → ClassId) (h g df im pn w pa : Nat) (k0 k1 k2 k3 k4 k5 k6 : Nat) (x y z t : Int32) (sz : Nat)  : Met l yX10_walk wsX10_walk ({ frames := 1, cells := 0, slots := 0, locals := 21 }) (va_Pc [.ref h, .int x, .int y, .int z, .int t] (kPre D cy [(h, .inr (10, [.ref g, .ref df, .ref im, .ref pn, .ref w, .ref pa, .int 0, .int 0, .int 0])), (g, .inr (3, [.int 6, .int 6, .int 1, .int 0, .long 0, .long 0, .int 0, .int 0, .int 0, .ref k0, .ref k1, .ref k2, .ref k3, .ref k4, .ref k5, .ref k6]))] sz)) (va_Qi (fun (r : Int32) (_ : Unit) => r = -10) (fun (u : Unit) t => va_P D vwCl ([]) t.heap ∧ va_D (va_A [(h, .inr (10, [.ref g, .ref df, .ref im, .ref pn, .ref w, .ref pa, .int 0, .int 0, .int 0])), (g, .inr (3, [.int 6, .int 6, .int 1, .int 0, .long 0, .long 0, .int 0, .int 0, .int 0, .ref k0, .ref k1, .ref k2, .ref k3, .ref k4, .ref k5, .ref k6]))] sz) ([])) (va_A [(h, .inr (10, [.ref g, .ref df, .ref im, .ref pn, .ref w, .ref pa, .int 0, .int 0, .int 0])), (g, .inr (3, [.int 6, .int 6, .int 1, .int 0, .long 0, .long 0, .int 0, .int 0, .int 0, .ref k0, .ref k1, .ref k2, .ref k3, .ref k4, .ref k5, .ref k6]))] sz)) 0 0 (va_A [(h, .inr (10, [.ref g, .ref df, .ref im, .ref pn, .ref w, .ref pa, .int 0, .int 0, .int 0])), (g, .inr (3, [.int 6, .int 6, .int 1, .int 0, .long 0, .long 0, .int 0, .int 0, .int 0, .ref k0, .ref k1, .ref k2, .ref k3, .ref k4, .ref k5, .ref k6]))] sz) := by
  refine Met.ofW (cc := cX10_walk) (maxL := 7) (ret := (some .int)) (by decide) rfl ?_
  intro p e s m args below meth c s₁ B hml hv
  obtain ⟨rfl, hsz, hP, hKA, hD0⟩ := hv
  have hx := B.exec
  have hb := B.bytes
  have hr := B.returns
  have hts := atoms_spec (ws := wsX10_walk) B.pre
  have hown : s.vm.findClass RX10 = some m.cls := findClass_of_methodNamed B.named
  have hlocks := B.notSynchronized
  subst hsz
  have hK := hKA.1
  have hD := hD0.self (sz := s.heap.size)
  generalize hAe : va_A [(h, .inr (10, [.ref g, .ref df, .ref im, .ref pn, .ref w, .ref pa, .int 0, .int 0, .int 0])), (g, .inr (3, [.int 6, .int 6, .int 1, .int 0, .long 0, .long 0, .int 0, .int 0, .int 0, .ref k0, .ref k1, .ref k2, .ref k3, .ref k4, .ref k5, .ref k6]))] s.heap.size = A at hD ⊢
  have hA : ∀ q : Nat, s.heap.size ≤ q → A q := fun q h => by rw [← hAe]; exact Or.inr h
  have hS : va_S A s.heap s.heap [] := va_S.rf
  have hP : va_P D vwCl [(h, .inr (10, [.ref g, .ref df, .ref im, .ref pn, .ref w, .ref pa, .int 0, .int 0, .int 0])), (g, .inr (3, [.int 6, .int 6, .int 1, .int 0, .long 0, .long 0, .int 0, .int 0, .int 0, .ref k0, .ref k1, .ref k2, .ref k3, .ref k4, .ref k5, .ref k6]))] s.heap := hP
  have hl := lv_entry ([.ref h, .int x, .int y, .int z, .int t]) (n := 7) (Nat.le_of_ble_eq_true rfl)
  rw [lg_entry_eq]
  generalize (lg_sl ([.ref h, .int x, .int y, .int z, .int t]) ++ List.replicate (7 - (lg_sl ([.ref h, .int x, .int y, .int z, .int t])).length) Slot.unset).toArray = ls at hl ⊢
  have hl : lv_has ls 7 [(0, .ref h), (1, .int x), (2, .int y), (3, .int z), (4, .int t)] := hl
  have z0_ := hts (.fieldLink RX10 10 "HeardSeen" "now" "LHeardSeen$Garden;") (by decide +kernel)
  have zi10_ : ∀ w ∈ u_ws RX10 TX10 9, w ∈ wsX10_walk := by decide +kernel
  refine lv_aload_n hx hb dX10_walk_0 rfl (lv_at hl 0 rfl) ?_
  refine va_get (D := D) (ci := 10) (v := .ref g) (C := RX10) (T := TX10) (N := 9) hx hb hts zi10_ hown hK hP 0 rfl rfl 0 (by decide) z0_ (fun _ h9 => h9) rfl dX10_walk_1 ?_
  refine lv_iload_n hx hb dX10_walk_4 rfl (lv_at hl 1 rfl) ?_
  refine rd_i (va_runV (As := [.int x]) (rest := []) ⟨hx, hb, hml, hown, hts⟩ (c_X3_isPerson l D cy g 6 6 1 0 0 0 0 0 0 k0 k1 k2 k3 k4 k5 k6 x _) (cwV 1 hts gX10_walk_X3_isPerson rfl rfl rfl (by decide +kernel) ⟨Nat.le_of_ble_eq_true rfl, Nat.le_of_ble_eq_true rfl⟩) (pV (ci := 3) (k := 0) hKA (hP.sub (ws' := [(g, .inr (3, [.int 6, .int 6, .int 1, .int 0, .long 0, .long 0, .int 0, .int 0, .int 0, .ref k0, .ref k1, .ref k2, .ref k3, .ref k4, .ref k5, .ref k6]))]) [1] rfl) (hD.sub (ws' := [(g, .inr (3, [.int 6, .int 6, .int 1, .int 0, .long 0, .long 0, .int 0, .int 0, .int 0, .ref k0, .ref k1, .ref k2, .ref k3, .ref k4, .ref k5, .ref k6]))]) [1] (by decide) rfl) rfl rfl) rfl rfl hl.1 rfl (lv_room (Nat.le_of_ble_eq_true rfl)) dX10_walk_5 ⟨Nat.le_of_ble_eq_true rfl, Nat.le_of_ble_eq_true rfl⟩) hP hS hA (fun r1 H locs hwr1 hP hS => ?_)
  rcases hwr1 with ⟨rfl, har1, hbr1, hcr1⟩ | ⟨rfl, hnr1⟩
  · exact absurd har1 (Int32.not_le.mpr hbr1)
  · skip
    refine lv_if_eq (tgt := 36) hx hb dX10_walk_8 (by decide) (fun c2 => ?_) (fun c2 => absurd c2 (by decide))
    refine lv_aload_n hx hb dX10_walk_36 rfl (lv_at hl 0 rfl) ?_
    refine lv_bipush (v := (-10)) hx hb dX10_walk_37 (by decide) ?_
    refine wr_i (wr := [(g, .inr (3, [.int 6, .int 6, .int 1, .int 0, .long 0, .long 0, .int 0, .int 0, .int 0, .ref k0, .ref k1, .ref k2, .ref k3, .ref k4, .ref k5, .ref k6]))]) (va_runV (As := [.int (-10)]) (rest := []) ⟨hx, hb, hml, hown, hts⟩ (c_X10_refuseBad l D cy h g df im pn w pa 0 0 0 (-10) _) (cwV 1 hts gX10_walk_X10_refuseBad rfl rfl rfl (by decide +kernel) ⟨Nat.le_of_ble_eq_true rfl, Nat.le_of_ble_eq_true rfl⟩) (pV (ci := 10) (k := 0) hKA (hP.sub (ws' := [(h, .inr (10, [.ref g, .ref df, .ref im, .ref pn, .ref w, .ref pa, .int 0, .int 0, .int 0]))]) [0] rfl) (hD.sub (ws' := [(h, .inr (10, [.ref g, .ref df, .ref im, .ref pn, .ref w, .ref pa, .int 0, .int 0, .int 0]))]) [0] (by decide) rfl) rfl rfl) rfl rfl hl.1 rfl (lv_room (Nat.le_of_ble_eq_true rfl)) dX10_walk_39 ⟨Nat.le_of_ble_eq_true rfl, Nat.le_of_ble_eq_true rfl⟩) hP hD hS hA [0] [1] rfl rfl (by decide +kernel) (by decide +kernel) (fun r3 ur3 H locs hwr3 hP hD hS => ?_)
    have hP : va_P D vwCl [(g, .inr (3, [.int 6, .int 6, .int 1, .int 0, .long 0, .long 0, .int 0, .int 0, .int 0, .ref k0, .ref k1, .ref k2, .ref k3, .ref k4, .ref k5, .ref k6])), (h, .inr (10, [.ref g, .ref df, .ref im, .ref pn, .ref w, .ref pa, .int (0 + 1), .int 0, .int 0]))] H := hP
    have hD : va_D A [(g, .inr (3, [.int 6, .int 6, .int 1, .int 0, .long 0, .long 0, .int 0, .int 0, .int 0, .ref k0, .ref k1, .ref k2, .ref k3, .ref k4, .ref k5, .ref k6])), (h, .inr (10, [.ref g, .ref df, .ref im, .ref pn, .ref w, .ref pa, .int (0 + 1), .int 0, .int 0]))] := hD
    subst hwr3
    have hP9 := hP.sub (ws' := []) [] rfl
    have hD9 := hD.sub (ws' := []) [] (by decide) rfl
    exact W.iret (v := (-10)) hx hb hr (fun t ht hW => ⟨⟨(-10), (), rfl, rfl, by rw [ht]; exact hP9, hD9⟩, hS.F ht⟩) hS.2.2 dX10_walk_42

set_option maxHeartbeats 4000000 in
set_option maxRecDepth 100000 in
theorem tp_parade (l : Launch) (D : va_G) (cy : Nat → ClassId) (h g df im pn w pa : Nat) (k0 k1 k2 k3 k4 k5 k6 : Nat) (x y : Int32) (sz : Nat)  : Met l yX10_parade wsX10_parade ({ frames := 1, cells := 0, slots := 0, locals := 21 }) (va_Pc [.ref h, .int x, .int y] (kPre D cy [(h, .inr (10, [.ref g, .ref df, .ref im, .ref pn, .ref w, .ref pa, .int 0, .int 0, .int 0])), (g, .inr (3, [.int 6, .int 6, .int 1, .int 0, .long 0, .long 0, .int 0, .int 0, .int 0, .ref k0, .ref k1, .ref k2, .ref k3, .ref k4, .ref k5, .ref k6]))] sz)) (va_Qi (fun (r : Int32) (_ : Unit) => r = -2) (fun (u : Unit) t => va_P D vwCl ([]) t.heap ∧ va_D (va_A [(h, .inr (10, [.ref g, .ref df, .ref im, .ref pn, .ref w, .ref pa, .int 0, .int 0, .int 0])), (g, .inr (3, [.int 6, .int 6, .int 1, .int 0, .long 0, .long 0, .int 0, .int 0, .int 0, .ref k0, .ref k1, .ref k2, .ref k3, .ref k4, .ref k5, .ref k6]))] sz) ([])) (va_A [(h, .inr (10, [.ref g, .ref df, .ref im, .ref pn, .ref w, .ref pa, .int 0, .int 0, .int 0])), (g, .inr (3, [.int 6, .int 6, .int 1, .int 0, .long 0, .long 0, .int 0, .int 0, .int 0, .ref k0, .ref k1, .ref k2, .ref k3, .ref k4, .ref k5, .ref k6]))] sz)) 0 0 (va_A [(h, .inr (10, [.ref g, .ref df, .ref im, .ref pn, .ref w, .ref pa, .int 0, .int 0, .int 0])), (g, .inr (3, [.int 6, .int 6, .int 1, .int 0, .long 0, .long 0, .int 0, .int 0, .int 0, .ref k0, .ref k1, .ref k2, .ref k3, .ref k4, .ref k5, .ref k6]))] sz) := by
  refine Met.ofW (cc := cX10_parade) (maxL := 5) (ret := (some .int)) (by decide) rfl ?_
  intro p e s m args below meth c s₁ B hml hv
  obtain ⟨rfl, hsz, hP, hKA, hD0⟩ := hv
  have hx := B.exec
  have hb := B.bytes
  have hr := B.returns
  have hts := atoms_spec (ws := wsX10_parade) B.pre
  have hown : s.vm.findClass RX10 = some m.cls := findClass_of_methodNamed B.named
  have hlocks := B.notSynchronized
  subst hsz
  have hK := hKA.1
  have hD := hD0.self (sz := s.heap.size)
  generalize hAe : va_A [(h, .inr (10, [.ref g, .ref df, .ref im, .ref pn, .ref w, .ref pa, .int 0, .int 0, .int 0])), (g, .inr (3, [.int 6, .int 6, .int 1, .int 0, .long 0, .long 0, .int 0, .int 0, .int 0, .ref k0, .ref k1, .ref k2, .ref k3, .ref k4, .ref k5, .ref k6]))] s.heap.size = A at hD ⊢
  have hA : ∀ q : Nat, s.heap.size ≤ q → A q := fun q h => by rw [← hAe]; exact Or.inr h
  have hS : va_S A s.heap s.heap [] := va_S.rf
  have hP : va_P D vwCl [(h, .inr (10, [.ref g, .ref df, .ref im, .ref pn, .ref w, .ref pa, .int 0, .int 0, .int 0])), (g, .inr (3, [.int 6, .int 6, .int 1, .int 0, .long 0, .long 0, .int 0, .int 0, .int 0, .ref k0, .ref k1, .ref k2, .ref k3, .ref k4, .ref k5, .ref k6]))] s.heap := hP
  have hl := lv_entry ([.ref h, .int x, .int y]) (n := 5) (Nat.le_of_ble_eq_true rfl)
  rw [lg_entry_eq]
  generalize (lg_sl ([.ref h, .int x, .int y]) ++ List.replicate (5 - (lg_sl ([.ref h, .int x, .int y])).length) Slot.unset).toArray = ls at hl ⊢
  have hl : lv_has ls 5 [(0, .ref h), (1, .int x), (2, .int y)] := hl
  have z0_ := hts (.fieldLink RX10 10 "HeardSeen" "now" "LHeardSeen$Garden;") (by decide +kernel)
  have zi10_ : ∀ w ∈ u_ws RX10 TX10 9, w ∈ wsX10_parade := by decide +kernel
  refine lv_aload_n hx hb dX10_parade_0 rfl (lv_at hl 0 rfl) ?_
  refine va_get (D := D) (ci := 10) (v := .ref g) (C := RX10) (T := TX10) (N := 9) hx hb hts zi10_ hown hK hP 0 rfl rfl 0 (by decide) z0_ (fun _ h9 => h9) rfl dX10_parade_1 ?_
  refine lv_iload_n hx hb dX10_parade_4 rfl (lv_at hl 1 rfl) ?_
  refine rd_i (va_runV (As := [.int x]) (rest := []) ⟨hx, hb, hml, hown, hts⟩ (c_X3_isPerson l D cy g 6 6 1 0 0 0 0 0 0 k0 k1 k2 k3 k4 k5 k6 x _) (cwV 1 hts gX10_parade_X3_isPerson rfl rfl rfl (by decide +kernel) ⟨Nat.le_of_ble_eq_true rfl, Nat.le_of_ble_eq_true rfl⟩) (pV (ci := 3) (k := 0) hKA (hP.sub (ws' := [(g, .inr (3, [.int 6, .int 6, .int 1, .int 0, .long 0, .long 0, .int 0, .int 0, .int 0, .ref k0, .ref k1, .ref k2, .ref k3, .ref k4, .ref k5, .ref k6]))]) [1] rfl) (hD.sub (ws' := [(g, .inr (3, [.int 6, .int 6, .int 1, .int 0, .long 0, .long 0, .int 0, .int 0, .int 0, .ref k0, .ref k1, .ref k2, .ref k3, .ref k4, .ref k5, .ref k6]))]) [1] (by decide) rfl) rfl rfl) rfl rfl hl.1 rfl (lv_room (Nat.le_of_ble_eq_true rfl)) dX10_parade_5 ⟨Nat.le_of_ble_eq_true rfl, Nat.le_of_ble_eq_true rfl⟩) hP hS hA (fun r1 H locs hwr1 hP hS => ?_)
  rcases hwr1 with ⟨rfl, har1, hbr1, hcr1⟩ | ⟨rfl, hnr1⟩
  · exact absurd har1 (Int32.not_le.mpr hbr1)
  · skip
    refine lv_if_eq (tgt := 20) hx hb dX10_parade_8 (by decide) (fun c2 => ?_) (fun c2 => absurd c2 (by decide))
    refine lv_aload_n hx hb dX10_parade_20 rfl (lv_at hl 0 rfl) ?_
    refine lv_bipush (v := (-2)) hx hb dX10_parade_21 (by decide) ?_
    refine wr_i (wr := [(g, .inr (3, [.int 6, .int 6, .int 1, .int 0, .long 0, .long 0, .int 0, .int 0, .int 0, .ref k0, .ref k1, .ref k2, .ref k3, .ref k4, .ref k5, .ref k6]))]) (va_runV (As := [.int (-2)]) (rest := []) ⟨hx, hb, hml, hown, hts⟩ (c_X10_refuseBad l D cy h g df im pn w pa 0 0 0 (-2) _) (cwV 1 hts gX10_parade_X10_refuseBad rfl rfl rfl (by decide +kernel) ⟨Nat.le_of_ble_eq_true rfl, Nat.le_of_ble_eq_true rfl⟩) (pV (ci := 10) (k := 0) hKA (hP.sub (ws' := [(h, .inr (10, [.ref g, .ref df, .ref im, .ref pn, .ref w, .ref pa, .int 0, .int 0, .int 0]))]) [0] rfl) (hD.sub (ws' := [(h, .inr (10, [.ref g, .ref df, .ref im, .ref pn, .ref w, .ref pa, .int 0, .int 0, .int 0]))]) [0] (by decide) rfl) rfl rfl) rfl rfl hl.1 rfl (lv_room (Nat.le_of_ble_eq_true rfl)) dX10_parade_23 ⟨Nat.le_of_ble_eq_true rfl, Nat.le_of_ble_eq_true rfl⟩) hP hD hS hA [0] [1] rfl rfl (by decide +kernel) (by decide +kernel) (fun r3 ur3 H locs hwr3 hP hD hS => ?_)
    have hP : va_P D vwCl [(g, .inr (3, [.int 6, .int 6, .int 1, .int 0, .long 0, .long 0, .int 0, .int 0, .int 0, .ref k0, .ref k1, .ref k2, .ref k3, .ref k4, .ref k5, .ref k6])), (h, .inr (10, [.ref g, .ref df, .ref im, .ref pn, .ref w, .ref pa, .int (0 + 1), .int 0, .int 0]))] H := hP
    have hD : va_D A [(g, .inr (3, [.int 6, .int 6, .int 1, .int 0, .long 0, .long 0, .int 0, .int 0, .int 0, .ref k0, .ref k1, .ref k2, .ref k3, .ref k4, .ref k5, .ref k6])), (h, .inr (10, [.ref g, .ref df, .ref im, .ref pn, .ref w, .ref pa, .int (0 + 1), .int 0, .int 0]))] := hD
    subst hwr3
    have hP9 := hP.sub (ws' := []) [] rfl
    have hD9 := hD.sub (ws' := []) [] (by decide) rfl
    exact W.iret (v := (-2)) hx hb hr (fun t ht hW => ⟨⟨(-2), (), rfl, rfl, by rw [ht]; exact hP9, hD9⟩, hS.F ht⟩) hS.2.2 dX10_parade_26

set_option maxHeartbeats 4000000 in
set_option maxRecDepth 100000 in
theorem tp_lesson (l : Launch) (D : va_G) (cy : Nat → ClassId) (h g df im pn w pa : Nat) (k0 k1 k2 k3 k4 k5 k6 : Nat) (x y : Int32) (sz : Nat)  : Met l yX10_lesson wsX10_lesson ({ frames := 1, cells := 0, slots := 0, locals := 21 }) (va_Pc [.ref h, .int x, .int y] (kPre D cy [(h, .inr (10, [.ref g, .ref df, .ref im, .ref pn, .ref w, .ref pa, .int 0, .int 0, .int 0])), (g, .inr (3, [.int 6, .int 6, .int 1, .int 0, .long 0, .long 0, .int 0, .int 0, .int 0, .ref k0, .ref k1, .ref k2, .ref k3, .ref k4, .ref k5, .ref k6]))] sz)) (va_Qi (fun (r : Int32) (_ : Unit) => r = -2) (fun (u : Unit) t => va_P D vwCl ([]) t.heap ∧ va_D (va_A [(h, .inr (10, [.ref g, .ref df, .ref im, .ref pn, .ref w, .ref pa, .int 0, .int 0, .int 0])), (g, .inr (3, [.int 6, .int 6, .int 1, .int 0, .long 0, .long 0, .int 0, .int 0, .int 0, .ref k0, .ref k1, .ref k2, .ref k3, .ref k4, .ref k5, .ref k6]))] sz) ([])) (va_A [(h, .inr (10, [.ref g, .ref df, .ref im, .ref pn, .ref w, .ref pa, .int 0, .int 0, .int 0])), (g, .inr (3, [.int 6, .int 6, .int 1, .int 0, .long 0, .long 0, .int 0, .int 0, .int 0, .ref k0, .ref k1, .ref k2, .ref k3, .ref k4, .ref k5, .ref k6]))] sz)) 0 0 (va_A [(h, .inr (10, [.ref g, .ref df, .ref im, .ref pn, .ref w, .ref pa, .int 0, .int 0, .int 0])), (g, .inr (3, [.int 6, .int 6, .int 1, .int 0, .long 0, .long 0, .int 0, .int 0, .int 0, .ref k0, .ref k1, .ref k2, .ref k3, .ref k4, .ref k5, .ref k6]))] sz) := by
  refine Met.ofW (cc := cX10_lesson) (maxL := 3) (ret := (some .int)) (by decide) rfl ?_
  intro p e s m args below meth c s₁ B hml hv
  obtain ⟨rfl, hsz, hP, hKA, hD0⟩ := hv
  have hx := B.exec
  have hb := B.bytes
  have hr := B.returns
  have hts := atoms_spec (ws := wsX10_lesson) B.pre
  have hown : s.vm.findClass RX10 = some m.cls := findClass_of_methodNamed B.named
  have hlocks := B.notSynchronized
  subst hsz
  have hK := hKA.1
  have hD := hD0.self (sz := s.heap.size)
  generalize hAe : va_A [(h, .inr (10, [.ref g, .ref df, .ref im, .ref pn, .ref w, .ref pa, .int 0, .int 0, .int 0])), (g, .inr (3, [.int 6, .int 6, .int 1, .int 0, .long 0, .long 0, .int 0, .int 0, .int 0, .ref k0, .ref k1, .ref k2, .ref k3, .ref k4, .ref k5, .ref k6]))] s.heap.size = A at hD ⊢
  have hA : ∀ q : Nat, s.heap.size ≤ q → A q := fun q h => by rw [← hAe]; exact Or.inr h
  have hS : va_S A s.heap s.heap [] := va_S.rf
  have hP : va_P D vwCl [(h, .inr (10, [.ref g, .ref df, .ref im, .ref pn, .ref w, .ref pa, .int 0, .int 0, .int 0])), (g, .inr (3, [.int 6, .int 6, .int 1, .int 0, .long 0, .long 0, .int 0, .int 0, .int 0, .ref k0, .ref k1, .ref k2, .ref k3, .ref k4, .ref k5, .ref k6]))] s.heap := hP
  have hl := lv_entry ([.ref h, .int x, .int y]) (n := 3) (Nat.le_of_ble_eq_true rfl)
  rw [lg_entry_eq]
  generalize (lg_sl ([.ref h, .int x, .int y]) ++ List.replicate (3 - (lg_sl ([.ref h, .int x, .int y])).length) Slot.unset).toArray = ls at hl ⊢
  have hl : lv_has ls 3 [(0, .ref h), (1, .int x), (2, .int y)] := hl
  have z0_ := hts (.fieldLink RX10 10 "HeardSeen" "now" "LHeardSeen$Garden;") (by decide +kernel)
  have zi10_ : ∀ w ∈ u_ws RX10 TX10 9, w ∈ wsX10_lesson := by decide +kernel
  refine lv_aload_n hx hb dX10_lesson_0 rfl (lv_at hl 0 rfl) ?_
  refine va_get (D := D) (ci := 10) (v := .ref g) (C := RX10) (T := TX10) (N := 9) hx hb hts zi10_ hown hK hP 0 rfl rfl 0 (by decide) z0_ (fun _ h9 => h9) rfl dX10_lesson_1 ?_
  refine lv_iload_n hx hb dX10_lesson_4 rfl (lv_at hl 1 rfl) ?_
  refine rd_i (va_runV (As := [.int x]) (rest := []) ⟨hx, hb, hml, hown, hts⟩ (c_X3_isPerson l D cy g 6 6 1 0 0 0 0 0 0 k0 k1 k2 k3 k4 k5 k6 x _) (cwV 1 hts gX10_lesson_X3_isPerson rfl rfl rfl (by decide +kernel) ⟨Nat.le_of_ble_eq_true rfl, Nat.le_of_ble_eq_true rfl⟩) (pV (ci := 3) (k := 0) hKA (hP.sub (ws' := [(g, .inr (3, [.int 6, .int 6, .int 1, .int 0, .long 0, .long 0, .int 0, .int 0, .int 0, .ref k0, .ref k1, .ref k2, .ref k3, .ref k4, .ref k5, .ref k6]))]) [1] rfl) (hD.sub (ws' := [(g, .inr (3, [.int 6, .int 6, .int 1, .int 0, .long 0, .long 0, .int 0, .int 0, .int 0, .ref k0, .ref k1, .ref k2, .ref k3, .ref k4, .ref k5, .ref k6]))]) [1] (by decide) rfl) rfl rfl) rfl rfl hl.1 rfl (lv_room (Nat.le_of_ble_eq_true rfl)) dX10_lesson_5 ⟨Nat.le_of_ble_eq_true rfl, Nat.le_of_ble_eq_true rfl⟩) hP hS hA (fun r1 H locs hwr1 hP hS => ?_)
  rcases hwr1 with ⟨rfl, har1, hbr1, hcr1⟩ | ⟨rfl, hnr1⟩
  · exact absurd har1 (Int32.not_le.mpr hbr1)
  · skip
    refine lv_if_eq (tgt := 27) hx hb dX10_lesson_8 (by decide) (fun c2 => ?_) (fun c2 => absurd c2 (by decide))
    refine lv_aload_n hx hb dX10_lesson_27 rfl (lv_at hl 0 rfl) ?_
    refine lv_bipush (v := (-2)) hx hb dX10_lesson_28 (by decide) ?_
    refine wr_i (wr := [(g, .inr (3, [.int 6, .int 6, .int 1, .int 0, .long 0, .long 0, .int 0, .int 0, .int 0, .ref k0, .ref k1, .ref k2, .ref k3, .ref k4, .ref k5, .ref k6]))]) (va_runV (As := [.int (-2)]) (rest := []) ⟨hx, hb, hml, hown, hts⟩ (c_X10_refuseBad l D cy h g df im pn w pa 0 0 0 (-2) _) (cwV 1 hts gX10_lesson_X10_refuseBad rfl rfl rfl (by decide +kernel) ⟨Nat.le_of_ble_eq_true rfl, Nat.le_of_ble_eq_true rfl⟩) (pV (ci := 10) (k := 0) hKA (hP.sub (ws' := [(h, .inr (10, [.ref g, .ref df, .ref im, .ref pn, .ref w, .ref pa, .int 0, .int 0, .int 0]))]) [0] rfl) (hD.sub (ws' := [(h, .inr (10, [.ref g, .ref df, .ref im, .ref pn, .ref w, .ref pa, .int 0, .int 0, .int 0]))]) [0] (by decide) rfl) rfl rfl) rfl rfl hl.1 rfl (lv_room (Nat.le_of_ble_eq_true rfl)) dX10_lesson_30 ⟨Nat.le_of_ble_eq_true rfl, Nat.le_of_ble_eq_true rfl⟩) hP hD hS hA [0] [1] rfl rfl (by decide +kernel) (by decide +kernel) (fun r3 ur3 H locs hwr3 hP hD hS => ?_)
    have hP : va_P D vwCl [(g, .inr (3, [.int 6, .int 6, .int 1, .int 0, .long 0, .long 0, .int 0, .int 0, .int 0, .ref k0, .ref k1, .ref k2, .ref k3, .ref k4, .ref k5, .ref k6])), (h, .inr (10, [.ref g, .ref df, .ref im, .ref pn, .ref w, .ref pa, .int (0 + 1), .int 0, .int 0]))] H := hP
    have hD : va_D A [(g, .inr (3, [.int 6, .int 6, .int 1, .int 0, .long 0, .long 0, .int 0, .int 0, .int 0, .ref k0, .ref k1, .ref k2, .ref k3, .ref k4, .ref k5, .ref k6])), (h, .inr (10, [.ref g, .ref df, .ref im, .ref pn, .ref w, .ref pa, .int (0 + 1), .int 0, .int 0]))] := hD
    subst hwr3
    have hP9 := hP.sub (ws' := []) [] rfl
    have hD9 := hD.sub (ws' := []) [] (by decide) rfl
    exact W.iret (v := (-2)) hx hb hr (fun t ht hW => ⟨⟨(-2), (), rfl, rfl, by rw [ht]; exact hP9, hD9⟩, hS.F ht⟩) hS.2.2 dX10_lesson_33

set_option maxHeartbeats 4000000 in
set_option maxRecDepth 100000 in
theorem tp_speakers (l : Launch) (D : va_G) (cy : Nat → ClassId) (h g df im pn w pa : Nat) (a0 a1 a2 a3 a4 a5 : Nat) (k0 k1 k2 k3 k4 k5 k6 : Nat) (sz : Nat)  : Met l yX10_speakers wsX10_speakers ({ frames := 4, cells := 0, slots := 0, locals := 90 }) (va_Pc [.ref h] (kPre D cy [(h, .inr (10, [.ref g, .ref df, .ref im, .ref pn, .ref w, .ref pa, .int 0, .int 0, .int 0])), (g, .inr (3, [.int 6, .int 6, .int 1, .int 0, .long 0, .long 0, .int 0, .int 0, .int 0, .ref k0, .ref k1, .ref k2, .ref k3, .ref k4, .ref k5, .ref k6])), (w, .inr (4, [.ref g, .ref a0, .ref a1, .ref a2, .ref a3, .ref a4, .ref a5, .int 0, .long 0]))] sz)) (va_Qi (fun (r : Int32) (_ : Unit) => r = 0) (fun (u : Unit) t => va_P D vwCl ([]) t.heap ∧ va_D (va_A [(h, .inr (10, [.ref g, .ref df, .ref im, .ref pn, .ref w, .ref pa, .int 0, .int 0, .int 0])), (g, .inr (3, [.int 6, .int 6, .int 1, .int 0, .long 0, .long 0, .int 0, .int 0, .int 0, .ref k0, .ref k1, .ref k2, .ref k3, .ref k4, .ref k5, .ref k6])), (w, .inr (4, [.ref g, .ref a0, .ref a1, .ref a2, .ref a3, .ref a4, .ref a5, .int 0, .long 0]))] sz) ([])) (va_A [(h, .inr (10, [.ref g, .ref df, .ref im, .ref pn, .ref w, .ref pa, .int 0, .int 0, .int 0])), (g, .inr (3, [.int 6, .int 6, .int 1, .int 0, .long 0, .long 0, .int 0, .int 0, .int 0, .ref k0, .ref k1, .ref k2, .ref k3, .ref k4, .ref k5, .ref k6])), (w, .inr (4, [.ref g, .ref a0, .ref a1, .ref a2, .ref a3, .ref a4, .ref a5, .int 0, .long 0]))] sz)) 0 0 (va_A [(h, .inr (10, [.ref g, .ref df, .ref im, .ref pn, .ref w, .ref pa, .int 0, .int 0, .int 0])), (g, .inr (3, [.int 6, .int 6, .int 1, .int 0, .long 0, .long 0, .int 0, .int 0, .int 0, .ref k0, .ref k1, .ref k2, .ref k3, .ref k4, .ref k5, .ref k6])), (w, .inr (4, [.ref g, .ref a0, .ref a1, .ref a2, .ref a3, .ref a4, .ref a5, .int 0, .long 0]))] sz) := by
  refine Met.ofW (cc := cX10_speakers) (maxL := 1) (ret := (some .int)) (by decide) rfl ?_
  intro p e s m args below meth c s₁ B hml hv
  obtain ⟨rfl, hsz, hP, hKA, hD0⟩ := hv
  have hx := B.exec
  have hb := B.bytes
  have hr := B.returns
  have hts := atoms_spec (ws := wsX10_speakers) B.pre
  have hown : s.vm.findClass RX10 = some m.cls := findClass_of_methodNamed B.named
  have hlocks := B.notSynchronized
  subst hsz
  have hK := hKA.1
  have hD := hD0.self (sz := s.heap.size)
  generalize hAe : va_A [(h, .inr (10, [.ref g, .ref df, .ref im, .ref pn, .ref w, .ref pa, .int 0, .int 0, .int 0])), (g, .inr (3, [.int 6, .int 6, .int 1, .int 0, .long 0, .long 0, .int 0, .int 0, .int 0, .ref k0, .ref k1, .ref k2, .ref k3, .ref k4, .ref k5, .ref k6])), (w, .inr (4, [.ref g, .ref a0, .ref a1, .ref a2, .ref a3, .ref a4, .ref a5, .int 0, .long 0]))] s.heap.size = A at hD ⊢
  have hA : ∀ q : Nat, s.heap.size ≤ q → A q := fun q h => by rw [← hAe]; exact Or.inr h
  have hS : va_S A s.heap s.heap [] := va_S.rf
  have hP : va_P D vwCl [(h, .inr (10, [.ref g, .ref df, .ref im, .ref pn, .ref w, .ref pa, .int 0, .int 0, .int 0])), (g, .inr (3, [.int 6, .int 6, .int 1, .int 0, .long 0, .long 0, .int 0, .int 0, .int 0, .ref k0, .ref k1, .ref k2, .ref k3, .ref k4, .ref k5, .ref k6])), (w, .inr (4, [.ref g, .ref a0, .ref a1, .ref a2, .ref a3, .ref a4, .ref a5, .int 0, .long 0]))] s.heap := hP
  have hl := lv_entry ([.ref h]) (n := 1) (Nat.le_of_ble_eq_true rfl)
  rw [lg_entry_eq]
  generalize (lg_sl ([.ref h]) ++ List.replicate (1 - (lg_sl ([.ref h])).length) Slot.unset).toArray = ls at hl ⊢
  have hl : lv_has ls 1 [(0, .ref h)] := hl
  have z0_ := hts (.fieldLink RX10 35 "HeardSeen" "law" "LHeardSeen$Law;") (by decide +kernel)
  have zi10_ : ∀ w ∈ u_ws RX10 TX10 9, w ∈ wsX10_speakers := by decide +kernel
  refine lv_aload_n hx hb dX10_speakers_0 rfl (lv_at hl 0 rfl) ?_
  refine va_get (D := D) (ci := 10) (v := .ref w) (C := RX10) (T := TX10) (N := 9) hx hb hts zi10_ hown hK hP 0 rfl rfl 4 (by decide) z0_ (fun _ h9 => h9) rfl dX10_speakers_1 ?_
  refine wr_v (wr := [(h, .inr (10, [.ref g, .ref df, .ref im, .ref pn, .ref w, .ref pa, .int 0, .int 0, .int 0]))]) (va_runV (As := []) (rest := []) ⟨hx, hb, hml, hown, hts⟩ (c0_look l D cy w g a0 a1 a2 a3 a4 a5 0 0 6 6 1 0 0 0 k0 k1 k2 k3 k4 k5 k6 _) (cwV 0 hts gX10_speakers_X4_look rfl rfl rfl (by decide +kernel) ⟨Nat.le_of_ble_eq_true rfl, Nat.le_of_ble_eq_true rfl⟩) (pV (ci := 4) (k := 0) hKA (hP.sub (ws' := [(w, .inr (4, [.ref g, .ref a0, .ref a1, .ref a2, .ref a3, .ref a4, .ref a5, .int 0, .long 0])), (g, .inr (3, [.int 6, .int 6, .int 1, .int 0, .long 0, .long 0, .int 0, .int 0, .int 0, .ref k0, .ref k1, .ref k2, .ref k3, .ref k4, .ref k5, .ref k6]))]) [2, 1] rfl) (hD.sub (ws' := [(w, .inr (4, [.ref g, .ref a0, .ref a1, .ref a2, .ref a3, .ref a4, .ref a5, .int 0, .long 0])), (g, .inr (3, [.int 6, .int 6, .int 1, .int 0, .long 0, .long 0, .int 0, .int 0, .int 0, .ref k0, .ref k1, .ref k2, .ref k3, .ref k4, .ref k5, .ref k6]))]) [2, 1] (by decide) rfl) rfl rfl) rfl rfl hl.1 rfl (lv_room (Nat.le_of_ble_eq_true rfl)) dX10_speakers_4 ⟨Nat.le_of_ble_eq_true rfl, Nat.le_of_ble_eq_true rfl⟩) hP hD hS hA [2, 1] [0] rfl rfl (by decide +kernel) (by decide +kernel) (fun ur1 H locs hwr1 hP hD hS => ?_)
  obtain ⟨dn2, rfl⟩ : ∃ z, z = ur1 := ⟨_, rfl⟩
  have hP : va_P D vwCl [(h, .inr (10, [.ref g, .ref df, .ref im, .ref pn, .ref w, .ref pa, .int 0, .int 0, .int 0])), (w, .inr (4, [.ref g, .ref a0, .ref a1, .ref a2, .ref a3, .ref a4, .ref a5, .int 0, .long dn2])), (g, .inr (3, [.int 6, .int 6, .int 1, .int 0, .long 0, .long 0, .int 0, .int 0, .int 0, .ref k0, .ref k1, .ref k2, .ref k3, .ref k4, .ref k5, .ref k6]))] H := hP
  have hD : va_D A [(h, .inr (10, [.ref g, .ref df, .ref im, .ref pn, .ref w, .ref pa, .int 0, .int 0, .int 0])), (w, .inr (4, [.ref g, .ref a0, .ref a1, .ref a2, .ref a3, .ref a4, .ref a5, .int 0, .long dn2])), (g, .inr (3, [.int 6, .int 6, .int 1, .int 0, .long 0, .long 0, .int 0, .int 0, .int 0, .ref k0, .ref k1, .ref k2, .ref k3, .ref k4, .ref k5, .ref k6]))] := hD
  refine lv_aload_n hx hb dX10_speakers_7 rfl (lv_at hl 0 rfl) ?_
  refine va_get (D := D) (ci := 10) (v := .ref w) (C := RX10) (T := TX10) (N := 9) hx hb hts zi10_ hown hK hP 0 rfl rfl 4 (by decide) z0_ (fun _ h9 => h9) rfl dX10_speakers_8 ?_
  refine rd_i (va_runV (As := []) (rest := []) ⟨hx, hb, hml, hown, hts⟩ (c0_speakerCount l D cy w g a0 a1 a2 a3 a4 a5 0 dn2 6 6 1 0 0 0 k0 k1 k2 k3 k4 k5 k6 _) (cwV 0 hts gX10_speakers_X4_speakerCount rfl rfl rfl (by decide +kernel) ⟨Nat.le_of_ble_eq_true rfl, Nat.le_of_ble_eq_true rfl⟩) (pV (ci := 4) (k := 0) hKA (hP.sub (ws' := [(w, .inr (4, [.ref g, .ref a0, .ref a1, .ref a2, .ref a3, .ref a4, .ref a5, .int 0, .long dn2])), (g, .inr (3, [.int 6, .int 6, .int 1, .int 0, .long 0, .long 0, .int 0, .int 0, .int 0, .ref k0, .ref k1, .ref k2, .ref k3, .ref k4, .ref k5, .ref k6]))]) [1, 2] rfl) (hD.sub (ws' := [(w, .inr (4, [.ref g, .ref a0, .ref a1, .ref a2, .ref a3, .ref a4, .ref a5, .int 0, .long dn2])), (g, .inr (3, [.int 6, .int 6, .int 1, .int 0, .long 0, .long 0, .int 0, .int 0, .int 0, .ref k0, .ref k1, .ref k2, .ref k3, .ref k4, .ref k5, .ref k6]))]) [1, 2] (by decide) rfl) rfl rfl) rfl rfl hl.1 rfl (lv_room (Nat.le_of_ble_eq_true rfl)) dX10_speakers_11 ⟨Nat.le_of_ble_eq_true rfl, Nat.le_of_ble_eq_true rfl⟩) hP hS hA (fun r3 H locs hwr3 hP hS => ?_)
  rcases hwr3 with rfl
  · skip
    have hP9 := hP.sub (ws' := []) [] rfl
    have hD9 := hD.sub (ws' := []) [] (by decide) rfl
    exact W.iret (v := 0) hx hb hr (fun t ht hW => ⟨⟨0, (), rfl, rfl, by rw [ht]; exact hP9, hD9⟩, hS.F ht⟩) hS.2.2 dX10_speakers_14

set_option maxHeartbeats 4000000 in
set_option maxRecDepth 100000 in
theorem tp_best (l : Launch) (D : va_G) (cy : Nat → ClassId) (h g df im pn w pa : Nat) (a0 a1 a2 a3 a4 a5 : Nat) (k0 k1 k2 k3 k4 k5 k6 : Nat) (x : Int32) (sz : Nat)  : Met l yX10_best wsX10_best ({ frames := 5, cells := 0, slots := 0, locals := 114 }) (va_Pc [.ref h, .int x] (kPre D cy [(h, .inr (10, [.ref g, .ref df, .ref im, .ref pn, .ref w, .ref pa, .int 0, .int 0, .int 0])), (g, .inr (3, [.int 6, .int 6, .int 1, .int 0, .long 0, .long 0, .int 0, .int 0, .int 0, .ref k0, .ref k1, .ref k2, .ref k3, .ref k4, .ref k5, .ref k6])), (w, .inr (4, [.ref g, .ref a0, .ref a1, .ref a2, .ref a3, .ref a4, .ref a5, .int 0, .long 0]))] sz)) (va_Qi (fun (r : Int32) (_ : Unit) => r = sp_01 x (-1)) (fun (u : Unit) t => va_P D vwCl ([]) t.heap ∧ va_D (va_A [(h, .inr (10, [.ref g, .ref df, .ref im, .ref pn, .ref w, .ref pa, .int 0, .int 0, .int 0])), (g, .inr (3, [.int 6, .int 6, .int 1, .int 0, .long 0, .long 0, .int 0, .int 0, .int 0, .ref k0, .ref k1, .ref k2, .ref k3, .ref k4, .ref k5, .ref k6])), (w, .inr (4, [.ref g, .ref a0, .ref a1, .ref a2, .ref a3, .ref a4, .ref a5, .int 0, .long 0]))] sz) ([])) (va_A [(h, .inr (10, [.ref g, .ref df, .ref im, .ref pn, .ref w, .ref pa, .int 0, .int 0, .int 0])), (g, .inr (3, [.int 6, .int 6, .int 1, .int 0, .long 0, .long 0, .int 0, .int 0, .int 0, .ref k0, .ref k1, .ref k2, .ref k3, .ref k4, .ref k5, .ref k6])), (w, .inr (4, [.ref g, .ref a0, .ref a1, .ref a2, .ref a3, .ref a4, .ref a5, .int 0, .long 0]))] sz)) 0 0 (va_A [(h, .inr (10, [.ref g, .ref df, .ref im, .ref pn, .ref w, .ref pa, .int 0, .int 0, .int 0])), (g, .inr (3, [.int 6, .int 6, .int 1, .int 0, .long 0, .long 0, .int 0, .int 0, .int 0, .ref k0, .ref k1, .ref k2, .ref k3, .ref k4, .ref k5, .ref k6])), (w, .inr (4, [.ref g, .ref a0, .ref a1, .ref a2, .ref a3, .ref a4, .ref a5, .int 0, .long 0]))] sz) := by
  refine Met.ofW (cc := cX10_best) (maxL := 2) (ret := (some .int)) (by decide) rfl ?_
  intro p e s m args below meth c s₁ B hml hv
  obtain ⟨rfl, hsz, hP, hKA, hD0⟩ := hv
  have hx := B.exec
  have hb := B.bytes
  have hr := B.returns
  have hts := atoms_spec (ws := wsX10_best) B.pre
  have hown : s.vm.findClass RX10 = some m.cls := findClass_of_methodNamed B.named
  have hlocks := B.notSynchronized
  subst hsz
  have hK := hKA.1
  have hD := hD0.self (sz := s.heap.size)
  generalize hAe : va_A [(h, .inr (10, [.ref g, .ref df, .ref im, .ref pn, .ref w, .ref pa, .int 0, .int 0, .int 0])), (g, .inr (3, [.int 6, .int 6, .int 1, .int 0, .long 0, .long 0, .int 0, .int 0, .int 0, .ref k0, .ref k1, .ref k2, .ref k3, .ref k4, .ref k5, .ref k6])), (w, .inr (4, [.ref g, .ref a0, .ref a1, .ref a2, .ref a3, .ref a4, .ref a5, .int 0, .long 0]))] s.heap.size = A at hD ⊢
  have hA : ∀ q : Nat, s.heap.size ≤ q → A q := fun q h => by rw [← hAe]; exact Or.inr h
  have hS : va_S A s.heap s.heap [] := va_S.rf
  have hP : va_P D vwCl [(h, .inr (10, [.ref g, .ref df, .ref im, .ref pn, .ref w, .ref pa, .int 0, .int 0, .int 0])), (g, .inr (3, [.int 6, .int 6, .int 1, .int 0, .long 0, .long 0, .int 0, .int 0, .int 0, .ref k0, .ref k1, .ref k2, .ref k3, .ref k4, .ref k5, .ref k6])), (w, .inr (4, [.ref g, .ref a0, .ref a1, .ref a2, .ref a3, .ref a4, .ref a5, .int 0, .long 0]))] s.heap := hP
  have hl := lv_entry ([.ref h, .int x]) (n := 2) (Nat.le_of_ble_eq_true rfl)
  rw [lg_entry_eq]
  generalize (lg_sl ([.ref h, .int x]) ++ List.replicate (2 - (lg_sl ([.ref h, .int x])).length) Slot.unset).toArray = ls at hl ⊢
  have hl : lv_has ls 2 [(0, .ref h), (1, .int x)] := hl
  have z0_ := hts (.fieldLink RX10 35 "HeardSeen" "law" "LHeardSeen$Law;") (by decide +kernel)
  have zi10_ : ∀ w ∈ u_ws RX10 TX10 9, w ∈ wsX10_best := by decide +kernel
  refine lv_iload_n hx hb dX10_best_0 rfl (lv_at hl 1 rfl) ?_
  refine lv_iconst (v := 0) hx hb dX10_best_1 (by decide) ?_
  refine lv_iconst (v := 1) hx hb dX10_best_2 (by decide) ?_
  refine rd_i (va_runS (As := [.int x, .int 0, .int 1]) (rest := []) ⟨hx, hb, hml, hown, hts⟩ (c_X10_isWithin l D cy x 0 1 _) (va_cwS 3 hts gX10_best_X10_isWithin rfl rfl rfl (by decide +kernel) ⟨Nat.le_of_ble_eq_true rfl, Nat.le_of_ble_eq_true rfl⟩) (pS hKA pE (dE (A := A))) rfl rfl hl.1 rfl (lv_room (Nat.le_of_ble_eq_true rfl)) dX10_best_3 ⟨Nat.le_of_ble_eq_true rfl, Nat.le_of_ble_eq_true rfl⟩) hP hS hA (fun r1 H locs hwr1 hP hS => ?_)
  rcases hwr1 with ⟨rfl, har1, hbr1⟩ | ⟨rfl, hnr1⟩
  · skip
    refine lv_if_ne (tgt := 16) hx hb dX10_best_6 (by decide) (fun c2 => ?_) (fun c2 => absurd c2 (by decide))
    refine lv_aload_n hx hb dX10_best_16 rfl (lv_at hl 0 rfl) ?_
    refine va_get (D := D) (ci := 10) (v := .ref w) (C := RX10) (T := TX10) (N := 9) hx hb hts zi10_ hown hK hP 0 rfl rfl 4 (by decide) z0_ (fun _ h9 => h9) rfl dX10_best_17 ?_
    refine lv_iload_n hx hb dX10_best_20 rfl (lv_at hl 1 rfl) ?_
    refine wr_i (wr := [(h, .inr (10, [.ref g, .ref df, .ref im, .ref pn, .ref w, .ref pa, .int 0, .int 0, .int 0]))]) (va_runV (As := [.int x]) (rest := []) ⟨hx, hb, hml, hown, hts⟩ (c0_best l D cy w g a0 a1 a2 a3 a4 a5 0 0 1 0 0 0 k0 k1 k2 k3 k4 k5 k6 x _) (cwV 1 hts gX10_best_X4_bestSquare rfl rfl rfl (by decide +kernel) ⟨Nat.le_of_ble_eq_true rfl, Nat.le_of_ble_eq_true rfl⟩) (pV (ci := 4) (k := 0) hKA (hP.sub (ws' := [(w, .inr (4, [.ref g, .ref a0, .ref a1, .ref a2, .ref a3, .ref a4, .ref a5, .int 0, .long 0])), (g, .inr (3, [.int 6, .int 6, .int 1, .int 0, .long 0, .long 0, .int 0, .int 0, .int 0, .ref k0, .ref k1, .ref k2, .ref k3, .ref k4, .ref k5, .ref k6]))]) [2, 1] rfl) (hD.sub (ws' := [(w, .inr (4, [.ref g, .ref a0, .ref a1, .ref a2, .ref a3, .ref a4, .ref a5, .int 0, .long 0])), (g, .inr (3, [.int 6, .int 6, .int 1, .int 0, .long 0, .long 0, .int 0, .int 0, .int 0, .ref k0, .ref k1, .ref k2, .ref k3, .ref k4, .ref k5, .ref k6]))]) [2, 1] (by decide) rfl) rfl rfl) rfl rfl hl.1 rfl (lv_room (Nat.le_of_ble_eq_true rfl)) dX10_best_21 ⟨Nat.le_of_ble_eq_true rfl, Nat.le_of_ble_eq_true rfl⟩) hP hD hS hA [2, 1] [0] rfl rfl (by decide +kernel) (by decide +kernel) (fun r3 ur3 H locs hwr3 hP hD hS => ?_)
    have hP : va_P D vwCl [(h, .inr (10, [.ref g, .ref df, .ref im, .ref pn, .ref w, .ref pa, .int 0, .int 0, .int 0]))] H := hP
    have hD : va_D A [(h, .inr (10, [.ref g, .ref df, .ref im, .ref pn, .ref w, .ref pa, .int 0, .int 0, .int 0]))] := hD
    rcases hwr3 with rfl
    · skip
      have hP9 := hP.sub (ws' := []) [] rfl
      have hD9 := hD.sub (ws' := []) [] (by decide) rfl
      exact W.iret (v := (-1)) hx hb hr (fun t ht hW => ⟨⟨(-1), (), rfl, (by simp [sp_01, har1, hbr1]), by rw [ht]; exact hP9, hD9⟩, hS.F ht⟩) hS.2.2 dX10_best_24
  · skip
    refine lv_if_ne (tgt := 16) hx hb dX10_best_6 (by decide) (fun c4 => absurd c4 (by decide)) (fun c4 => ?_)
    refine lv_aload_n hx hb dX10_best_9 rfl (lv_at hl 0 rfl) ?_
    refine lv_bipush (v := (-2)) hx hb dX10_best_10 (by decide) ?_
    refine wr_i (wr := [(g, .inr (3, [.int 6, .int 6, .int 1, .int 0, .long 0, .long 0, .int 0, .int 0, .int 0, .ref k0, .ref k1, .ref k2, .ref k3, .ref k4, .ref k5, .ref k6])), (w, .inr (4, [.ref g, .ref a0, .ref a1, .ref a2, .ref a3, .ref a4, .ref a5, .int 0, .long 0]))]) (va_runV (As := [.int (-2)]) (rest := []) ⟨hx, hb, hml, hown, hts⟩ (c_X10_refuseBad l D cy h g df im pn w pa 0 0 0 (-2) _) (cwV 1 hts gX10_best_X10_refuseBad rfl rfl rfl (by decide +kernel) ⟨Nat.le_of_ble_eq_true rfl, Nat.le_of_ble_eq_true rfl⟩) (pV (ci := 10) (k := 0) hKA (hP.sub (ws' := [(h, .inr (10, [.ref g, .ref df, .ref im, .ref pn, .ref w, .ref pa, .int 0, .int 0, .int 0]))]) [0] rfl) (hD.sub (ws' := [(h, .inr (10, [.ref g, .ref df, .ref im, .ref pn, .ref w, .ref pa, .int 0, .int 0, .int 0]))]) [0] (by decide) rfl) rfl rfl) rfl rfl hl.1 rfl (lv_room (Nat.le_of_ble_eq_true rfl)) dX10_best_12 ⟨Nat.le_of_ble_eq_true rfl, Nat.le_of_ble_eq_true rfl⟩) hP hD hS hA [0] [1, 2] rfl rfl (by decide +kernel) (by decide +kernel) (fun r5 ur5 H locs hwr5 hP hD hS => ?_)
    have hP : va_P D vwCl [(g, .inr (3, [.int 6, .int 6, .int 1, .int 0, .long 0, .long 0, .int 0, .int 0, .int 0, .ref k0, .ref k1, .ref k2, .ref k3, .ref k4, .ref k5, .ref k6])), (w, .inr (4, [.ref g, .ref a0, .ref a1, .ref a2, .ref a3, .ref a4, .ref a5, .int 0, .long 0])), (h, .inr (10, [.ref g, .ref df, .ref im, .ref pn, .ref w, .ref pa, .int (0 + 1), .int 0, .int 0]))] H := hP
    have hD : va_D A [(g, .inr (3, [.int 6, .int 6, .int 1, .int 0, .long 0, .long 0, .int 0, .int 0, .int 0, .ref k0, .ref k1, .ref k2, .ref k3, .ref k4, .ref k5, .ref k6])), (w, .inr (4, [.ref g, .ref a0, .ref a1, .ref a2, .ref a3, .ref a4, .ref a5, .int 0, .long 0])), (h, .inr (10, [.ref g, .ref df, .ref im, .ref pn, .ref w, .ref pa, .int (0 + 1), .int 0, .int 0]))] := hD
    subst hwr5
    have hP9 := hP.sub (ws' := []) [] rfl
    have hD9 := hD.sub (ws' := []) [] (by decide) rfl
    exact W.iret (v := (-2)) hx hb hr (fun t ht hW => ⟨⟨(-2), (), rfl, (by simp [sp_01, hnr1]), by rw [ht]; exact hP9, hD9⟩, hS.F ht⟩) hS.2.2 dX10_best_15

set_option maxHeartbeats 4000000 in
set_option maxRecDepth 100000 in
theorem tp_worth (l : Launch) (D : va_G) (cy : Nat → ClassId) (h g df im pn w pa : Nat) (k0 k1 k2 k3 k4 k5 k6 : Nat) (x y : Int32) (sz : Nat)  : Met l yX10_worth wsX10_worth ({ frames := 1, cells := 0, slots := 0, locals := 21 }) (va_Pc [.ref h, .int x, .int y] (kPre D cy [(h, .inr (10, [.ref g, .ref df, .ref im, .ref pn, .ref w, .ref pa, .int 0, .int 0, .int 0])), (g, .inr (3, [.int 6, .int 6, .int 1, .int 0, .long 0, .long 0, .int 0, .int 0, .int 0, .ref k0, .ref k1, .ref k2, .ref k3, .ref k4, .ref k5, .ref k6]))] sz)) (va_Qi (fun (r : Int32) (_ : Unit) => r = -10) (fun (u : Unit) t => va_P D vwCl ([]) t.heap ∧ va_D (va_A [(h, .inr (10, [.ref g, .ref df, .ref im, .ref pn, .ref w, .ref pa, .int 0, .int 0, .int 0])), (g, .inr (3, [.int 6, .int 6, .int 1, .int 0, .long 0, .long 0, .int 0, .int 0, .int 0, .ref k0, .ref k1, .ref k2, .ref k3, .ref k4, .ref k5, .ref k6]))] sz) ([])) (va_A [(h, .inr (10, [.ref g, .ref df, .ref im, .ref pn, .ref w, .ref pa, .int 0, .int 0, .int 0])), (g, .inr (3, [.int 6, .int 6, .int 1, .int 0, .long 0, .long 0, .int 0, .int 0, .int 0, .ref k0, .ref k1, .ref k2, .ref k3, .ref k4, .ref k5, .ref k6]))] sz)) 0 0 (va_A [(h, .inr (10, [.ref g, .ref df, .ref im, .ref pn, .ref w, .ref pa, .int 0, .int 0, .int 0])), (g, .inr (3, [.int 6, .int 6, .int 1, .int 0, .long 0, .long 0, .int 0, .int 0, .int 0, .ref k0, .ref k1, .ref k2, .ref k3, .ref k4, .ref k5, .ref k6]))] sz) := by
  refine Met.ofW (cc := cX10_worth) (maxL := 3) (ret := (some .int)) (by decide) rfl ?_
  intro p e s m args below meth c s₁ B hml hv
  obtain ⟨rfl, hsz, hP, hKA, hD0⟩ := hv
  have hx := B.exec
  have hb := B.bytes
  have hr := B.returns
  have hts := atoms_spec (ws := wsX10_worth) B.pre
  have hown : s.vm.findClass RX10 = some m.cls := findClass_of_methodNamed B.named
  have hlocks := B.notSynchronized
  subst hsz
  have hK := hKA.1
  have hD := hD0.self (sz := s.heap.size)
  generalize hAe : va_A [(h, .inr (10, [.ref g, .ref df, .ref im, .ref pn, .ref w, .ref pa, .int 0, .int 0, .int 0])), (g, .inr (3, [.int 6, .int 6, .int 1, .int 0, .long 0, .long 0, .int 0, .int 0, .int 0, .ref k0, .ref k1, .ref k2, .ref k3, .ref k4, .ref k5, .ref k6]))] s.heap.size = A at hD ⊢
  have hA : ∀ q : Nat, s.heap.size ≤ q → A q := fun q h => by rw [← hAe]; exact Or.inr h
  have hS : va_S A s.heap s.heap [] := va_S.rf
  have hP : va_P D vwCl [(h, .inr (10, [.ref g, .ref df, .ref im, .ref pn, .ref w, .ref pa, .int 0, .int 0, .int 0])), (g, .inr (3, [.int 6, .int 6, .int 1, .int 0, .long 0, .long 0, .int 0, .int 0, .int 0, .ref k0, .ref k1, .ref k2, .ref k3, .ref k4, .ref k5, .ref k6]))] s.heap := hP
  have hl := lv_entry ([.ref h, .int x, .int y]) (n := 3) (Nat.le_of_ble_eq_true rfl)
  rw [lg_entry_eq]
  generalize (lg_sl ([.ref h, .int x, .int y]) ++ List.replicate (3 - (lg_sl ([.ref h, .int x, .int y])).length) Slot.unset).toArray = ls at hl ⊢
  have hl : lv_has ls 3 [(0, .ref h), (1, .int x), (2, .int y)] := hl
  have z0_ := hts (.fieldLink RX10 10 "HeardSeen" "now" "LHeardSeen$Garden;") (by decide +kernel)
  have zi10_ : ∀ w ∈ u_ws RX10 TX10 9, w ∈ wsX10_worth := by decide +kernel
  refine lv_aload_n hx hb dX10_worth_0 rfl (lv_at hl 0 rfl) ?_
  refine va_get (D := D) (ci := 10) (v := .ref g) (C := RX10) (T := TX10) (N := 9) hx hb hts zi10_ hown hK hP 0 rfl rfl 0 (by decide) z0_ (fun _ h9 => h9) rfl dX10_worth_1 ?_
  refine lv_iload_n hx hb dX10_worth_4 rfl (lv_at hl 1 rfl) ?_
  refine rd_i (va_runV (As := [.int x]) (rest := []) ⟨hx, hb, hml, hown, hts⟩ (c_X3_isPerson l D cy g 6 6 1 0 0 0 0 0 0 k0 k1 k2 k3 k4 k5 k6 x _) (cwV 1 hts gX10_worth_X3_isPerson rfl rfl rfl (by decide +kernel) ⟨Nat.le_of_ble_eq_true rfl, Nat.le_of_ble_eq_true rfl⟩) (pV (ci := 3) (k := 0) hKA (hP.sub (ws' := [(g, .inr (3, [.int 6, .int 6, .int 1, .int 0, .long 0, .long 0, .int 0, .int 0, .int 0, .ref k0, .ref k1, .ref k2, .ref k3, .ref k4, .ref k5, .ref k6]))]) [1] rfl) (hD.sub (ws' := [(g, .inr (3, [.int 6, .int 6, .int 1, .int 0, .long 0, .long 0, .int 0, .int 0, .int 0, .ref k0, .ref k1, .ref k2, .ref k3, .ref k4, .ref k5, .ref k6]))]) [1] (by decide) rfl) rfl rfl) rfl rfl hl.1 rfl (lv_room (Nat.le_of_ble_eq_true rfl)) dX10_worth_5 ⟨Nat.le_of_ble_eq_true rfl, Nat.le_of_ble_eq_true rfl⟩) hP hS hA (fun r1 H locs hwr1 hP hS => ?_)
  rcases hwr1 with ⟨rfl, har1, hbr1, hcr1⟩ | ⟨rfl, hnr1⟩
  · exact absurd har1 (Int32.not_le.mpr hbr1)
  · skip
    refine lv_if_eq (tgt := 20) hx hb dX10_worth_8 (by decide) (fun c2 => ?_) (fun c2 => absurd c2 (by decide))
    refine lv_aload_n hx hb dX10_worth_20 rfl (lv_at hl 0 rfl) ?_
    refine lv_bipush (v := (-10)) hx hb dX10_worth_21 (by decide) ?_
    refine wr_i (wr := [(g, .inr (3, [.int 6, .int 6, .int 1, .int 0, .long 0, .long 0, .int 0, .int 0, .int 0, .ref k0, .ref k1, .ref k2, .ref k3, .ref k4, .ref k5, .ref k6]))]) (va_runV (As := [.int (-10)]) (rest := []) ⟨hx, hb, hml, hown, hts⟩ (c_X10_refuseBad l D cy h g df im pn w pa 0 0 0 (-10) _) (cwV 1 hts gX10_worth_X10_refuseBad rfl rfl rfl (by decide +kernel) ⟨Nat.le_of_ble_eq_true rfl, Nat.le_of_ble_eq_true rfl⟩) (pV (ci := 10) (k := 0) hKA (hP.sub (ws' := [(h, .inr (10, [.ref g, .ref df, .ref im, .ref pn, .ref w, .ref pa, .int 0, .int 0, .int 0]))]) [0] rfl) (hD.sub (ws' := [(h, .inr (10, [.ref g, .ref df, .ref im, .ref pn, .ref w, .ref pa, .int 0, .int 0, .int 0]))]) [0] (by decide) rfl) rfl rfl) rfl rfl hl.1 rfl (lv_room (Nat.le_of_ble_eq_true rfl)) dX10_worth_23 ⟨Nat.le_of_ble_eq_true rfl, Nat.le_of_ble_eq_true rfl⟩) hP hD hS hA [0] [1] rfl rfl (by decide +kernel) (by decide +kernel) (fun r3 ur3 H locs hwr3 hP hD hS => ?_)
    have hP : va_P D vwCl [(g, .inr (3, [.int 6, .int 6, .int 1, .int 0, .long 0, .long 0, .int 0, .int 0, .int 0, .ref k0, .ref k1, .ref k2, .ref k3, .ref k4, .ref k5, .ref k6])), (h, .inr (10, [.ref g, .ref df, .ref im, .ref pn, .ref w, .ref pa, .int (0 + 1), .int 0, .int 0]))] H := hP
    have hD : va_D A [(g, .inr (3, [.int 6, .int 6, .int 1, .int 0, .long 0, .long 0, .int 0, .int 0, .int 0, .ref k0, .ref k1, .ref k2, .ref k3, .ref k4, .ref k5, .ref k6])), (h, .inr (10, [.ref g, .ref df, .ref im, .ref pn, .ref w, .ref pa, .int (0 + 1), .int 0, .int 0]))] := hD
    subst hwr3
    have hP9 := hP.sub (ws' := []) [] rfl
    have hD9 := hD.sub (ws' := []) [] (by decide) rfl
    exact W.iret (v := (-10)) hx hb hr (fun t ht hW => ⟨⟨(-10), (), rfl, rfl, by rw [ht]; exact hP9, hD9⟩, hS.F ht⟩) hS.2.2 dX10_worth_26

set_option maxHeartbeats 4000000 in
set_option maxRecDepth 100000 in
theorem tp_spots (l : Launch) (D : va_G) (cy : Nat → ClassId) (h g df im pn w pa : Nat) (k0 k1 k2 k3 k4 k5 k6 : Nat) (x y : Int32) (sz : Nat)  : Met l yX10_spots wsX10_spots ({ frames := 1, cells := 0, slots := 0, locals := 21 }) (va_Pc [.ref h, .int x, .int y] (kPre D cy [(h, .inr (10, [.ref g, .ref df, .ref im, .ref pn, .ref w, .ref pa, .int 0, .int 0, .int 0])), (g, .inr (3, [.int 6, .int 6, .int 1, .int 0, .long 0, .long 0, .int 0, .int 0, .int 0, .ref k0, .ref k1, .ref k2, .ref k3, .ref k4, .ref k5, .ref k6]))] sz)) (va_Qi (fun (r : Int32) (_ : Unit) => r = -10) (fun (u : Unit) t => va_P D vwCl ([]) t.heap ∧ va_D (va_A [(h, .inr (10, [.ref g, .ref df, .ref im, .ref pn, .ref w, .ref pa, .int 0, .int 0, .int 0])), (g, .inr (3, [.int 6, .int 6, .int 1, .int 0, .long 0, .long 0, .int 0, .int 0, .int 0, .ref k0, .ref k1, .ref k2, .ref k3, .ref k4, .ref k5, .ref k6]))] sz) ([])) (va_A [(h, .inr (10, [.ref g, .ref df, .ref im, .ref pn, .ref w, .ref pa, .int 0, .int 0, .int 0])), (g, .inr (3, [.int 6, .int 6, .int 1, .int 0, .long 0, .long 0, .int 0, .int 0, .int 0, .ref k0, .ref k1, .ref k2, .ref k3, .ref k4, .ref k5, .ref k6]))] sz)) 0 0 (va_A [(h, .inr (10, [.ref g, .ref df, .ref im, .ref pn, .ref w, .ref pa, .int 0, .int 0, .int 0])), (g, .inr (3, [.int 6, .int 6, .int 1, .int 0, .long 0, .long 0, .int 0, .int 0, .int 0, .ref k0, .ref k1, .ref k2, .ref k3, .ref k4, .ref k5, .ref k6]))] sz) := by
  refine Met.ofW (cc := cX10_spots) (maxL := 5) (ret := (some .int)) (by decide) rfl ?_
  intro p e s m args below meth c s₁ B hml hv
  obtain ⟨rfl, hsz, hP, hKA, hD0⟩ := hv
  have hx := B.exec
  have hb := B.bytes
  have hr := B.returns
  have hts := atoms_spec (ws := wsX10_spots) B.pre
  have hown : s.vm.findClass RX10 = some m.cls := findClass_of_methodNamed B.named
  have hlocks := B.notSynchronized
  subst hsz
  have hK := hKA.1
  have hD := hD0.self (sz := s.heap.size)
  generalize hAe : va_A [(h, .inr (10, [.ref g, .ref df, .ref im, .ref pn, .ref w, .ref pa, .int 0, .int 0, .int 0])), (g, .inr (3, [.int 6, .int 6, .int 1, .int 0, .long 0, .long 0, .int 0, .int 0, .int 0, .ref k0, .ref k1, .ref k2, .ref k3, .ref k4, .ref k5, .ref k6]))] s.heap.size = A at hD ⊢
  have hA : ∀ q : Nat, s.heap.size ≤ q → A q := fun q h => by rw [← hAe]; exact Or.inr h
  have hS : va_S A s.heap s.heap [] := va_S.rf
  have hP : va_P D vwCl [(h, .inr (10, [.ref g, .ref df, .ref im, .ref pn, .ref w, .ref pa, .int 0, .int 0, .int 0])), (g, .inr (3, [.int 6, .int 6, .int 1, .int 0, .long 0, .long 0, .int 0, .int 0, .int 0, .ref k0, .ref k1, .ref k2, .ref k3, .ref k4, .ref k5, .ref k6]))] s.heap := hP
  have hl := lv_entry ([.ref h, .int x, .int y]) (n := 5) (Nat.le_of_ble_eq_true rfl)
  rw [lg_entry_eq]
  generalize (lg_sl ([.ref h, .int x, .int y]) ++ List.replicate (5 - (lg_sl ([.ref h, .int x, .int y])).length) Slot.unset).toArray = ls at hl ⊢
  have hl : lv_has ls 5 [(0, .ref h), (1, .int x), (2, .int y)] := hl
  have z0_ := hts (.fieldLink RX10 10 "HeardSeen" "now" "LHeardSeen$Garden;") (by decide +kernel)
  have zi10_ : ∀ w ∈ u_ws RX10 TX10 9, w ∈ wsX10_spots := by decide +kernel
  refine lv_aload_n hx hb dX10_spots_0 rfl (lv_at hl 0 rfl) ?_
  refine va_get (D := D) (ci := 10) (v := .ref g) (C := RX10) (T := TX10) (N := 9) hx hb hts zi10_ hown hK hP 0 rfl rfl 0 (by decide) z0_ (fun _ h9 => h9) rfl dX10_spots_1 ?_
  refine lv_iload_n hx hb dX10_spots_4 rfl (lv_at hl 1 rfl) ?_
  refine rd_i (va_runV (As := [.int x]) (rest := []) ⟨hx, hb, hml, hown, hts⟩ (c_X3_isPerson l D cy g 6 6 1 0 0 0 0 0 0 k0 k1 k2 k3 k4 k5 k6 x _) (cwV 1 hts gX10_spots_X3_isPerson rfl rfl rfl (by decide +kernel) ⟨Nat.le_of_ble_eq_true rfl, Nat.le_of_ble_eq_true rfl⟩) (pV (ci := 3) (k := 0) hKA (hP.sub (ws' := [(g, .inr (3, [.int 6, .int 6, .int 1, .int 0, .long 0, .long 0, .int 0, .int 0, .int 0, .ref k0, .ref k1, .ref k2, .ref k3, .ref k4, .ref k5, .ref k6]))]) [1] rfl) (hD.sub (ws' := [(g, .inr (3, [.int 6, .int 6, .int 1, .int 0, .long 0, .long 0, .int 0, .int 0, .int 0, .ref k0, .ref k1, .ref k2, .ref k3, .ref k4, .ref k5, .ref k6]))]) [1] (by decide) rfl) rfl rfl) rfl rfl hl.1 rfl (lv_room (Nat.le_of_ble_eq_true rfl)) dX10_spots_5 ⟨Nat.le_of_ble_eq_true rfl, Nat.le_of_ble_eq_true rfl⟩) hP hS hA (fun r1 H locs hwr1 hP hS => ?_)
  rcases hwr1 with ⟨rfl, har1, hbr1, hcr1⟩ | ⟨rfl, hnr1⟩
  · exact absurd har1 (Int32.not_le.mpr hbr1)
  · skip
    refine lv_if_eq (tgt := 16) hx hb dX10_spots_8 (by decide) (fun c2 => ?_) (fun c2 => absurd c2 (by decide))
    refine lv_aload_n hx hb dX10_spots_16 rfl (lv_at hl 0 rfl) ?_
    refine lv_bipush (v := (-10)) hx hb dX10_spots_17 (by decide) ?_
    refine wr_i (wr := [(g, .inr (3, [.int 6, .int 6, .int 1, .int 0, .long 0, .long 0, .int 0, .int 0, .int 0, .ref k0, .ref k1, .ref k2, .ref k3, .ref k4, .ref k5, .ref k6]))]) (va_runV (As := [.int (-10)]) (rest := []) ⟨hx, hb, hml, hown, hts⟩ (c_X10_refuseBad l D cy h g df im pn w pa 0 0 0 (-10) _) (cwV 1 hts gX10_spots_X10_refuseBad rfl rfl rfl (by decide +kernel) ⟨Nat.le_of_ble_eq_true rfl, Nat.le_of_ble_eq_true rfl⟩) (pV (ci := 10) (k := 0) hKA (hP.sub (ws' := [(h, .inr (10, [.ref g, .ref df, .ref im, .ref pn, .ref w, .ref pa, .int 0, .int 0, .int 0]))]) [0] rfl) (hD.sub (ws' := [(h, .inr (10, [.ref g, .ref df, .ref im, .ref pn, .ref w, .ref pa, .int 0, .int 0, .int 0]))]) [0] (by decide) rfl) rfl rfl) rfl rfl hl.1 rfl (lv_room (Nat.le_of_ble_eq_true rfl)) dX10_spots_19 ⟨Nat.le_of_ble_eq_true rfl, Nat.le_of_ble_eq_true rfl⟩) hP hD hS hA [0] [1] rfl rfl (by decide +kernel) (by decide +kernel) (fun r3 ur3 H locs hwr3 hP hD hS => ?_)
    have hP : va_P D vwCl [(g, .inr (3, [.int 6, .int 6, .int 1, .int 0, .long 0, .long 0, .int 0, .int 0, .int 0, .ref k0, .ref k1, .ref k2, .ref k3, .ref k4, .ref k5, .ref k6])), (h, .inr (10, [.ref g, .ref df, .ref im, .ref pn, .ref w, .ref pa, .int (0 + 1), .int 0, .int 0]))] H := hP
    have hD : va_D A [(g, .inr (3, [.int 6, .int 6, .int 1, .int 0, .long 0, .long 0, .int 0, .int 0, .int 0, .ref k0, .ref k1, .ref k2, .ref k3, .ref k4, .ref k5, .ref k6])), (h, .inr (10, [.ref g, .ref df, .ref im, .ref pn, .ref w, .ref pa, .int (0 + 1), .int 0, .int 0]))] := hD
    subst hwr3
    have hP9 := hP.sub (ws' := []) [] rfl
    have hD9 := hD.sub (ws' := []) [] (by decide) rfl
    exact W.iret (v := (-10)) hx hb hr (fun t ht hW => ⟨⟨(-10), (), rfl, rfl, by rw [ht]; exact hP9, hD9⟩, hS.F ht⟩) hS.2.2 dX10_spots_22

set_option maxHeartbeats 4000000 in
set_option maxRecDepth 100000 in
theorem tp_from (l : Launch) (D : va_G) (cy : Nat → ClassId) (h g df im pn w pa : Nat) (x : Int32) (sz : Nat)  : Met l yX10_from wsX10_from ({ frames := 1, cells := 0, slots := 0, locals := 22 }) (va_Pc [.ref h, .int x] (kPre D cy [(h, .inr (10, [.ref g, .ref df, .ref im, .ref pn, .ref w, .ref pa, .int 0, .int 0, .int 0])), (im, .inl (cy 3, 2, .inr (.inr (.inr (.inr (fun _ => none))))))] sz)) (va_Qi (fun (r : Int32) (_ : Unit) => r = sp_01 x (-3)) (fun (u : Unit) t => va_P D vwCl ([]) t.heap ∧ va_D (va_A [(h, .inr (10, [.ref g, .ref df, .ref im, .ref pn, .ref w, .ref pa, .int 0, .int 0, .int 0])), (im, .inl (cy 3, 2, .inr (.inr (.inr (.inr (fun _ => none))))))] sz) ([])) (va_A [(h, .inr (10, [.ref g, .ref df, .ref im, .ref pn, .ref w, .ref pa, .int 0, .int 0, .int 0])), (im, .inl (cy 3, 2, .inr (.inr (.inr (.inr (fun _ => none))))))] sz)) 0 0 (va_A [(h, .inr (10, [.ref g, .ref df, .ref im, .ref pn, .ref w, .ref pa, .int 0, .int 0, .int 0])), (im, .inl (cy 3, 2, .inr (.inr (.inr (.inr (fun _ => none))))))] sz) := by
  refine Met.ofW (cc := cX10_from) (maxL := 3) (ret := (some .int)) (by decide) rfl ?_
  intro p e s m args below meth c s₁ B hml hv
  obtain ⟨rfl, hsz, hP, hKA, hD0⟩ := hv
  have hx := B.exec
  have hb := B.bytes
  have hr := B.returns
  have hts := atoms_spec (ws := wsX10_from) B.pre
  have hown : s.vm.findClass RX10 = some m.cls := findClass_of_methodNamed B.named
  have hlocks := B.notSynchronized
  subst hsz
  have hK := hKA.1
  have hD := hD0.self (sz := s.heap.size)
  generalize hAe : va_A [(h, .inr (10, [.ref g, .ref df, .ref im, .ref pn, .ref w, .ref pa, .int 0, .int 0, .int 0])), (im, .inl (cy 3, 2, .inr (.inr (.inr (.inr (fun _ => none))))))] s.heap.size = A at hD ⊢
  have hA : ∀ q : Nat, s.heap.size ≤ q → A q := fun q h => by rw [← hAe]; exact Or.inr h
  have hS : va_S A s.heap s.heap [] := va_S.rf
  have hP : va_P D vwCl [(h, .inr (10, [.ref g, .ref df, .ref im, .ref pn, .ref w, .ref pa, .int 0, .int 0, .int 0])), (im, .inl (cy 3, 2, .inr (.inr (.inr (.inr (fun _ => none))))))] s.heap := hP
  have hl := lv_entry ([.ref h, .int x]) (n := 3) (Nat.le_of_ble_eq_true rfl)
  rw [lg_entry_eq]
  generalize (lg_sl ([.ref h, .int x]) ++ List.replicate (3 - (lg_sl ([.ref h, .int x])).length) Slot.unset).toArray = ls at hl ⊢
  have hl : lv_has ls 3 [(0, .ref h), (1, .int x)] := hl
  have z0_ := hts (.fieldLink RX10 19 "HeardSeen" "images" "[LHeardSeen$Garden;") (by decide +kernel)
  have zi10_ : ∀ w ∈ u_ws RX10 TX10 9, w ∈ wsX10_from := by decide +kernel
  refine lv_iload_n hx hb dX10_from_0 rfl (lv_at hl 1 rfl) ?_
  refine lv_iconst (v := 0) hx hb dX10_from_1 (by decide) ?_
  refine lv_aload_n hx hb dX10_from_2 rfl (lv_at hl 0 rfl) ?_
  refine va_get (D := D) (ci := 10) (v := .ref im) (C := RX10) (T := TX10) (N := 9) hx hb hts zi10_ hown hK hP 0 rfl rfl 2 (by decide) z0_ (fun _ h9 => h9) rfl dX10_from_3 ?_
  refine va_alen hx hb hK hP 1 3 rfl rfl (v := 2) rfl dX10_from_6 ?_
  refine lv_iconst (v := 1) hx hb dX10_from_7 (by decide) ?_
  refine lv_isub hx hb dX10_from_8 ?_
  refine lv_topi (fun x1 ex1 => ?_)
  obtain rfl : x1 = 1 := by rw [ex1]; decide +kernel
  refine rd_i (va_runS (As := [.int x, .int 0, .int 1]) (rest := []) ⟨hx, hb, hml, hown, hts⟩ (c_X10_isWithin l D cy x 0 1 _) (va_cwS 3 hts gX10_from_X10_isWithin rfl rfl rfl (by decide +kernel) ⟨Nat.le_of_ble_eq_true rfl, Nat.le_of_ble_eq_true rfl⟩) (pS hKA pE (dE (A := A))) rfl rfl hl.1 rfl (lv_room (Nat.le_of_ble_eq_true rfl)) dX10_from_9 ⟨Nat.le_of_ble_eq_true rfl, Nat.le_of_ble_eq_true rfl⟩) hP hS hA (fun r2 H locs hwr2 hP hS => ?_)
  rcases hwr2 with ⟨rfl, har2, hbr2⟩ | ⟨rfl, hnr2⟩
  · skip
    refine lv_if_ne (tgt := 22) hx hb dX10_from_12 (by decide) (fun c3 => ?_) (fun c3 => absurd c3 (by decide))
    refine lv_aload_n hx hb dX10_from_22 rfl (lv_at hl 0 rfl) ?_
    refine va_get (D := D) (ci := 10) (v := .ref im) (C := RX10) (T := TX10) (N := 9) hx hb hts zi10_ hown hK hP 0 rfl rfl 2 (by decide) z0_ (fun _ h9 => h9) rfl dX10_from_23 ?_
    refine lv_iload_n hx hb dX10_from_26 rfl (lv_at hl 1 rfl) ?_
    refine my_aldq hx hb hK hP 1 3 rfl rfl (z_in2 (by assumption) (by assumption)) rfl dX10_from_27 ?_
    refine W.eq (g2 := F0 m 28 ls [.null]) rfl ?_
    refine lv_astore_nN (lv' := [(2, .null), (0, .ref h), (1, .int x)]) hx hb dX10_from_28 rfl hl (by decide) rfl (fun ls hl => ?_)
    refine lv_aload_nN hx hb dX10_from_29 rfl (lv_at hl 0 rfl) ?_
    refine lv_ifnonnullN hx hb dX10_from_30 ?_
    refine lv_aload_n hx hb dX10_from_33 rfl (lv_at hl 1 rfl) ?_
    refine lv_bipush (v := (-3)) hx hb dX10_from_34 (by decide) ?_
    refine wr_i (wr := [(im, .inl (cy 3, 2, .inr (.inr (.inr (.inr (fun _ => none))))))]) (va_runV (As := [.int (-3)]) (rest := []) ⟨hx, hb, hml, hown, hts⟩ (c_X10_refuseNo l D cy h g df im pn w pa 0 0 0 (-3) _) (cwV 1 hts gX10_from_X10_refuseNo rfl rfl rfl (by decide +kernel) ⟨Nat.le_of_ble_eq_true rfl, Nat.le_of_ble_eq_true rfl⟩) (pV (ci := 10) (k := 0) hKA (hP.sub (ws' := [(h, .inr (10, [.ref g, .ref df, .ref im, .ref pn, .ref w, .ref pa, .int 0, .int 0, .int 0]))]) [0] rfl) (hD.sub (ws' := [(h, .inr (10, [.ref g, .ref df, .ref im, .ref pn, .ref w, .ref pa, .int 0, .int 0, .int 0]))]) [0] (by decide) rfl) rfl rfl) rfl rfl hl.1 rfl (lv_room (Nat.le_of_ble_eq_true rfl)) dX10_from_36 ⟨Nat.le_of_ble_eq_true rfl, Nat.le_of_ble_eq_true rfl⟩) hP hD hS hA [0] [1] rfl rfl (by decide +kernel) (by decide +kernel) (fun r4 ur4 H locs hwr4 hP hD hS => ?_)
    have hP : va_P D vwCl [(im, .inl (cy 3, 2, .inr (.inr (.inr (.inr (fun _ => none)))))), (h, .inr (10, [.ref g, .ref df, .ref im, .ref pn, .ref w, .ref pa, .int 0, .int (0 + 1), .int 0]))] H := hP
    have hD : va_D A [(im, .inl (cy 3, 2, .inr (.inr (.inr (.inr (fun _ => none)))))), (h, .inr (10, [.ref g, .ref df, .ref im, .ref pn, .ref w, .ref pa, .int 0, .int (0 + 1), .int 0]))] := hD
    subst hwr4
    have hP9 := hP.sub (ws' := []) [] rfl
    have hD9 := hD.sub (ws' := []) [] (by decide) rfl
    exact W.iret (v := (-3)) hx hb hr (fun t ht hW => ⟨⟨(-3), (), rfl, (by simp [sp_01, har2, hbr2]), by rw [ht]; exact hP9, hD9⟩, hS.F ht⟩) hS.2.2 dX10_from_39
  · skip
    refine lv_if_ne (tgt := 22) hx hb dX10_from_12 (by decide) (fun c5 => absurd c5 (by decide)) (fun c5 => ?_)
    refine lv_aload_n hx hb dX10_from_15 rfl (lv_at hl 0 rfl) ?_
    refine lv_bipush (v := (-2)) hx hb dX10_from_16 (by decide) ?_
    refine wr_i (wr := [(im, .inl (cy 3, 2, .inr (.inr (.inr (.inr (fun _ => none))))))]) (va_runV (As := [.int (-2)]) (rest := []) ⟨hx, hb, hml, hown, hts⟩ (c_X10_refuseBad l D cy h g df im pn w pa 0 0 0 (-2) _) (cwV 1 hts gX10_from_X10_refuseBad rfl rfl rfl (by decide +kernel) ⟨Nat.le_of_ble_eq_true rfl, Nat.le_of_ble_eq_true rfl⟩) (pV (ci := 10) (k := 0) hKA (hP.sub (ws' := [(h, .inr (10, [.ref g, .ref df, .ref im, .ref pn, .ref w, .ref pa, .int 0, .int 0, .int 0]))]) [0] rfl) (hD.sub (ws' := [(h, .inr (10, [.ref g, .ref df, .ref im, .ref pn, .ref w, .ref pa, .int 0, .int 0, .int 0]))]) [0] (by decide) rfl) rfl rfl) rfl rfl hl.1 rfl (lv_room (Nat.le_of_ble_eq_true rfl)) dX10_from_18 ⟨Nat.le_of_ble_eq_true rfl, Nat.le_of_ble_eq_true rfl⟩) hP hD hS hA [0] [1] rfl rfl (by decide +kernel) (by decide +kernel) (fun r6 ur6 H locs hwr6 hP hD hS => ?_)
    have hP : va_P D vwCl [(im, .inl (cy 3, 2, .inr (.inr (.inr (.inr (fun _ => none)))))), (h, .inr (10, [.ref g, .ref df, .ref im, .ref pn, .ref w, .ref pa, .int (0 + 1), .int 0, .int 0]))] H := hP
    have hD : va_D A [(im, .inl (cy 3, 2, .inr (.inr (.inr (.inr (fun _ => none)))))), (h, .inr (10, [.ref g, .ref df, .ref im, .ref pn, .ref w, .ref pa, .int (0 + 1), .int 0, .int 0]))] := hD
    subst hwr6
    have hP9 := hP.sub (ws' := []) [] rfl
    have hD9 := hD.sub (ws' := []) [] (by decide) rfl
    exact W.iret (v := (-2)) hx hb hr (fun t ht hW => ⟨⟨(-2), (), rfl, (by simp [sp_01, hnr2]), by rw [ht]; exact hP9, hD9⟩, hS.F ht⟩) hS.2.2 dX10_from_21

set_option maxHeartbeats 4000000 in
set_option maxRecDepth 100000 in
theorem tp_status (l : Launch) (D : va_G) (cy : Nat → ClassId) (h g df im pn w pa : Nat) (x : Int32) (sz : Nat)  : Met l yX10_status wsX10_status ({ frames := 1, cells := 0, slots := 0, locals := 21 }) (va_Pc [.ref h, .int x] (kPre D cy [(h, .inr (10, [.ref g, .ref df, .ref im, .ref pn, .ref w, .ref pa, .int 0, .int 0, .int 0]))] sz)) (va_Qi (fun (r : Int32) (_ : Unit) => r = sp_status x) (fun (u : Unit) t => va_P D vwCl ([]) t.heap ∧ va_D (va_A [(h, .inr (10, [.ref g, .ref df, .ref im, .ref pn, .ref w, .ref pa, .int 0, .int 0, .int 0]))] sz) ([])) (va_A [(h, .inr (10, [.ref g, .ref df, .ref im, .ref pn, .ref w, .ref pa, .int 0, .int 0, .int 0]))] sz)) 0 0 (va_A [(h, .inr (10, [.ref g, .ref df, .ref im, .ref pn, .ref w, .ref pa, .int 0, .int 0, .int 0]))] sz) := by
  refine Met.ofW (cc := cX10_status) (maxL := 2) (ret := (some .int)) (by decide) rfl ?_
  intro p e s m args below meth c s₁ B hml hv
  obtain ⟨rfl, hsz, hP, hKA, hD0⟩ := hv
  have hx := B.exec
  have hb := B.bytes
  have hr := B.returns
  have hts := atoms_spec (ws := wsX10_status) B.pre
  have hown : s.vm.findClass RX10 = some m.cls := findClass_of_methodNamed B.named
  have hlocks := B.notSynchronized
  subst hsz
  have hK := hKA.1
  have hD := hD0.self (sz := s.heap.size)
  generalize hAe : va_A [(h, .inr (10, [.ref g, .ref df, .ref im, .ref pn, .ref w, .ref pa, .int 0, .int 0, .int 0]))] s.heap.size = A at hD ⊢
  have hA : ∀ q : Nat, s.heap.size ≤ q → A q := fun q h => by rw [← hAe]; exact Or.inr h
  have hS : va_S A s.heap s.heap [] := va_S.rf
  have hP : va_P D vwCl [(h, .inr (10, [.ref g, .ref df, .ref im, .ref pn, .ref w, .ref pa, .int 0, .int 0, .int 0]))] s.heap := hP
  have hl := lv_entry ([.ref h, .int x]) (n := 2) (Nat.le_of_ble_eq_true rfl)
  rw [lg_entry_eq]
  generalize (lg_sl ([.ref h, .int x]) ++ List.replicate (2 - (lg_sl ([.ref h, .int x])).length) Slot.unset).toArray = ls at hl ⊢
  have hl : lv_has ls 2 [(0, .ref h), (1, .int x)] := hl
  have z0_ := hts (.fieldLink RX10 204 "HeardSeen" "bads" "I") (by decide +kernel)
  have zi10_ : ∀ w ∈ u_ws RX10 TX10 9, w ∈ wsX10_status := by decide +kernel
  have z2_ := hts (.fieldLink RX10 207 "HeardSeen" "nos" "I") (by decide +kernel)
  have z3_ := hts (.fieldLink RX10 210 "HeardSeen" "fulls" "I") (by decide +kernel)
  refine lv_iload_n hx hb dX10_status_0 rfl (lv_at hl 1 rfl) ?_
  by_cases c1 : x = 0
  · skip
    refine lv_tableIn (tgt := 28) hx hb dX10_status_1 (by rw [c1]; decide) (by rw [c1]; decide) (by rw [c1]; rfl) (by decide) ?_
    refine lv_aload_n hx hb dX10_status_28 rfl (lv_at hl 0 rfl) ?_
    refine va_get (D := D) (ci := 10) (v := .int 0) (C := RX10) (T := TX10) (N := 9) hx hb hts zi10_ hown hK hP 0 rfl rfl 6 (by decide) z0_ (fun _ h9 => h9) rfl dX10_status_29 ?_
    have hP9 := hP.sub (ws' := []) [] rfl
    have hD9 := hD.sub (ws' := []) [] (by decide) rfl
    exact W.iret (v := 0) hx hb hr (fun t ht hW => ⟨⟨0, (), rfl, (by simp [sp_status, c1]), by rw [ht]; exact hP9, hD9⟩, hS.F ht⟩) hS.2.2 dX10_status_32
  by_cases c2 : x = 1
  · skip
    refine lv_tableIn (tgt := 33) hx hb dX10_status_1 (by rw [c2]; decide) (by rw [c2]; decide) (by rw [c2]; rfl) (by decide) ?_
    refine lv_aload_n hx hb dX10_status_33 rfl (lv_at hl 0 rfl) ?_
    refine va_get (D := D) (ci := 10) (v := .int 0) (C := RX10) (T := TX10) (N := 9) hx hb hts zi10_ hown hK hP 0 rfl rfl 7 (by decide) z2_ (fun _ h9 => h9) rfl dX10_status_34 ?_
    have hP9 := hP.sub (ws' := []) [] rfl
    have hD9 := hD.sub (ws' := []) [] (by decide) rfl
    exact W.iret (v := 0) hx hb hr (fun t ht hW => ⟨⟨0, (), rfl, (by simp [sp_status, c1, c2]), by rw [ht]; exact hP9, hD9⟩, hS.F ht⟩) hS.2.2 dX10_status_37
  by_cases c3 : x = 2
  · skip
    refine lv_tableIn (tgt := 38) hx hb dX10_status_1 (by rw [c3]; decide) (by rw [c3]; decide) (by rw [c3]; rfl) (by decide) ?_
    refine lv_aload_n hx hb dX10_status_38 rfl (lv_at hl 0 rfl) ?_
    refine va_get (D := D) (ci := 10) (v := .int 0) (C := RX10) (T := TX10) (N := 9) hx hb hts zi10_ hown hK hP 0 rfl rfl 8 (by decide) z3_ (fun _ h9 => h9) rfl dX10_status_39 ?_
    have hP9 := hP.sub (ws' := []) [] rfl
    have hD9 := hD.sub (ws' := []) [] (by decide) rfl
    exact W.iret (v := 0) hx hb hr (fun t ht hW => ⟨⟨0, (), rfl, (by simp [sp_status, c1, c2, c3]), by rw [ht]; exact hP9, hD9⟩, hS.F ht⟩) hS.2.2 dX10_status_42
  refine lv_tableOut (tgt := 43) hx hb dX10_status_1 (by have q0 : ¬ x.toInt = 0 := fun h2 => absurd (Int32.toInt_inj.mp (h2.trans (by decide : (0 : Int) = (0 : Int32).toInt))) (by assumption); have q1 : ¬ x.toInt = 1 := fun h2 => absurd (Int32.toInt_inj.mp (h2.trans (by decide : (1 : Int) = (1 : Int32).toInt))) (by assumption); have q2 : ¬ x.toInt = 2 := fun h2 => absurd (Int32.toInt_inj.mp (h2.trans (by decide : (2 : Int) = (2 : Int32).toInt))) (by assumption); omega) (by decide) ?_
  refine lv_aload_n hx hb dX10_status_43 rfl (lv_at hl 0 rfl) ?_
  refine lv_iconst (v := (-1)) hx hb dX10_status_44 (by decide) ?_
  refine wr_i (wr := []) (va_runV (As := [.int (-1)]) (rest := []) ⟨hx, hb, hml, hown, hts⟩ (c_X10_refuseBad l D cy h g df im pn w pa 0 0 0 (-1) _) (cwV 1 hts gX10_status_X10_refuseBad rfl rfl rfl (by decide +kernel) ⟨Nat.le_of_ble_eq_true rfl, Nat.le_of_ble_eq_true rfl⟩) (pV (ci := 10) (k := 0) hKA (hP.sub (ws' := [(h, .inr (10, [.ref g, .ref df, .ref im, .ref pn, .ref w, .ref pa, .int 0, .int 0, .int 0]))]) [0] rfl) (hD.sub (ws' := [(h, .inr (10, [.ref g, .ref df, .ref im, .ref pn, .ref w, .ref pa, .int 0, .int 0, .int 0]))]) [0] (by decide) rfl) rfl rfl) rfl rfl hl.1 rfl (lv_room (Nat.le_of_ble_eq_true rfl)) dX10_status_45 ⟨Nat.le_of_ble_eq_true rfl, Nat.le_of_ble_eq_true rfl⟩) hP hD hS hA [0] [] rfl rfl (by decide +kernel) (by decide +kernel) (fun r4 ur4 H locs hwr4 hP hD hS => ?_)
  have hP : va_P D vwCl [(h, .inr (10, [.ref g, .ref df, .ref im, .ref pn, .ref w, .ref pa, .int (0 + 1), .int 0, .int 0]))] H := hP
  have hD : va_D A [(h, .inr (10, [.ref g, .ref df, .ref im, .ref pn, .ref w, .ref pa, .int (0 + 1), .int 0, .int 0]))] := hD
  subst hwr4
  have hP9 := hP.sub (ws' := []) [] rfl
  have hD9 := hD.sub (ws' := []) [] (by decide) rfl
  exact W.iret (v := (-1)) hx hb hr (fun t ht hW => ⟨⟨(-1), (), rfl, (by simp [sp_status, c1, c2, c3]), by rw [ht]; exact hP9, hD9⟩, hS.F ht⟩) hS.2.2 dX10_status_48
