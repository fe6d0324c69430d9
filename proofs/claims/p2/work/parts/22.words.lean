theorem dX8_wordNumbered_0 : decode cX8_wordNumbered 0 = .ok (.iload_n 0, 1) := by decide +kernel
theorem dX8_wordNumbered_1 : decode cX8_wordNumbered 1 = .ok (.tableswitch 64 0 6 #[43, 46, 49, 52, 55, 58, 61], 43) := by decide +kernel
theorem dX8_wordNumbered_44 : decode cX8_wordNumbered 44 = .ok (.ldc 149, 2) := by decide +kernel
theorem dX8_wordNumbered_46 : decode cX8_wordNumbered 46 = .ok (.areturn, 1) := by decide +kernel
theorem dX8_wordNumbered_47 : decode cX8_wordNumbered 47 = .ok (.ldc 151, 2) := by decide +kernel
theorem dX8_wordNumbered_49 : decode cX8_wordNumbered 49 = .ok (.areturn, 1) := by decide +kernel
theorem dX8_wordNumbered_50 : decode cX8_wordNumbered 50 = .ok (.ldc 153, 2) := by decide +kernel
theorem dX8_wordNumbered_52 : decode cX8_wordNumbered 52 = .ok (.areturn, 1) := by decide +kernel
theorem dX8_wordNumbered_53 : decode cX8_wordNumbered 53 = .ok (.ldc 155, 2) := by decide +kernel
theorem dX8_wordNumbered_55 : decode cX8_wordNumbered 55 = .ok (.areturn, 1) := by decide +kernel
theorem dX8_wordNumbered_56 : decode cX8_wordNumbered 56 = .ok (.ldc 156, 2) := by decide +kernel
theorem dX8_wordNumbered_58 : decode cX8_wordNumbered 58 = .ok (.areturn, 1) := by decide +kernel
theorem dX8_wordNumbered_59 : decode cX8_wordNumbered 59 = .ok (.ldc 157, 2) := by decide +kernel
theorem dX8_wordNumbered_61 : decode cX8_wordNumbered 61 = .ok (.areturn, 1) := by decide +kernel
theorem dX8_wordNumbered_62 : decode cX8_wordNumbered 62 = .ok (.ldc 159, 2) := by decide +kernel
theorem dX8_wordNumbered_64 : decode cX8_wordNumbered 64 = .ok (.areturn, 1) := by decide +kernel
theorem dX8_wordNumbered_65 : decode cX8_wordNumbered 65 = .ok (.ldc 161, 2) := by decide +kernel
theorem dX8_wordNumbered_67 : decode cX8_wordNumbered 67 = .ok (.areturn, 1) := by decide +kernel
theorem dX8_isSpelled_0 : decode cX8_isSpelled 0 = .ok (.aload_n 0, 1) := by decide +kernel
theorem dX8_isSpelled_1 : decode cX8_isSpelled 1 = .ok (.getfield 19, 3) := by decide +kernel
theorem dX8_isSpelled_4 : decode cX8_isSpelled 4 = .ok (.aload_n 0, 1) := by decide +kernel
theorem dX8_isSpelled_5 : decode cX8_isSpelled 5 = .ok (.getfield 35, 3) := by decide +kernel
theorem dX8_isSpelled_8 : decode cX8_isSpelled 8 = .ok (.isub, 1) := by decide +kernel
theorem dX8_isSpelled_9 : decode cX8_isSpelled 9 = .ok (.aload_n 1, 1) := by decide +kernel
set_option maxRecDepth 20000 in
theorem ggX8_isSpelled_J0_length_8abf5 : GoodIn wsX8_isSpelled wsJ0_length_8abf5 := goodIn_r _ [7, 8, 9, 10, 11, 6, 12, 13, 14] (by decide +kernel) (by decide +kernel)
set_option maxRecDepth 20000 in
theorem gX8_isSpelled_J0_length_8abf5 : GoodIn wsX8_isSpelled (wsV RX8 141 RJ0 yJ0_length_8abf5 wsJ0_length_8abf5) := goodIn_app (goodIn_of _ (by decide +kernel)) ggX8_isSpelled_J0_length_8abf5
theorem dX8_isSpelled_10 : decode cX8_isSpelled 10 = .ok (.invokevirtual 141, 3) := by decide +kernel
theorem dX8_isSpelled_13 : decode cX8_isSpelled 13 = .ok (.if_icmp .eq 5, 3) := by decide +kernel
theorem dX8_isSpelled_18 : decode cX8_isSpelled 18 = .ok (.iconst 0, 1) := by decide +kernel
theorem dX8_isSpelled_19 : decode cX8_isSpelled 19 = .ok (.istore_n 2, 1) := by decide +kernel
theorem dX8_isSpelled_20 : decode cX8_isSpelled 20 = .ok (.iload_n 2, 1) := by decide +kernel
theorem dX8_isSpelled_21 : decode cX8_isSpelled 21 = .ok (.aload_n 1, 1) := by decide +kernel
theorem dX8_isSpelled_22 : decode cX8_isSpelled 22 = .ok (.invokevirtual 141, 3) := by decide +kernel
theorem dX8_isSpelled_25 : decode cX8_isSpelled 25 = .ok (.if_icmp .ge 29, 3) := by decide +kernel
theorem dX8_isSpelled_54 : decode cX8_isSpelled 54 = .ok (.iconst 1, 1) := by decide +kernel
theorem dX8_isSpelled_55 : decode cX8_isSpelled 55 = .ok (.ireturn, 1) := by decide +kernel
theorem dX8_isSpelled_28 : decode cX8_isSpelled 28 = .ok (.aload_n 0, 1) := by decide +kernel
theorem dX8_isSpelled_29 : decode cX8_isSpelled 29 = .ok (.aload_n 0, 1) := by decide +kernel
theorem dX8_isSpelled_30 : decode cX8_isSpelled 30 = .ok (.getfield 35, 3) := by decide +kernel
theorem dX8_isSpelled_33 : decode cX8_isSpelled 33 = .ok (.iload_n 2, 1) := by decide +kernel
theorem dX8_isSpelled_34 : decode cX8_isSpelled 34 = .ok (.iadd, 1) := by decide +kernel
set_option maxRecDepth 20000 in
theorem ggX8_isSpelled_X8_byteAt : GoodIn wsX8_isSpelled wsX8_byteAt := goodIn_r _ [19, 20, 21, 59, 60, 61, 62, 63, 64, 65] (by decide +kernel) (by decide +kernel)
set_option maxRecDepth 20000 in
theorem gX8_isSpelled_X8_byteAt : GoodIn wsX8_isSpelled (wsV RX8 117 RX8 yX8_byteAt wsX8_byteAt) := goodIn_app (goodIn_of _ (by decide +kernel)) ggX8_isSpelled_X8_byteAt
theorem dX8_isSpelled_35 : decode cX8_isSpelled 35 = .ok (.invokevirtual 117, 3) := by decide +kernel
theorem dX8_isSpelled_38 : decode cX8_isSpelled 38 = .ok (.aload_n 1, 1) := by decide +kernel
theorem dX8_isSpelled_39 : decode cX8_isSpelled 39 = .ok (.iload_n 2, 1) := by decide +kernel
set_option maxRecDepth 20000 in
theorem ggX8_isSpelled_J0_charAt_5068e : GoodIn wsX8_isSpelled wsJ0_charAt_5068e := goodIn_r _ [25, 8, 26, 27, 28, 6, 29, 13, 14, 30, 31, 32, 33, 34, 35, 36, 37, 38, 39, 40, 41, 42, 43, 44, 45, 46, 47, 48, 49, 50, 51, 52, 53, 54, 55, 56, 57, 58] (by decide +kernel) (by decide +kernel)
set_option maxRecDepth 20000 in
theorem gX8_isSpelled_J0_charAt_5068e : GoodIn wsX8_isSpelled (wsV RX8 145 RJ0 yJ0_charAt_5068e wsJ0_charAt_5068e) := goodIn_app (goodIn_of _ (by decide +kernel)) ggX8_isSpelled_J0_charAt_5068e
theorem dX8_isSpelled_40 : decode cX8_isSpelled 40 = .ok (.invokevirtual 145, 3) := by decide +kernel
theorem dX8_isSpelled_43 : decode cX8_isSpelled 43 = .ok (.if_icmp .eq 5, 3) := by decide +kernel
theorem dX8_isSpelled_48 : decode cX8_isSpelled 48 = .ok (.iinc 2 1, 3) := by decide +kernel
theorem dX8_isSpelled_51 : decode cX8_isSpelled 51 = .ok (.goto (-31), 3) := by decide +kernel
theorem dX8_isSpelled_46 : decode cX8_isSpelled 46 = .ok (.iconst 0, 1) := by decide +kernel
theorem dX8_isSpelled_47 : decode cX8_isSpelled 47 = .ok (.ireturn, 1) := by decide +kernel
theorem dX8_isSpelled_16 : decode cX8_isSpelled 16 = .ok (.iconst 0, 1) := by decide +kernel
theorem dX8_isSpelled_17 : decode cX8_isSpelled 17 = .ok (.ireturn, 1) := by decide +kernel
theorem dX8_wordOfToken_0 : decode cX8_wordOfToken 0 = .ok (.iconst 0, 1) := by decide +kernel
theorem dX8_wordOfToken_1 : decode cX8_wordOfToken 1 = .ok (.istore_n 1, 1) := by decide +kernel
theorem dX8_wordOfToken_2 : decode cX8_wordOfToken 2 = .ok (.iload_n 1, 1) := by decide +kernel
theorem dX8_wordOfToken_3 : decode cX8_wordOfToken 3 = .ok (.bipush 7, 2) := by decide +kernel
theorem dX8_wordOfToken_5 : decode cX8_wordOfToken 5 = .ok (.if_icmp .ge 22, 3) := by decide +kernel
theorem dX8_wordOfToken_27 : decode cX8_wordOfToken 27 = .ok (.iconst (-1), 1) := by decide +kernel
theorem dX8_wordOfToken_28 : decode cX8_wordOfToken 28 = .ok (.ireturn, 1) := by decide +kernel
theorem dX8_wordOfToken_8 : decode cX8_wordOfToken 8 = .ok (.aload_n 0, 1) := by decide +kernel
theorem dX8_wordOfToken_9 : decode cX8_wordOfToken 9 = .ok (.iload_n 1, 1) := by decide +kernel
set_option maxRecDepth 20000 in
theorem ggX8_wordOfToken_X8_wordNumbered : GoodIn wsX8_wordOfToken wsX8_wordNumbered := goodIn_r _ [4] (by decide +kernel) (by decide +kernel)
set_option maxRecDepth 20000 in
theorem gX8_wordOfToken_X8_wordNumbered : GoodIn wsX8_wordOfToken (va_wsS RX8 133 yX8_wordNumbered wsX8_wordNumbered) := goodIn_app (goodIn_of _ (by decide +kernel)) ggX8_wordOfToken_X8_wordNumbered
theorem dX8_wordOfToken_10 : decode cX8_wordOfToken 10 = .ok (.invokestatic 133, 3) := by decide +kernel
set_option maxRecDepth 20000 in
theorem ggX8_wordOfToken_X8_isSpelled : GoodIn wsX8_wordOfToken wsX8_isSpelled := goodIn_r _ [8, 9, 10, 11, 12, 13, 14, 15, 16, 17, 18, 19, 20, 21, 22, 23, 24, 25, 3, 26, 27, 28, 29, 30, 31, 32, 33, 34, 35, 36, 37, 38, 39, 40, 41, 42, 43, 44, 45, 46, 47, 48, 49, 50, 51, 52, 53, 54, 55, 56, 57, 58, 59, 60, 61, 62, 63, 64, 65, 66, 67, 68, 69, 70, 71, 72] (by decide +kernel) (by decide +kernel)
set_option maxRecDepth 20000 in
theorem gX8_wordOfToken_X8_isSpelled : GoodIn wsX8_wordOfToken (wsV RX8 137 RX8 yX8_isSpelled wsX8_isSpelled) := goodIn_app (goodIn_of _ (by decide +kernel)) ggX8_wordOfToken_X8_isSpelled
theorem dX8_wordOfToken_13 : decode cX8_wordOfToken 13 = .ok (.invokevirtual 137, 3) := by decide +kernel
theorem dX8_wordOfToken_16 : decode cX8_wordOfToken 16 = .ok (.ifCond .eq 5, 3) := by decide +kernel
theorem dX8_wordOfToken_21 : decode cX8_wordOfToken 21 = .ok (.iinc 1 1, 3) := by decide +kernel
theorem dX8_wordOfToken_24 : decode cX8_wordOfToken 24 = .ok (.goto (-22), 3) := by decide +kernel
theorem dX8_wordOfToken_19 : decode cX8_wordOfToken 19 = .ok (.iload_n 1, 1) := by decide +kernel
theorem dX8_wordOfToken_20 : decode cX8_wordOfToken 20 = .ok (.ireturn, 1) := by decide +kernel
theorem dX8_layInto_0 : decode cX8_layInto 0 = .ok (.aload_n 0, 1) := by decide +kernel
theorem dX8_layInto_1 : decode cX8_layInto 1 = .ok (.iconst 0, 1) := by decide +kernel
theorem dX8_layInto_2 : decode cX8_layInto 2 = .ok (.putfield 19, 3) := by decide +kernel
theorem dX8_layInto_5 : decode cX8_layInto 5 = .ok (.aload_n 0, 1) := by decide +kernel
theorem dX8_layInto_6 : decode cX8_layInto 6 = .ok (.iconst (-1), 1) := by decide +kernel
theorem dX8_layInto_7 : decode cX8_layInto 7 = .ok (.putfield 22, 3) := by decide +kernel
theorem dX8_layInto_10 : decode cX8_layInto 10 = .ok (.aload_n 0, 1) := by decide +kernel
set_option maxRecDepth 20000 in
theorem ggX8_layInto_X8_takeToken : GoodIn wsX8_layInto wsX8_takeToken := goodIn_r _ [9, 1, 10, 4, 11, 3, 12, 13, 14, 8, 15, 16, 17, 18, 19, 20, 21, 22, 23, 24, 25, 26, 27, 28, 29, 30, 190, 191, 192, 193, 194, 195, 196] (by decide +kernel) (by decide +kernel)
set_option maxRecDepth 20000 in
theorem gX8_layInto_X8_takeToken : GoodIn wsX8_layInto (wsV RX8 25 RX8 yX8_takeToken wsX8_takeToken) := goodIn_app (goodIn_of _ (by decide +kernel)) ggX8_layInto_X8_takeToken
theorem dX8_layInto_11 : decode cX8_layInto 11 = .ok (.invokevirtual 25, 3) := by decide +kernel
theorem dX8_layInto_14 : decode cX8_layInto 14 = .ok (.aload_n 0, 1) := by decide +kernel
theorem dX8_layInto_15 : decode cX8_layInto 15 = .ok (.getfield 28, 3) := by decide +kernel
theorem dX8_layInto_18 : decode cX8_layInto 18 = .ok (.iconst 1, 1) := by decide +kernel
theorem dX8_layInto_19 : decode cX8_layInto 19 = .ok (.if_icmp .ne 10, 3) := by decide +kernel
theorem dX8_layInto_29 : decode cX8_layInto 29 = .ok (.aload_n 0, 1) := by decide +kernel
theorem dX8_layInto_30 : decode cX8_layInto 30 = .ok (.getfield 35, 3) := by decide +kernel
theorem dX8_layInto_33 : decode cX8_layInto 33 = .ok (.ireturn, 1) := by decide +kernel
theorem dX8_layInto_22 : decode cX8_layInto 22 = .ok (.aload_n 0, 1) := by decide +kernel
set_option maxRecDepth 20000 in
theorem ggX8_layInto_X8_wordOfToken : GoodIn wsX8_layInto wsX8_wordOfToken := goodIn_r _ [34, 35, 36, 8, 37, 38, 39, 40, 41, 1, 4, 42, 43, 44, 45, 46, 47, 48, 49, 50, 51, 52, 53, 12, 13, 14, 15, 10, 16, 54, 55, 56, 57, 58, 59, 60, 61, 62, 63, 64, 65, 66, 67, 68, 69, 70, 71, 72, 73, 74, 75, 76, 77, 78, 79, 80, 81, 82, 83, 84, 85, 86, 87, 88, 89, 90, 190, 191, 192, 193, 194, 195, 196] (by decide +kernel) (by decide +kernel)
set_option maxRecDepth 20000 in
theorem gX8_layInto_X8_wordOfToken : GoodIn wsX8_layInto (wsV RX8 31 RX8 yX8_wordOfToken wsX8_wordOfToken) := goodIn_app (goodIn_of _ (by decide +kernel)) ggX8_layInto_X8_wordOfToken
theorem dX8_layInto_23 : decode cX8_layInto 23 = .ok (.invokevirtual 31, 3) := by decide +kernel
theorem dX8_layInto_26 : decode cX8_layInto 26 = .ok (.ifCond .eq 8, 3) := by decide +kernel
theorem dX8_layInto_34 : decode cX8_layInto 34 = .ok (.aload_n 0, 1) := by decide +kernel
theorem dX8_layInto_35 : decode cX8_layInto 35 = .ok (.aload_n 1, 1) := by decide +kernel
set_option maxRecDepth 20000 in
theorem ggX8_layInto_X8_layGarden : GoodIn wsX8_layInto wsX8_layGarden := goodIn_r _ [94, 95, 96, 97, 8, 98, 2, 3, 11, 5, 6, 7, 9, 1, 10, 4, 12, 13, 14, 15, 16, 17, 18, 19, 20, 21, 22, 23, 24, 25, 26, 27, 28, 29, 30, 99, 100, 101, 102, 103, 104, 105, 106, 107, 108, 109, 110, 111, 112, 113, 114, 115, 116, 117, 118, 119, 120, 190, 191, 192, 193, 194, 195, 196, 197, 198, 199, 200, 201, 202, 203, 204, 205, 206, 207, 208, 209, 210, 211, 212] (by decide +kernel) (by decide +kernel)
set_option maxRecDepth 20000 in
theorem gX8_layInto_X8_layGarden : GoodIn wsX8_layInto (wsV RX8 38 RX8 yX8_layGarden wsX8_layGarden) := goodIn_app (goodIn_of _ (by decide +kernel)) ggX8_layInto_X8_layGarden
theorem dX8_layInto_36 : decode cX8_layInto 36 = .ok (.invokevirtual 38, 3) := by decide +kernel
theorem dX8_layInto_39 : decode cX8_layInto 39 = .ok (.iconst 1, 1) := by decide +kernel
theorem dX8_layInto_40 : decode cX8_layInto 40 = .ok (.istore_n 2, 1) := by decide +kernel
theorem dX8_layInto_41 : decode cX8_layInto 41 = .ok (.iload_n 2, 1) := by decide +kernel
theorem dX8_layInto_42 : decode cX8_layInto 42 = .ok (.sipush 250, 3) := by decide +kernel
theorem dX8_layInto_45 : decode cX8_layInto 45 = .ok (.if_icmp .gt 51, 3) := by decide +kernel
theorem dX8_layInto_96 : decode cX8_layInto 96 = .ok (.aload_n 0, 1) := by decide +kernel
theorem dX8_layInto_97 : decode cX8_layInto 97 = .ok (.getfield 22, 3) := by decide +kernel
theorem dX8_layInto_100 : decode cX8_layInto 100 = .ok (.ireturn, 1) := by decide +kernel
theorem dX8_layInto_48 : decode cX8_layInto 48 = .ok (.aload_n 0, 1) := by decide +kernel
theorem dX8_layInto_49 : decode cX8_layInto 49 = .ok (.getfield 22, 3) := by decide +kernel
theorem dX8_layInto_52 : decode cX8_layInto 52 = .ok (.iconst (-1), 1) := by decide +kernel
theorem dX8_layInto_53 : decode cX8_layInto 53 = .ok (.if_icmp .ne 43, 3) := by decide +kernel
theorem dX8_layInto_56 : decode cX8_layInto 56 = .ok (.aload_n 0, 1) := by decide +kernel
theorem dX8_layInto_57 : decode cX8_layInto 57 = .ok (.invokevirtual 25, 3) := by decide +kernel
theorem dX8_layInto_60 : decode cX8_layInto 60 = .ok (.aload_n 0, 1) := by decide +kernel
theorem dX8_layInto_61 : decode cX8_layInto 61 = .ok (.getfield 28, 3) := by decide +kernel
theorem dX8_layInto_64 : decode cX8_layInto 64 = .ok (.ifCond .ne 5, 3) := by decide +kernel
theorem dX8_layInto_69 : decode cX8_layInto 69 = .ok (.aload_n 0, 1) := by decide +kernel
theorem dX8_layInto_70 : decode cX8_layInto 70 = .ok (.aload_n 1, 1) := by decide +kernel
theorem dX8_layInto_71 : decode cX8_layInto 71 = .ok (.aload_n 0, 1) := by decide +kernel
theorem dX8_layInto_72 : decode cX8_layInto 72 = .ok (.getfield 28, 3) := by decide +kernel
theorem dX8_layInto_75 : decode cX8_layInto 75 = .ok (.iconst 1, 1) := by decide +kernel
set_option maxRecDepth 20000 in
theorem ggX8_layInto_X8_layItem : GoodIn wsX8_layInto wsX8_layItem := goodIn_r _ [124, 125, 126, 127, 8, 128, 2, 129, 130, 131, 110, 132, 112, 113, 95, 96, 97, 98, 3, 11, 5, 6, 7, 9, 1, 10, 4, 12, 13, 14, 15, 16, 17, 18, 19, 20, 21, 22, 23, 24, 25, 26, 27, 28, 29, 30, 99, 100, 101, 102, 133, 134, 135, 136, 137, 138, 139, 140, 116, 117, 141, 142, 143, 144, 145, 146, 147, 118, 148, 103, 104, 105, 106, 149, 150, 151, 152, 153, 154, 155, 156, 157, 158, 159, 160, 161, 162, 163, 164, 165, 166, 167, 168, 169, 170, 171, 172, 173, 174, 175, 176, 177, 178, 179, 180, 181, 182, 183, 184, 185, 186, 187, 119, 188, 189, 190, 191, 192, 193, 194, 195, 196, 197, 198, 199, 200, 201, 202, 203, 204, 205, 206, 207, 208, 209, 210, 211, 212] (by decide +kernel) (by decide +kernel)
set_option maxRecDepth 20000 in
theorem gX8_layInto_X8_layItem : GoodIn wsX8_layInto (wsV RX8 42 RX8 yX8_layItem wsX8_layItem) := goodIn_app (goodIn_of _ (by decide +kernel)) ggX8_layInto_X8_layItem
theorem dX8_layInto_87 : decode cX8_layInto 87 = .ok (.invokevirtual 42, 3) := by decide +kernel
theorem dX8_layInto_90 : decode cX8_layInto 90 = .ok (.iinc 2 1, 3) := by decide +kernel
theorem dX8_layInto_93 : decode cX8_layInto 93 = .ok (.goto (-52), 3) := by decide +kernel
theorem dX8_layInto_76 : decode cX8_layInto 76 = .ok (.if_icmp .ne 10, 3) := by decide +kernel
theorem dX8_layInto_86 : decode cX8_layInto 86 = .ok (.iconst (-1), 1) := by decide +kernel
theorem dX8_layInto_79 : decode cX8_layInto 79 = .ok (.aload_n 0, 1) := by decide +kernel
theorem dX8_layInto_80 : decode cX8_layInto 80 = .ok (.invokevirtual 31, 3) := by decide +kernel
theorem dX8_layInto_83 : decode cX8_layInto 83 = .ok (.goto 4, 3) := by decide +kernel
theorem dX8_layInto_67 : decode cX8_layInto 67 = .ok (.iconst (-1), 1) := by decide +kernel
theorem dX8_layInto_68 : decode cX8_layInto 68 = .ok (.ireturn, 1) := by decide +kernel
set_option maxHeartbeats 4000000 in
set_option maxRecDepth 100000 in
theorem n_X8_wordNumbered (l : Launch) (D : va_G) (cy : Nat → ClassId) (adK : Nat → Nat) (adV : Nat → Nat) (px : Int32) (sz : Nat)  : Met l yX8_wordNumbered wsX8_wordNumbered ({ frames := 0, cells := 0, slots := 0, locals := 0 }) (va_Pc [.int px] (kPreS D cy adK adV [] sz)) (va_Qr (fun (_ : Unit) => True) (fun (_ : Unit) (ra : Nat) (_ : State) => ∃ i : Nat, i < 8 ∧ ra = adK i) (fun q : Nat => sz ≤ q)) 0 0 (fun q : Nat => sz ≤ q) := by
  refine Met.ofW (cc := cX8_wordNumbered) (maxL := 1) (ret := (some (.object "java/lang/String"))) (by decide) rfl ?_
  intro p e s m args below meth c s₁ B hml hv
  obtain ⟨rfl, ⟨hsz, hP, hKA, hD0⟩, hE0⟩ := hv
  have hx := B.exec
  have hb := B.bytes
  have hr := B.returns
  have hts := atoms_spec (ws := wsX8_wordNumbered) B.pre
  have hown : s.vm.findClass RX8 = some m.cls := findClass_of_methodNamed B.named
  have hlocks := B.notSynchronized
  subst hsz
  have hK := hKA.1
  have hD := hD0
  have hE : sK adK adV (fun q : Nat => s.heap.size ≤ q) s s.heap := hE0.narrow (fun q h => Or.inr h)
  generalize hAe : (fun q : Nat => s.heap.size ≤ q) = A at hE ⊢
  have hA : ∀ q : Nat, s.heap.size ≤ q → A q := fun q h => by rw [← hAe]; exact h
  have hS : va_S A s.heap s.heap [] := va_S.rf
  have hP : va_P D vwCl [] s.heap := hP
  have hl := lv_entry ([.int px]) (n := 1) (Nat.le_of_ble_eq_true rfl)
  rw [lg_entry_eq]
  generalize (lg_sl ([.int px]) ++ List.replicate (1 - (lg_sl ([.int px])).length) Slot.unset).toArray = ls at hl ⊢
  have hl : lv_has ls 1 [(0, .int px)] := hl
  refine qW (fun QF hQF => ?_)
  refine lv_iload_n hx hb dX8_wordNumbered_0 rfl (lv_at hl 0 rfl) ?_
  by_cases c1 : px = 0
  · skip
    refine lv_tableIn (tgt := 44) hx hb dX8_wordNumbered_1 (by rw [c1]; decide) (by rw [c1]; decide) (by rw [c1]; rfl) (by decide) ?_
    refine va_ldcS hx hb hown hE.1.1 dX8_wordNumbered_44 ?_
    subst hQF
    exact W.aret (v := .ref (adK 0)) hx hb hr (Or.inl ⟨_, rfl⟩) (Or.inr ⟨_, rfl⟩) (fun t ht hW => ⟨⟨(), adK 0, rfl, trivial, ⟨0, by decide, rfl⟩⟩, hS.F ht⟩) hS.2.2 dX8_wordNumbered_46
  by_cases c2 : px = 1
  · skip
    refine lv_tableIn (tgt := 47) hx hb dX8_wordNumbered_1 (by rw [c2]; decide) (by rw [c2]; decide) (by rw [c2]; rfl) (by decide) ?_
    refine va_ldcS hx hb hown hE.1.2.1 dX8_wordNumbered_47 ?_
    subst hQF
    exact W.aret (v := .ref (adK 1)) hx hb hr (Or.inl ⟨_, rfl⟩) (Or.inr ⟨_, rfl⟩) (fun t ht hW => ⟨⟨(), adK 1, rfl, trivial, ⟨1, by decide, rfl⟩⟩, hS.F ht⟩) hS.2.2 dX8_wordNumbered_49
  by_cases c3 : px = 2
  · skip
    refine lv_tableIn (tgt := 50) hx hb dX8_wordNumbered_1 (by rw [c3]; decide) (by rw [c3]; decide) (by rw [c3]; rfl) (by decide) ?_
    refine va_ldcS hx hb hown hE.1.2.2.1 dX8_wordNumbered_50 ?_
    subst hQF
    exact W.aret (v := .ref (adK 2)) hx hb hr (Or.inl ⟨_, rfl⟩) (Or.inr ⟨_, rfl⟩) (fun t ht hW => ⟨⟨(), adK 2, rfl, trivial, ⟨2, by decide, rfl⟩⟩, hS.F ht⟩) hS.2.2 dX8_wordNumbered_52
  by_cases c4 : px = 3
  · skip
    refine lv_tableIn (tgt := 53) hx hb dX8_wordNumbered_1 (by rw [c4]; decide) (by rw [c4]; decide) (by rw [c4]; rfl) (by decide) ?_
    refine va_ldcS hx hb hown hE.1.2.2.2.1 dX8_wordNumbered_53 ?_
    subst hQF
    exact W.aret (v := .ref (adK 3)) hx hb hr (Or.inl ⟨_, rfl⟩) (Or.inr ⟨_, rfl⟩) (fun t ht hW => ⟨⟨(), adK 3, rfl, trivial, ⟨3, by decide, rfl⟩⟩, hS.F ht⟩) hS.2.2 dX8_wordNumbered_55
  by_cases c5 : px = 4
  · skip
    refine lv_tableIn (tgt := 56) hx hb dX8_wordNumbered_1 (by rw [c5]; decide) (by rw [c5]; decide) (by rw [c5]; rfl) (by decide) ?_
    refine va_ldcS hx hb hown hE.1.2.2.2.2.1 dX8_wordNumbered_56 ?_
    subst hQF
    exact W.aret (v := .ref (adK 4)) hx hb hr (Or.inl ⟨_, rfl⟩) (Or.inr ⟨_, rfl⟩) (fun t ht hW => ⟨⟨(), adK 4, rfl, trivial, ⟨4, by decide, rfl⟩⟩, hS.F ht⟩) hS.2.2 dX8_wordNumbered_58
  by_cases c6 : px = 5
  · skip
    refine lv_tableIn (tgt := 59) hx hb dX8_wordNumbered_1 (by rw [c6]; decide) (by rw [c6]; decide) (by rw [c6]; rfl) (by decide) ?_
    refine va_ldcS hx hb hown hE.1.2.2.2.2.2.1 dX8_wordNumbered_59 ?_
    subst hQF
    exact W.aret (v := .ref (adK 5)) hx hb hr (Or.inl ⟨_, rfl⟩) (Or.inr ⟨_, rfl⟩) (fun t ht hW => ⟨⟨(), adK 5, rfl, trivial, ⟨5, by decide, rfl⟩⟩, hS.F ht⟩) hS.2.2 dX8_wordNumbered_61
  by_cases c7 : px = 6
  · skip
    refine lv_tableIn (tgt := 62) hx hb dX8_wordNumbered_1 (by rw [c7]; decide) (by rw [c7]; decide) (by rw [c7]; rfl) (by decide) ?_
    refine va_ldcS hx hb hown hE.1.2.2.2.2.2.2.1 dX8_wordNumbered_62 ?_
    subst hQF
    exact W.aret (v := .ref (adK 6)) hx hb hr (Or.inl ⟨_, rfl⟩) (Or.inr ⟨_, rfl⟩) (fun t ht hW => ⟨⟨(), adK 6, rfl, trivial, ⟨6, by decide, rfl⟩⟩, hS.F ht⟩) hS.2.2 dX8_wordNumbered_64
  refine lv_tableOut (tgt := 65) hx hb dX8_wordNumbered_1 (by have q0 : ¬ px.toInt = 0 := fun h2 => absurd (Int32.toInt_inj.mp (h2.trans (by decide : (0 : Int) = (0 : Int32).toInt))) (by assumption); have q1 : ¬ px.toInt = 1 := fun h2 => absurd (Int32.toInt_inj.mp (h2.trans (by decide : (1 : Int) = (1 : Int32).toInt))) (by assumption); have q2 : ¬ px.toInt = 2 := fun h2 => absurd (Int32.toInt_inj.mp (h2.trans (by decide : (2 : Int) = (2 : Int32).toInt))) (by assumption); have q3 : ¬ px.toInt = 3 := fun h2 => absurd (Int32.toInt_inj.mp (h2.trans (by decide : (3 : Int) = (3 : Int32).toInt))) (by assumption); have q4 : ¬ px.toInt = 4 := fun h2 => absurd (Int32.toInt_inj.mp (h2.trans (by decide : (4 : Int) = (4 : Int32).toInt))) (by assumption); have q5 : ¬ px.toInt = 5 := fun h2 => absurd (Int32.toInt_inj.mp (h2.trans (by decide : (5 : Int) = (5 : Int32).toInt))) (by assumption); have q6 : ¬ px.toInt = 6 := fun h2 => absurd (Int32.toInt_inj.mp (h2.trans (by decide : (6 : Int) = (6 : Int32).toInt))) (by assumption); omega) (by decide) ?_
  refine va_ldcS hx hb hown hE.1.2.2.2.2.2.2.2 dX8_wordNumbered_65 ?_
  subst hQF
  exact W.aret (v := .ref (adK 7)) hx hb hr (Or.inl ⟨_, rfl⟩) (Or.inr ⟨_, rfl⟩) (fun t ht hW => ⟨⟨(), adK 7, rfl, trivial, ⟨7, by decide, rfl⟩⟩, hS.F ht⟩) hS.2.2 dX8_wordNumbered_67

set_option maxHeartbeats 4000000 in
set_option maxRecDepth 100000 in
theorem n_X8_isSpelled (l : Launch) (D : va_G) (cy : Nat → ClassId) (adK : Nat → Nat) (adV : Nat → Nat) (pi : Nat) (a_pn : Nat) (a_by : Nat) (pn_length : Int32) (pn_next : Int32) (pn_sort : Int32) (pn_start : Int32) (pn_value : Int32) (pn_fault : Int32) (by_f : Nat → Int32) (sz : Nat) (hi : pi < 8) : Met l yX8_isSpelled wsX8_isSpelled ({ frames := 4, cells := 0, slots := 0, locals := 85 }) (va_Pc [.ref a_pn, .ref (adK pi)] (kPreS D cy adK adV [(a_pn, .inr (8, [.ref a_by, .int pn_length, .int pn_next, .int pn_sort, .int pn_start, .int pn_value, .int pn_fault])), (a_by, .inl (cy 0, 250, .inl by_f))] sz)) (va_Qi (fun (r : Int32) (u : Unit) => (r = 1 ∧ True) ∨ (r = 0 ∧ True)) (fun (u : Unit) t => va_P D vwCl ([(a_pn, .inr (8, [.ref a_by, .int pn_length, .int pn_next, .int pn_sort, .int pn_start, .int pn_value, .int pn_fault])), (a_by, .inl (cy 0, 250, .inl by_f))]) t.heap ∧ va_D (va_A [(a_pn, .inr (8, [.ref a_by, .int pn_length, .int pn_next, .int pn_sort, .int pn_start, .int pn_value, .int pn_fault])), (a_by, .inl (cy 0, 250, .inl by_f))] sz) ([(a_pn, .inr (8, [.ref a_by, .int pn_length, .int pn_next, .int pn_sort, .int pn_start, .int pn_value, .int pn_fault])), (a_by, .inl (cy 0, 250, .inl by_f))])) (va_A [(a_pn, .inr (8, [.ref a_by, .int pn_length, .int pn_next, .int pn_sort, .int pn_start, .int pn_value, .int pn_fault])), (a_by, .inl (cy 0, 250, .inl by_f))] sz)) 0 0 (va_A [(a_pn, .inr (8, [.ref a_by, .int pn_length, .int pn_next, .int pn_sort, .int pn_start, .int pn_value, .int pn_fault])), (a_by, .inl (cy 0, 250, .inl by_f))] sz) := by
  refine Met.ofW (cc := cX8_isSpelled) (maxL := 3) (ret := (some .boolean)) (by decide) rfl ?_
  intro p e s m args below meth c s₁ B hml hv
  obtain ⟨rfl, ⟨hsz, hP, hKA, hD0⟩, hE0⟩ := hv
  have hx := B.exec
  have hb := B.bytes
  have hr := B.returns
  have hts := atoms_spec (ws := wsX8_isSpelled) B.pre
  have hown : s.vm.findClass RX8 = some m.cls := findClass_of_methodNamed B.named
  have hlocks := B.notSynchronized
  subst hsz
  have hK := hKA.1
  have hD := hD0.self (sz := s.heap.size)
  have hE := hE0
  generalize hAe : va_A [(a_pn, .inr (8, [.ref a_by, .int pn_length, .int pn_next, .int pn_sort, .int pn_start, .int pn_value, .int pn_fault])), (a_by, .inl (cy 0, 250, .inl by_f))] s.heap.size = A at hD hE ⊢
  have hA : ∀ q : Nat, s.heap.size ≤ q → A q := fun q h => by rw [← hAe]; exact Or.inr h
  have hS : va_S A s.heap s.heap [] := va_S.rf
  have hP : va_P D vwCl [(a_pn, .inr (8, [.ref a_by, .int pn_length, .int pn_next, .int pn_sort, .int pn_start, .int pn_value, .int pn_fault])), (a_by, .inl (cy 0, 250, .inl by_f))] s.heap := hP
  have hl := lv_entry ([.ref a_pn, .ref (adK pi)]) (n := 3) (Nat.le_of_ble_eq_true rfl)
  rw [lg_entry_eq]
  generalize (lg_sl ([.ref a_pn, .ref (adK pi)]) ++ List.replicate (3 - (lg_sl ([.ref a_pn, .ref (adK pi)])).length) Slot.unset).toArray = ls at hl ⊢
  have hl : lv_has ls 3 [(0, .ref a_pn), (1, .ref (adK pi))] := hl
  refine qW (fun QF hQF => ?_)
  have z0_ := hts (.fieldLink RX8 19 "HeardSeen$Plan" "next" "I") (by decide +kernel)
  have zi8_ : ∀ w ∈ u_ws RX8 TX8 7, w ∈ wsX8_isSpelled := by decide +kernel
  have z2_ := hts (.fieldLink RX8 35 "HeardSeen$Plan" "start" "I") (by decide +kernel)
  refine lv_aload_n hx hb dX8_isSpelled_0 rfl (lv_at hl 0 rfl) ?_
  refine va_get (D := D) (ci := 8) (v := .int pn_next) (C := RX8) (T := TX8) (N := 7) hx hb hts zi8_ hown hK hP 0 rfl rfl 2 (by decide) z0_ (fun _ h9 => h9) rfl dX8_isSpelled_1 ?_
  refine lv_aload_n hx hb dX8_isSpelled_4 rfl (lv_at hl 0 rfl) ?_
  refine va_get (D := D) (ci := 8) (v := .int pn_start) (C := RX8) (T := TX8) (N := 7) hx hb hts zi8_ hown hK hP 0 rfl rfl 4 (by decide) z2_ (fun _ h9 => h9) rfl dX8_isSpelled_5 ?_
  refine lv_isub hx hb dX8_isSpelled_8 ?_
  refine lv_aload_n hx hb dX8_isSpelled_9 rfl (lv_at hl 1 rfl) ?_
  refine rd_i (va_runV (As := []) (rest := [.int (pn_next - pn_start)]) ⟨hx, hb, hml, hown, hts⟩ (n_J0_length_8abf5 l D cy adK adV pi _ (by first | assumption | omega)) (cwV 0 hts gX8_isSpelled_J0_length_8abf5 rfl rfl rfl (by decide +kernel) ⟨Nat.le_of_ble_eq_true rfl, Nat.le_of_ble_eq_true rfl⟩) (pJs hKA hE hS (fE hS hA) (by assumption)) rfl rfl hl.1 rfl (lv_room (Nat.le_of_ble_eq_true rfl)) dX8_isSpelled_10 ⟨Nat.le_of_ble_eq_true rfl, Nat.le_of_ble_eq_true rfl⟩) hP hS hA (fun r1 H locs hwr1 hP hS => ?_)
  have hwr1 : r1 = nI (lenS.getD pi 0) := hwr1
  subst hwr1
  refine lv_icmp_eq (tgt := 18) hx hb dX8_isSpelled_13 (by decide) (fun c2 => ?_) (fun c2 => ?_)
  · skip
    refine lv_iconst (v := 0) hx hb dX8_isSpelled_18 (by decide) ?_
    refine lv_istore_n (lv' := [(2, .int 0), (0, .ref a_pn), (1, .ref (adK pi))]) hx hb dX8_isSpelled_19 rfl hl (by decide) rfl (fun ls hl => ?_)
    have lp20 : ∀ (n20 : Nat) (v2_20 : Nat) (hv2_20 : v2_20 < 2147483648) (hle : v2_20 ≤ lenS.getD pi 0), 2147483648 - v2_20 < n20 → ∀ (H : Heap) (locs : List Loc), va_P D vwCl [(a_pn, .inr (8, [.ref a_by, .int pn_length, .int pn_next, .int pn_sort, .int pn_start, .int pn_value, .int pn_fault])), (a_by, .inl (cy 0, 250, .inl by_f))] H → va_D A [(a_pn, .inr (8, [.ref a_by, .int pn_length, .int pn_next, .int pn_sort, .int pn_start, .int pn_value, .int pn_fault])), (a_by, .inl (cy 0, 250, .inl by_f))] → va_S A s.heap H locs → ∀ ls : Array Slot, lv_has ls 3 [(2, .int (nI v2_20)), (0, .ref a_pn), (1, .ref (adK pi))] → W p l e (headSpec wsX8_isSpelled ({ frames := 4, cells := 0, slots := 0, locals := 85 })).room s m [.ref a_pn, .ref (adK pi)].toArray below meth c H locs 0 0 QF (F0 m 20 ls []) := by
      intro n20
      induction n20 with
      | zero => intro v2_20 hv2_20 hle hm; exact absurd hm (Nat.not_lt_zero _)
      | succ n20 ih20 =>
        intro v2_20 hv2_20 hle hm20 H locs hP hD hS ls hl
        refine lv_iload_n hx hb dX8_isSpelled_20 rfl (lv_at hl 0 rfl) ?_
        refine lv_aload_n hx hb dX8_isSpelled_21 rfl (lv_at hl 2 rfl) ?_
        refine rd_i (va_runV (As := []) (rest := [.int (nI v2_20)]) ⟨hx, hb, hml, hown, hts⟩ (n_J0_length_8abf5 l D cy adK adV pi _ (by first | assumption | omega)) (cwV 0 hts gX8_isSpelled_J0_length_8abf5 rfl rfl rfl (by decide +kernel) ⟨Nat.le_of_ble_eq_true rfl, Nat.le_of_ble_eq_true rfl⟩) (pJs hKA hE hS (fE hS hA) (by assumption)) rfl rfl hl.1 rfl (lv_room (Nat.le_of_ble_eq_true rfl)) dX8_isSpelled_22 ⟨Nat.le_of_ble_eq_true rfl, Nat.le_of_ble_eq_true rfl⟩) hP hS hA (fun r3 H locs hwr3 hP hS => ?_)
        have hwr3 : r3 = nI (lenS.getD pi 0) := hwr3
        subst hwr3
        refine lv_icmp_ge (tgt := 54) hx hb dX8_isSpelled_25 (by decide) (fun c4 => ?_) (fun c4 => ?_)
        · skip
          refine lv_iconst (v := 1) hx hb dX8_isSpelled_54 (by decide) ?_
          subst hQF
          have hP9 := hP
          have hD9 := hD
          exact W.zret (v := 1) hx hb hr rfl (fun t ht hW => ⟨⟨1, (), rfl, (Or.inl ⟨rfl, trivial⟩), by rw [ht]; exact hP9, hD9⟩, hS.F ht⟩) hS.2.2 dX8_isSpelled_55
        · skip
          have hk := nlt_of (n := lenS.getD pi 0) rfl hle (by have := lenS_lt hi; omega) (by assumption)
          refine lv_aload_n hx hb dX8_isSpelled_28 rfl (lv_at hl 1 rfl) ?_
          refine lv_aload_n hx hb dX8_isSpelled_29 rfl (lv_at hl 1 rfl) ?_
          refine va_get (D := D) (ci := 8) (v := .int pn_start) (C := RX8) (T := TX8) (N := 7) hx hb hts zi8_ hown hK hP 0 rfl rfl 4 (by decide) z2_ (fun _ h9 => h9) rfl dX8_isSpelled_30 ?_
          refine lv_iload_n hx hb dX8_isSpelled_33 rfl (lv_at hl 0 rfl) ?_
          refine lv_iadd hx hb dX8_isSpelled_34 ?_
          refine rd_i (va_runV (As := [.int (pn_start + (nI v2_20))]) (rest := []) ⟨hx, hb, hml, hown, hts⟩ (n_X8_byteAt l D cy a_pn a_by pn_length pn_next pn_sort pn_start pn_value pn_fault by_f (pn_start + (nI v2_20)) _ ) (cwV 1 hts gX8_isSpelled_X8_byteAt rfl rfl rfl (by decide +kernel) ⟨Nat.le_of_ble_eq_true rfl, Nat.le_of_ble_eq_true rfl⟩) (pV (ci := 8) (k := 0) hKA (hP.sub (ws' := [(a_pn, .inr (8, [.ref a_by, .int pn_length, .int pn_next, .int pn_sort, .int pn_start, .int pn_value, .int pn_fault])), (a_by, .inl (cy 0, 250, .inl by_f))]) [0, 1] rfl) (hD.sub (ws' := [(a_pn, .inr (8, [.ref a_by, .int pn_length, .int pn_next, .int pn_sort, .int pn_start, .int pn_value, .int pn_fault])), (a_by, .inl (cy 0, 250, .inl by_f))]) [0, 1] (by decide) rfl) rfl rfl) rfl rfl hl.1 rfl (lv_room (Nat.le_of_ble_eq_true rfl)) dX8_isSpelled_35 ⟨Nat.le_of_ble_eq_true rfl, Nat.le_of_ble_eq_true rfl⟩) hP hS hA (fun r5 H locs hwr5 hP hS => ?_)
          have hwr5 : r5 = -1 ∨ (pn_start + (nI v2_20)) < 250 := hwr5
          refine lv_aload_n hx hb dX8_isSpelled_38 rfl (lv_at hl 2 rfl) ?_
          refine lv_iload_n hx hb dX8_isSpelled_39 rfl (lv_at hl 0 rfl) ?_
          refine rd_i (va_runV (As := [.int (nI v2_20)]) (rest := [.int r5]) ⟨hx, hb, hml, hown, hts⟩ (n_J0_charAt_5068e l D cy adK adV pi v2_20 _ (by first | assumption | omega) (by first | assumption | omega)) (cwV 1 hts gX8_isSpelled_J0_charAt_5068e rfl rfl rfl (by decide +kernel) ⟨Nat.le_of_ble_eq_true rfl, Nat.le_of_ble_eq_true rfl⟩) (pJs hKA hE hS (fE hS hA) (by assumption)) rfl rfl hl.1 rfl (lv_room (Nat.le_of_ble_eq_true rfl)) dX8_isSpelled_40 ⟨Nat.le_of_ble_eq_true rfl, Nat.le_of_ble_eq_true rfl⟩) hP hS hA (fun r6 H locs hwr6 hP hS => ?_)
          have hwr6 : narrow .char (.int r6) = .int r6 := hwr6
          refine lv_icmp_eq (tgt := 48) hx hb dX8_isSpelled_43 (by decide) (fun c7 => ?_) (fun c7 => ?_)
          · skip
            refine lv_iinc (v := nI (v2_20 + 1)) (lv' := [(2, .int (nI (v2_20 + 1))), (0, .ref a_pn), (1, .ref (adK pi))]) hx hb dX8_isSpelled_48 hl (k := 0) rfl (nI_1 _) (by decide) rfl (fun ls hl => ?_)
            refine lv_goto (tgt := 20) hx hb dX8_isSpelled_51 (by decide) ?_
            exact ih20 (v2_20 + 1) (by first | omega | exact nlt_max hv2_20 (by assumption)) (by omega) (by first | omega | (have := nlt_max hv2_20 (by assumption); omega)) _ _ hP hD hS ls hl
          · skip
            refine lv_iconst (v := 0) hx hb dX8_isSpelled_46 (by decide) ?_
            subst hQF
            have hP9 := hP
            have hD9 := hD
            exact W.zret (v := 0) hx hb hr rfl (fun t ht hW => ⟨⟨0, (), rfl, (Or.inr ⟨rfl, trivial⟩), by rw [ht]; exact hP9, hD9⟩, hS.F ht⟩) hS.2.2 dX8_isSpelled_47
    exact lp20 (2147483648 - 0 + 1) 0 (by first | omega | exact nlt_max (by assumption) (by assumption)) (by omega) (Nat.lt_succ_self _) _ _ hP hD hS ls hl
  · skip
    refine lv_iconst (v := 0) hx hb dX8_isSpelled_16 (by decide) ?_
    subst hQF
    have hP9 := hP
    have hD9 := hD
    exact W.zret (v := 0) hx hb hr rfl (fun t ht hW => ⟨⟨0, (), rfl, (Or.inr ⟨rfl, trivial⟩), by rw [ht]; exact hP9, hD9⟩, hS.F ht⟩) hS.2.2 dX8_isSpelled_17

set_option maxHeartbeats 4000000 in
set_option maxRecDepth 100000 in
theorem n_X8_wordOfToken (l : Launch) (D : va_G) (cy : Nat → ClassId) (adK : Nat → Nat) (adV : Nat → Nat) (a_pn : Nat) (a_by : Nat) (pn_length : Int32) (pn_next : Int32) (pn_sort : Int32) (pn_start : Int32) (pn_value : Int32) (pn_fault : Int32) (by_f : Nat → Int32) (sz : Nat)  : Met l yX8_wordOfToken wsX8_wordOfToken ({ frames := 5, cells := 0, slots := 0, locals := 107 }) (va_Pc [.ref a_pn] (kPreS D cy adK adV [(a_pn, .inr (8, [.ref a_by, .int pn_length, .int pn_next, .int pn_sort, .int pn_start, .int pn_value, .int pn_fault])), (a_by, .inl (cy 0, 250, .inl by_f))] sz)) (va_Qi (fun (r : Int32) (u : Unit) => True) (fun (u : Unit) t => va_P D vwCl ([(a_pn, .inr (8, [.ref a_by, .int pn_length, .int pn_next, .int pn_sort, .int pn_start, .int pn_value, .int pn_fault])), (a_by, .inl (cy 0, 250, .inl by_f))]) t.heap ∧ va_D (va_A [(a_pn, .inr (8, [.ref a_by, .int pn_length, .int pn_next, .int pn_sort, .int pn_start, .int pn_value, .int pn_fault])), (a_by, .inl (cy 0, 250, .inl by_f))] sz) ([(a_pn, .inr (8, [.ref a_by, .int pn_length, .int pn_next, .int pn_sort, .int pn_start, .int pn_value, .int pn_fault])), (a_by, .inl (cy 0, 250, .inl by_f))])) (va_A [(a_pn, .inr (8, [.ref a_by, .int pn_length, .int pn_next, .int pn_sort, .int pn_start, .int pn_value, .int pn_fault])), (a_by, .inl (cy 0, 250, .inl by_f))] sz)) 0 0 (va_A [(a_pn, .inr (8, [.ref a_by, .int pn_length, .int pn_next, .int pn_sort, .int pn_start, .int pn_value, .int pn_fault])), (a_by, .inl (cy 0, 250, .inl by_f))] sz) := by
  refine Met.ofW (cc := cX8_wordOfToken) (maxL := 2) (ret := (some .int)) (by decide) rfl ?_
  intro p e s m args below meth c s₁ B hml hv
  obtain ⟨rfl, ⟨hsz, hP, hKA, hD0⟩, hE0⟩ := hv
  have hx := B.exec
  have hb := B.bytes
  have hr := B.returns
  have hts := atoms_spec (ws := wsX8_wordOfToken) B.pre
  have hown : s.vm.findClass RX8 = some m.cls := findClass_of_methodNamed B.named
  have hlocks := B.notSynchronized
  subst hsz
  have hK := hKA.1
  have hD := hD0.self (sz := s.heap.size)
  have hE := hE0
  generalize hAe : va_A [(a_pn, .inr (8, [.ref a_by, .int pn_length, .int pn_next, .int pn_sort, .int pn_start, .int pn_value, .int pn_fault])), (a_by, .inl (cy 0, 250, .inl by_f))] s.heap.size = A at hD hE ⊢
  have hA : ∀ q : Nat, s.heap.size ≤ q → A q := fun q h => by rw [← hAe]; exact Or.inr h
  have hS : va_S A s.heap s.heap [] := va_S.rf
  have hP : va_P D vwCl [(a_pn, .inr (8, [.ref a_by, .int pn_length, .int pn_next, .int pn_sort, .int pn_start, .int pn_value, .int pn_fault])), (a_by, .inl (cy 0, 250, .inl by_f))] s.heap := hP
  have hl := lv_entry ([.ref a_pn]) (n := 2) (Nat.le_of_ble_eq_true rfl)
  rw [lg_entry_eq]
  generalize (lg_sl ([.ref a_pn]) ++ List.replicate (2 - (lg_sl ([.ref a_pn])).length) Slot.unset).toArray = ls at hl ⊢
  have hl : lv_has ls 2 [(0, .ref a_pn)] := hl
  refine qW (fun QF hQF => ?_)
  refine lv_iconst (v := 0) hx hb dX8_wordOfToken_0 (by decide) ?_
  refine lv_istore_n (lv' := [(1, .int 0), (0, .ref a_pn)]) hx hb dX8_wordOfToken_1 rfl hl (by decide) rfl (fun ls hl => ?_)
  have lp2 : ∀ (n2 : Nat) (v1_2 : Nat) (hv1_2 : v1_2 < 2147483648), 2147483648 - v1_2 < n2 → ∀ (H : Heap) (locs : List Loc), va_P D vwCl [(a_pn, .inr (8, [.ref a_by, .int pn_length, .int pn_next, .int pn_sort, .int pn_start, .int pn_value, .int pn_fault])), (a_by, .inl (cy 0, 250, .inl by_f))] H → va_D A [(a_pn, .inr (8, [.ref a_by, .int pn_length, .int pn_next, .int pn_sort, .int pn_start, .int pn_value, .int pn_fault])), (a_by, .inl (cy 0, 250, .inl by_f))] → va_S A s.heap H locs → ∀ ls : Array Slot, lv_has ls 2 [(1, .int (nI v1_2)), (0, .ref a_pn)] → W p l e (headSpec wsX8_wordOfToken ({ frames := 5, cells := 0, slots := 0, locals := 107 })).room s m [.ref a_pn].toArray below meth c H locs 0 0 QF (F0 m 2 ls []) := by
    intro n2
    induction n2 with
    | zero => intro v1_2 hv1_2 hm; exact absurd hm (Nat.not_lt_zero _)
    | succ n2 ih2 =>
      intro v1_2 hv1_2 hm2 H locs hP hD hS ls hl
      refine lv_iload_n hx hb dX8_wordOfToken_2 rfl (lv_at hl 0 rfl) ?_
      refine lv_bipush (v := 7) hx hb dX8_wordOfToken_3 (by decide) ?_
      refine lv_icmp_ge (tgt := 27) hx hb dX8_wordOfToken_5 (by decide) (fun c1 => ?_) (fun c1 => ?_)
      · skip
        refine lv_iconst (v := (-1)) hx hb dX8_wordOfToken_27 (by decide) ?_
        subst hQF
        have hP9 := hP
        have hD9 := hD
        exact W.iret (v := (-1)) hx hb hr (fun t ht hW => ⟨⟨(-1), (), rfl, trivial, by rw [ht]; exact hP9, hD9⟩, hS.F ht⟩) hS.2.2 dX8_wordOfToken_28
      · skip
        refine lv_aload_n hx hb dX8_wordOfToken_8 rfl (lv_at hl 1 rfl) ?_
        refine lv_iload_n hx hb dX8_wordOfToken_9 rfl (lv_at hl 0 rfl) ?_
        refine rd_r (va_runS (As := [.int (nI v1_2)]) (rest := [.ref a_pn]) ⟨hx, hb, hml, hown, hts⟩ (n_X8_wordNumbered l D cy adK adV (nI v1_2) _ ) (va_cwS 1 hts gX8_wordOfToken_X8_wordNumbered rfl rfl rfl (by decide +kernel) ⟨Nat.le_of_ble_eq_true rfl, Nat.le_of_ble_eq_true rfl⟩) (pSs hKA pE (dE (A := A)) hE hS (fE hS hA)) rfl rfl hl.1 rfl (lv_room (Nat.le_of_ble_eq_true rfl)) dX8_wordOfToken_10 ⟨Nat.le_of_ble_eq_true rfl, Nat.le_of_ble_eq_true rfl⟩) hP hS hA (fun r2 H locs hwr2 hP hS => ?_)
        obtain ⟨iw, hiw, rfl⟩ := hwr2
        refine wr_i (wr := []) (va_runV (As := [.ref (adK iw)]) (rest := []) ⟨hx, hb, hml, hown, hts⟩ (n_X8_isSpelled l D cy adK adV iw a_pn a_by pn_length pn_next pn_sort pn_start pn_value pn_fault by_f _ (by first | assumption | omega)) (cwV 1 hts gX8_wordOfToken_X8_isSpelled rfl rfl rfl (by decide +kernel) ⟨Nat.le_of_ble_eq_true rfl, Nat.le_of_ble_eq_true rfl⟩) (pVs (ci := 8) (k := 0) hKA (hP.sub (ws' := [(a_pn, .inr (8, [.ref a_by, .int pn_length, .int pn_next, .int pn_sort, .int pn_start, .int pn_value, .int pn_fault])), (a_by, .inl (cy 0, 250, .inl by_f))]) [0, 1] rfl) (hD.sub (ws' := [(a_pn, .inr (8, [.ref a_by, .int pn_length, .int pn_next, .int pn_sort, .int pn_start, .int pn_value, .int pn_fault])), (a_by, .inl (cy 0, 250, .inl by_f))]) [0, 1] (by decide) rfl) hE hS (va_free hD hS hA [0, 1] rfl) rfl rfl) rfl rfl hl.1 rfl (lv_room (Nat.le_of_ble_eq_true rfl)) dX8_wordOfToken_13 ⟨Nat.le_of_ble_eq_true rfl, Nat.le_of_ble_eq_true rfl⟩) hP hD hS hA [0, 1] [] rfl rfl (by decide +kernel) (by decide +kernel) (fun r3 ur3 H locs hwr3 hP hD hS => ?_)
        have hP : va_P D vwCl [(a_pn, .inr (8, [.ref a_by, .int pn_length, .int pn_next, .int pn_sort, .int pn_start, .int pn_value, .int pn_fault])), (a_by, .inl (cy 0, 250, .inl by_f))] H := hP
        have hD : va_D A [(a_pn, .inr (8, [.ref a_by, .int pn_length, .int pn_next, .int pn_sort, .int pn_start, .int pn_value, .int pn_fault])), (a_by, .inl (cy 0, 250, .inl by_f))] := hD
        have hwr3 : (r3 = 1 ∧ True) ∨ (r3 = 0 ∧ True) := hwr3
        refine lv_if_eq (tgt := 21) hx hb dX8_wordOfToken_16 (by decide) (fun c4 => ?_) (fun c4 => ?_)
        · skip
          refine lv_iinc (v := nI (v1_2 + 1)) (lv' := [(1, .int (nI (v1_2 + 1))), (0, .ref a_pn)]) hx hb dX8_wordOfToken_21 hl (k := 0) rfl (nI_1 _) (by decide) rfl (fun ls hl => ?_)
          refine lv_goto (tgt := 2) hx hb dX8_wordOfToken_24 (by decide) ?_
          exact ih2 (v1_2 + 1) (by first | omega | exact nlt_max hv1_2 (by assumption)) (by first | omega | (have := nlt_max hv1_2 (by assumption); omega)) _ _ hP hD hS ls hl
        · skip
          refine lv_iload_n hx hb dX8_wordOfToken_19 rfl (lv_at hl 0 rfl) ?_
          subst hQF
          have hP9 := hP
          have hD9 := hD
          exact W.iret (v := nI v1_2) hx hb hr (fun t ht hW => ⟨⟨nI v1_2, (), rfl, trivial, by rw [ht]; exact hP9, hD9⟩, hS.F ht⟩) hS.2.2 dX8_wordOfToken_20
  exact lp2 (2147483648 - 0 + 1) 0 (by first | omega | exact nlt_max (by assumption) (by assumption)) (Nat.lt_succ_self _) _ _ hP hD hS ls hl

set_option maxHeartbeats 4000000 in
set_option maxRecDepth 100000 in
theorem n_X8_layInto (l : Launch) (D : va_G) (cy : Nat → ClassId) (adK : Nat → Nat) (adV : Nat → Nat) (a_pn : Nat) (a_by : Nat) (pn_length : Int32) (pn_next : Int32) (pn_sort : Int32) (pn_start : Int32) (pn_value : Int32) (pn_fault : Int32) (by_f : Nat → Int32) (a_g : Nat) (g_wide : Int32) (g_high : Int32) (g_drown : Int32) (g_wind : Int32) (g_hedges : Int64) (g_fountains : Int64) (g_people : Int32) (g_tellings : Int32) (g_reports : Int32) (a_g_kinds : Nat) (a_g_squares : Nat) (a_g_voices : Nat) (a_g_tellers : Nat) (a_g_listeners : Nat) (a_g_witnesses : Nat) (a_g_claims : Nat) (g_squares_f : Nat → Int32) (g_kinds_f : Nat → Int32) (g_voices_f : Nat → Int32) (g_tellers_f : Nat → Int32) (g_listeners_f : Nat → Int32) (sz : Nat) (hW2 : 2 ≤ g_wide) : Met l yX8_layInto wsX8_layInto ({ frames := 6, cells := 0, slots := 0, locals := 131 }) (va_Pc [.ref a_pn, .ref a_g] (kPreS D cy adK adV [(a_pn, .inr (8, [.ref a_by, .int pn_length, .int pn_next, .int pn_sort, .int pn_start, .int pn_value, .int pn_fault])), (a_by, .inl (cy 0, 250, .inl by_f)), (a_g, .inr (3, [.int g_wide, .int g_high, .int g_drown, .int g_wind, .long g_hedges, .long g_fountains, .int g_people, .int g_tellings, .int g_reports, .ref a_g_kinds, .ref a_g_squares, .ref a_g_voices, .ref a_g_tellers, .ref a_g_listeners, .ref a_g_witnesses, .ref a_g_claims])), (a_g_squares, .inl (cy 1, 5, .inl g_squares_f)), (a_g_kinds, .inl (cy 1, 5, .inl g_kinds_f)), (a_g_voices, .inl (cy 1, 5, .inl g_voices_f)), (a_g_tellers, .inl (cy 1, 6, .inl g_tellers_f)), (a_g_listeners, .inl (cy 1, 6, .inl g_listeners_f))] sz)) (va_Qi (fun (r : Int32) (u : Int32 × Int32 × Int32 × Int32 × Int32 × Int32 × Int32 × Int32 × Int32 × Int64 × Int64 × Int32 × Int32 × Int32 × (Nat → Int32) × (Nat → Int32) × (Nat → Int32) × (Nat → Int32) × (Nat → Int32)) => 2 ≤ u.2.2.2.2.2.1) (fun (u : Int32 × Int32 × Int32 × Int32 × Int32 × Int32 × Int32 × Int32 × Int32 × Int64 × Int64 × Int32 × Int32 × Int32 × (Nat → Int32) × (Nat → Int32) × (Nat → Int32) × (Nat → Int32) × (Nat → Int32)) t => va_P D vwCl ([(a_pn, .inr (8, [.ref a_by, .int pn_length, .int u.1, .int u.2.1, .int u.2.2.1, .int u.2.2.2.1, .int u.2.2.2.2.1])), (a_by, .inl (cy 0, 250, .inl by_f)), (a_g, .inr (3, [.int u.2.2.2.2.2.1, .int u.2.2.2.2.2.2.1, .int u.2.2.2.2.2.2.2.1, .int u.2.2.2.2.2.2.2.2.1, .long u.2.2.2.2.2.2.2.2.2.1, .long u.2.2.2.2.2.2.2.2.2.2.1, .int u.2.2.2.2.2.2.2.2.2.2.2.1, .int u.2.2.2.2.2.2.2.2.2.2.2.2.1, .int u.2.2.2.2.2.2.2.2.2.2.2.2.2.1, .ref a_g_kinds, .ref a_g_squares, .ref a_g_voices, .ref a_g_tellers, .ref a_g_listeners, .ref a_g_witnesses, .ref a_g_claims])), (a_g_squares, .inl (cy 1, 5, .inl u.2.2.2.2.2.2.2.2.2.2.2.2.2.2.1)), (a_g_kinds, .inl (cy 1, 5, .inl u.2.2.2.2.2.2.2.2.2.2.2.2.2.2.2.1)), (a_g_voices, .inl (cy 1, 5, .inl u.2.2.2.2.2.2.2.2.2.2.2.2.2.2.2.2.1)), (a_g_tellers, .inl (cy 1, 6, .inl u.2.2.2.2.2.2.2.2.2.2.2.2.2.2.2.2.2.1)), (a_g_listeners, .inl (cy 1, 6, .inl u.2.2.2.2.2.2.2.2.2.2.2.2.2.2.2.2.2.2))]) t.heap ∧ va_D (va_A [(a_pn, .inr (8, [.ref a_by, .int pn_length, .int pn_next, .int pn_sort, .int pn_start, .int pn_value, .int pn_fault])), (a_by, .inl (cy 0, 250, .inl by_f)), (a_g, .inr (3, [.int g_wide, .int g_high, .int g_drown, .int g_wind, .long g_hedges, .long g_fountains, .int g_people, .int g_tellings, .int g_reports, .ref a_g_kinds, .ref a_g_squares, .ref a_g_voices, .ref a_g_tellers, .ref a_g_listeners, .ref a_g_witnesses, .ref a_g_claims])), (a_g_squares, .inl (cy 1, 5, .inl g_squares_f)), (a_g_kinds, .inl (cy 1, 5, .inl g_kinds_f)), (a_g_voices, .inl (cy 1, 5, .inl g_voices_f)), (a_g_tellers, .inl (cy 1, 6, .inl g_tellers_f)), (a_g_listeners, .inl (cy 1, 6, .inl g_listeners_f))] sz) ([(a_pn, .inr (8, [.ref a_by, .int pn_length, .int u.1, .int u.2.1, .int u.2.2.1, .int u.2.2.2.1, .int u.2.2.2.2.1])), (a_by, .inl (cy 0, 250, .inl by_f)), (a_g, .inr (3, [.int u.2.2.2.2.2.1, .int u.2.2.2.2.2.2.1, .int u.2.2.2.2.2.2.2.1, .int u.2.2.2.2.2.2.2.2.1, .long u.2.2.2.2.2.2.2.2.2.1, .long u.2.2.2.2.2.2.2.2.2.2.1, .int u.2.2.2.2.2.2.2.2.2.2.2.1, .int u.2.2.2.2.2.2.2.2.2.2.2.2.1, .int u.2.2.2.2.2.2.2.2.2.2.2.2.2.1, .ref a_g_kinds, .ref a_g_squares, .ref a_g_voices, .ref a_g_tellers, .ref a_g_listeners, .ref a_g_witnesses, .ref a_g_claims])), (a_g_squares, .inl (cy 1, 5, .inl u.2.2.2.2.2.2.2.2.2.2.2.2.2.2.1)), (a_g_kinds, .inl (cy 1, 5, .inl u.2.2.2.2.2.2.2.2.2.2.2.2.2.2.2.1)), (a_g_voices, .inl (cy 1, 5, .inl u.2.2.2.2.2.2.2.2.2.2.2.2.2.2.2.2.1)), (a_g_tellers, .inl (cy 1, 6, .inl u.2.2.2.2.2.2.2.2.2.2.2.2.2.2.2.2.2.1)), (a_g_listeners, .inl (cy 1, 6, .inl u.2.2.2.2.2.2.2.2.2.2.2.2.2.2.2.2.2.2))])) (va_A [(a_pn, .inr (8, [.ref a_by, .int pn_length, .int pn_next, .int pn_sort, .int pn_start, .int pn_value, .int pn_fault])), (a_by, .inl (cy 0, 250, .inl by_f)), (a_g, .inr (3, [.int g_wide, .int g_high, .int g_drown, .int g_wind, .long g_hedges, .long g_fountains, .int g_people, .int g_tellings, .int g_reports, .ref a_g_kinds, .ref a_g_squares, .ref a_g_voices, .ref a_g_tellers, .ref a_g_listeners, .ref a_g_witnesses, .ref a_g_claims])), (a_g_squares, .inl (cy 1, 5, .inl g_squares_f)), (a_g_kinds, .inl (cy 1, 5, .inl g_kinds_f)), (a_g_voices, .inl (cy 1, 5, .inl g_voices_f)), (a_g_tellers, .inl (cy 1, 6, .inl g_tellers_f)), (a_g_listeners, .inl (cy 1, 6, .inl g_listeners_f))] sz)) 0 0 (va_A [(a_pn, .inr (8, [.ref a_by, .int pn_length, .int pn_next, .int pn_sort, .int pn_start, .int pn_value, .int pn_fault])), (a_by, .inl (cy 0, 250, .inl by_f)), (a_g, .inr (3, [.int g_wide, .int g_high, .int g_drown, .int g_wind, .long g_hedges, .long g_fountains, .int g_people, .int g_tellings, .int g_reports, .ref a_g_kinds, .ref a_g_squares, .ref a_g_voices, .ref a_g_tellers, .ref a_g_listeners, .ref a_g_witnesses, .ref a_g_claims])), (a_g_squares, .inl (cy 1, 5, .inl g_squares_f)), (a_g_kinds, .inl (cy 1, 5, .inl g_kinds_f)), (a_g_voices, .inl (cy 1, 5, .inl g_voices_f)), (a_g_tellers, .inl (cy 1, 6, .inl g_tellers_f)), (a_g_listeners, .inl (cy 1, 6, .inl g_listeners_f))] sz) := by
  refine Met.ofW (cc := cX8_layInto) (maxL := 3) (ret := (some .int)) (by decide) rfl ?_
  intro p e s m args below meth c s₁ B hml hv
  obtain ⟨rfl, ⟨hsz, hP, hKA, hD0⟩, hE0⟩ := hv
  have hx := B.exec
  have hb := B.bytes
  have hr := B.returns
  have hts := atoms_spec (ws := wsX8_layInto) B.pre
  have hown : s.vm.findClass RX8 = some m.cls := findClass_of_methodNamed B.named
  have hlocks := B.notSynchronized
  subst hsz
  have hK := hKA.1
  have hD := hD0.self (sz := s.heap.size)
  have hE := hE0
  generalize hAe : va_A [(a_pn, .inr (8, [.ref a_by, .int pn_length, .int pn_next, .int pn_sort, .int pn_start, .int pn_value, .int pn_fault])), (a_by, .inl (cy 0, 250, .inl by_f)), (a_g, .inr (3, [.int g_wide, .int g_high, .int g_drown, .int g_wind, .long g_hedges, .long g_fountains, .int g_people, .int g_tellings, .int g_reports, .ref a_g_kinds, .ref a_g_squares, .ref a_g_voices, .ref a_g_tellers, .ref a_g_listeners, .ref a_g_witnesses, .ref a_g_claims])), (a_g_squares, .inl (cy 1, 5, .inl g_squares_f)), (a_g_kinds, .inl (cy 1, 5, .inl g_kinds_f)), (a_g_voices, .inl (cy 1, 5, .inl g_voices_f)), (a_g_tellers, .inl (cy 1, 6, .inl g_tellers_f)), (a_g_listeners, .inl (cy 1, 6, .inl g_listeners_f))] s.heap.size = A at hD hE ⊢
  have hA : ∀ q : Nat, s.heap.size ≤ q → A q := fun q h => by rw [← hAe]; exact Or.inr h
  have hS : va_S A s.heap s.heap [] := va_S.rf
  have hP : va_P D vwCl [(a_pn, .inr (8, [.ref a_by, .int pn_length, .int pn_next, .int pn_sort, .int pn_start, .int pn_value, .int pn_fault])), (a_by, .inl (cy 0, 250, .inl by_f)), (a_g, .inr (3, [.int g_wide, .int g_high, .int g_drown, .int g_wind, .long g_hedges, .long g_fountains, .int g_people, .int g_tellings, .int g_reports, .ref a_g_kinds, .ref a_g_squares, .ref a_g_voices, .ref a_g_tellers, .ref a_g_listeners, .ref a_g_witnesses, .ref a_g_claims])), (a_g_squares, .inl (cy 1, 5, .inl g_squares_f)), (a_g_kinds, .inl (cy 1, 5, .inl g_kinds_f)), (a_g_voices, .inl (cy 1, 5, .inl g_voices_f)), (a_g_tellers, .inl (cy 1, 6, .inl g_tellers_f)), (a_g_listeners, .inl (cy 1, 6, .inl g_listeners_f))] s.heap := hP
  have hl := lv_entry ([.ref a_pn, .ref a_g]) (n := 3) (Nat.le_of_ble_eq_true rfl)
  rw [lg_entry_eq]
  generalize (lg_sl ([.ref a_pn, .ref a_g]) ++ List.replicate (3 - (lg_sl ([.ref a_pn, .ref a_g])).length) Slot.unset).toArray = ls at hl ⊢
  have hl : lv_has ls 3 [(0, .ref a_pn), (1, .ref a_g)] := hl
  refine qW (fun QF hQF => ?_)
  have z0_ := hts (.fieldLink RX8 19 "HeardSeen$Plan" "next" "I") (by decide +kernel)
  have zi8_ : ∀ w ∈ u_ws RX8 TX8 7, w ∈ wsX8_layInto := by decide +kernel
  have z2_ := hts (.fieldLink RX8 22 "HeardSeen$Plan" "fault" "I") (by decide +kernel)
  have z3_ := hts (.fieldLink RX8 28 "HeardSeen$Plan" "sort" "I") (by decide +kernel)
  have z4_ := hts (.fieldLink RX8 35 "HeardSeen$Plan" "start" "I") (by decide +kernel)
  have hz0 : (0 : Int32) ≤ 0 := by decide
  refine lv_aload_n hx hb dX8_layInto_0 rfl (lv_at hl 0 rfl) ?_
  refine lv_iconst (v := 0) hx hb dX8_layInto_1 (by decide) ?_
  refine va_put (D := D) (ci := 8) (v := .int 0) (ty := .int) (C := RX8) (T := TX8) (N := 7) hx hb hts zi8_ tyX8 tyX8_ok nmX8 hown hK hP hD hS 0 rfl rfl 2 (by decide) z0_ (fun _ h9 => h9) rfl (by decide +kernel) rfl rfl (Nat.le_of_ble_eq_true rfl) dX8_layInto_2 (fun H locs hP hD hS => ?_)
  have hP : va_P D vwCl [(a_pn, .inr (8, [.ref a_by, .int pn_length, .int 0, .int pn_sort, .int pn_start, .int pn_value, .int pn_fault])), (a_by, .inl (cy 0, 250, .inl by_f)), (a_g, .inr (3, [.int g_wide, .int g_high, .int g_drown, .int g_wind, .long g_hedges, .long g_fountains, .int g_people, .int g_tellings, .int g_reports, .ref a_g_kinds, .ref a_g_squares, .ref a_g_voices, .ref a_g_tellers, .ref a_g_listeners, .ref a_g_witnesses, .ref a_g_claims])), (a_g_squares, .inl (cy 1, 5, .inl g_squares_f)), (a_g_kinds, .inl (cy 1, 5, .inl g_kinds_f)), (a_g_voices, .inl (cy 1, 5, .inl g_voices_f)), (a_g_tellers, .inl (cy 1, 6, .inl g_tellers_f)), (a_g_listeners, .inl (cy 1, 6, .inl g_listeners_f))] H := hP
  have hD : va_D A [(a_pn, .inr (8, [.ref a_by, .int pn_length, .int 0, .int pn_sort, .int pn_start, .int pn_value, .int pn_fault])), (a_by, .inl (cy 0, 250, .inl by_f)), (a_g, .inr (3, [.int g_wide, .int g_high, .int g_drown, .int g_wind, .long g_hedges, .long g_fountains, .int g_people, .int g_tellings, .int g_reports, .ref a_g_kinds, .ref a_g_squares, .ref a_g_voices, .ref a_g_tellers, .ref a_g_listeners, .ref a_g_witnesses, .ref a_g_claims])), (a_g_squares, .inl (cy 1, 5, .inl g_squares_f)), (a_g_kinds, .inl (cy 1, 5, .inl g_kinds_f)), (a_g_voices, .inl (cy 1, 5, .inl g_voices_f)), (a_g_tellers, .inl (cy 1, 6, .inl g_tellers_f)), (a_g_listeners, .inl (cy 1, 6, .inl g_listeners_f))] := hD
  refine lv_aload_n hx hb dX8_layInto_5 rfl (lv_at hl 0 rfl) ?_
  refine lv_iconst (v := (-1)) hx hb dX8_layInto_6 (by decide) ?_
  refine va_put (D := D) (ci := 8) (v := .int (-1)) (ty := .int) (C := RX8) (T := TX8) (N := 7) hx hb hts zi8_ tyX8 tyX8_ok nmX8 hown hK hP hD hS 0 rfl rfl 6 (by decide) z2_ (fun _ h9 => h9) rfl (by decide +kernel) rfl rfl (Nat.le_of_ble_eq_true rfl) dX8_layInto_7 (fun H locs hP hD hS => ?_)
  have hP : va_P D vwCl [(a_pn, .inr (8, [.ref a_by, .int pn_length, .int 0, .int pn_sort, .int pn_start, .int pn_value, .int (-1)])), (a_by, .inl (cy 0, 250, .inl by_f)), (a_g, .inr (3, [.int g_wide, .int g_high, .int g_drown, .int g_wind, .long g_hedges, .long g_fountains, .int g_people, .int g_tellings, .int g_reports, .ref a_g_kinds, .ref a_g_squares, .ref a_g_voices, .ref a_g_tellers, .ref a_g_listeners, .ref a_g_witnesses, .ref a_g_claims])), (a_g_squares, .inl (cy 1, 5, .inl g_squares_f)), (a_g_kinds, .inl (cy 1, 5, .inl g_kinds_f)), (a_g_voices, .inl (cy 1, 5, .inl g_voices_f)), (a_g_tellers, .inl (cy 1, 6, .inl g_tellers_f)), (a_g_listeners, .inl (cy 1, 6, .inl g_listeners_f))] H := hP
  have hD : va_D A [(a_pn, .inr (8, [.ref a_by, .int pn_length, .int 0, .int pn_sort, .int pn_start, .int pn_value, .int (-1)])), (a_by, .inl (cy 0, 250, .inl by_f)), (a_g, .inr (3, [.int g_wide, .int g_high, .int g_drown, .int g_wind, .long g_hedges, .long g_fountains, .int g_people, .int g_tellings, .int g_reports, .ref a_g_kinds, .ref a_g_squares, .ref a_g_voices, .ref a_g_tellers, .ref a_g_listeners, .ref a_g_witnesses, .ref a_g_claims])), (a_g_squares, .inl (cy 1, 5, .inl g_squares_f)), (a_g_kinds, .inl (cy 1, 5, .inl g_kinds_f)), (a_g_voices, .inl (cy 1, 5, .inl g_voices_f)), (a_g_tellers, .inl (cy 1, 6, .inl g_tellers_f)), (a_g_listeners, .inl (cy 1, 6, .inl g_listeners_f))] := hD
  refine lv_aload_n hx hb dX8_layInto_10 rfl (lv_at hl 0 rfl) ?_
  refine wr_v (wr := [(a_g, .inr (3, [.int g_wide, .int g_high, .int g_drown, .int g_wind, .long g_hedges, .long g_fountains, .int g_people, .int g_tellings, .int g_reports, .ref a_g_kinds, .ref a_g_squares, .ref a_g_voices, .ref a_g_tellers, .ref a_g_listeners, .ref a_g_witnesses, .ref a_g_claims])), (a_g_squares, .inl (cy 1, 5, .inl g_squares_f)), (a_g_kinds, .inl (cy 1, 5, .inl g_kinds_f)), (a_g_voices, .inl (cy 1, 5, .inl g_voices_f)), (a_g_tellers, .inl (cy 1, 6, .inl g_tellers_f)), (a_g_listeners, .inl (cy 1, 6, .inl g_listeners_f))]) (va_runV (As := []) (rest := []) ⟨hx, hb, hml, hown, hts⟩ (n_X8_takeToken l D cy a_pn a_by pn_length (0) pn_sort pn_start pn_value (-1) by_f _ (by first | assumption | omega)) (cwV 0 hts gX8_layInto_X8_takeToken rfl rfl rfl (by decide +kernel) ⟨Nat.le_of_ble_eq_true rfl, Nat.le_of_ble_eq_true rfl⟩) (pV (ci := 8) (k := 0) hKA (hP.sub (ws' := [(a_pn, .inr (8, [.ref a_by, .int pn_length, .int 0, .int pn_sort, .int pn_start, .int pn_value, .int (-1)])), (a_by, .inl (cy 0, 250, .inl by_f))]) [0, 1] rfl) (hD.sub (ws' := [(a_pn, .inr (8, [.ref a_by, .int pn_length, .int 0, .int pn_sort, .int pn_start, .int pn_value, .int (-1)])), (a_by, .inl (cy 0, 250, .inl by_f))]) [0, 1] (by decide) rfl) rfl rfl) rfl rfl hl.1 rfl (lv_room (Nat.le_of_ble_eq_true rfl)) dX8_layInto_11 ⟨Nat.le_of_ble_eq_true rfl, Nat.le_of_ble_eq_true rfl⟩) hP hD hS hA [0, 1] [2, 3, 4, 5, 6, 7] rfl rfl (by decide +kernel) (by decide +kernel) (fun ur1 H locs hwr1 hP hD hS => ?_)
  obtain ⟨z2, z3, z4, z5⟩ := ur1
  have hP : va_P D vwCl [(a_g, .inr (3, [.int g_wide, .int g_high, .int g_drown, .int g_wind, .long g_hedges, .long g_fountains, .int g_people, .int g_tellings, .int g_reports, .ref a_g_kinds, .ref a_g_squares, .ref a_g_voices, .ref a_g_tellers, .ref a_g_listeners, .ref a_g_witnesses, .ref a_g_claims])), (a_g_squares, .inl (cy 1, 5, .inl g_squares_f)), (a_g_kinds, .inl (cy 1, 5, .inl g_kinds_f)), (a_g_voices, .inl (cy 1, 5, .inl g_voices_f)), (a_g_tellers, .inl (cy 1, 6, .inl g_tellers_f)), (a_g_listeners, .inl (cy 1, 6, .inl g_listeners_f)), (a_pn, .inr (8, [.ref a_by, .int pn_length, .int z2, .int z3, .int z4, .int z5, .int (-1)])), (a_by, .inl (cy 0, 250, .inl by_f))] H := hP
  have hD : va_D A [(a_g, .inr (3, [.int g_wide, .int g_high, .int g_drown, .int g_wind, .long g_hedges, .long g_fountains, .int g_people, .int g_tellings, .int g_reports, .ref a_g_kinds, .ref a_g_squares, .ref a_g_voices, .ref a_g_tellers, .ref a_g_listeners, .ref a_g_witnesses, .ref a_g_claims])), (a_g_squares, .inl (cy 1, 5, .inl g_squares_f)), (a_g_kinds, .inl (cy 1, 5, .inl g_kinds_f)), (a_g_voices, .inl (cy 1, 5, .inl g_voices_f)), (a_g_tellers, .inl (cy 1, 6, .inl g_tellers_f)), (a_g_listeners, .inl (cy 1, 6, .inl g_listeners_f)), (a_pn, .inr (8, [.ref a_by, .int pn_length, .int z2, .int z3, .int z4, .int z5, .int (-1)])), (a_by, .inl (cy 0, 250, .inl by_f))] := hD
  have hwr1 : 0 ≤ z2 ∧ 0 ≤ z4 := hwr1
  obtain ⟨hna1, hsa1⟩ := hwr1
  refine lv_aload_n hx hb dX8_layInto_14 rfl (lv_at hl 0 rfl) ?_
  refine va_get (D := D) (ci := 8) (v := .int z3) (C := RX8) (T := TX8) (N := 7) hx hb hts zi8_ hown hK hP 6 rfl rfl 3 (by decide) z3_ (fun _ h9 => h9) rfl dX8_layInto_15 ?_
  refine lv_iconst (v := 1) hx hb dX8_layInto_18 (by decide) ?_
  refine lv_icmp_ne (tgt := 29) hx hb dX8_layInto_19 (by decide) (fun c6 => ?_) (fun c6 => ?_)
  · skip
    refine lv_aload_n hx hb dX8_layInto_29 rfl (lv_at hl 0 rfl) ?_
    refine va_get (D := D) (ci := 8) (v := .int z4) (C := RX8) (T := TX8) (N := 7) hx hb hts zi8_ hown hK hP 6 rfl rfl 4 (by decide) z4_ (fun _ h9 => h9) rfl dX8_layInto_30 ?_
    subst hQF
    have hP9 := hP.sub (ws' := [(a_pn, .inr (8, [.ref a_by, .int pn_length, .int z2, .int z3, .int z4, .int z5, .int (-1)])), (a_by, .inl (cy 0, 250, .inl by_f)), (a_g, .inr (3, [.int g_wide, .int g_high, .int g_drown, .int g_wind, .long g_hedges, .long g_fountains, .int g_people, .int g_tellings, .int g_reports, .ref a_g_kinds, .ref a_g_squares, .ref a_g_voices, .ref a_g_tellers, .ref a_g_listeners, .ref a_g_witnesses, .ref a_g_claims])), (a_g_squares, .inl (cy 1, 5, .inl g_squares_f)), (a_g_kinds, .inl (cy 1, 5, .inl g_kinds_f)), (a_g_voices, .inl (cy 1, 5, .inl g_voices_f)), (a_g_tellers, .inl (cy 1, 6, .inl g_tellers_f)), (a_g_listeners, .inl (cy 1, 6, .inl g_listeners_f))]) [6, 7, 0, 1, 2, 3, 4, 5] rfl
    have hD9 := hD.sub (ws' := [(a_pn, .inr (8, [.ref a_by, .int pn_length, .int z2, .int z3, .int z4, .int z5, .int (-1)])), (a_by, .inl (cy 0, 250, .inl by_f)), (a_g, .inr (3, [.int g_wide, .int g_high, .int g_drown, .int g_wind, .long g_hedges, .long g_fountains, .int g_people, .int g_tellings, .int g_reports, .ref a_g_kinds, .ref a_g_squares, .ref a_g_voices, .ref a_g_tellers, .ref a_g_listeners, .ref a_g_witnesses, .ref a_g_claims])), (a_g_squares, .inl (cy 1, 5, .inl g_squares_f)), (a_g_kinds, .inl (cy 1, 5, .inl g_kinds_f)), (a_g_voices, .inl (cy 1, 5, .inl g_voices_f)), (a_g_tellers, .inl (cy 1, 6, .inl g_tellers_f)), (a_g_listeners, .inl (cy 1, 6, .inl g_listeners_f))]) [6, 7, 0, 1, 2, 3, 4, 5] (by decide) rfl
    exact W.iret (v := z4) hx hb hr (fun t ht hW => ⟨⟨z4, (z2, z3, z4, z5, (-1), g_wide, g_high, g_drown, g_wind, g_hedges, g_fountains, g_people, g_tellings, g_reports, g_squares_f, g_kinds_f, g_voices_f, g_tellers_f, g_listeners_f), rfl, (by assumption), by rw [ht]; exact hP9, hD9⟩, hS.F ht⟩) hS.2.2 dX8_layInto_33
  · skip
    refine lv_aload_n hx hb dX8_layInto_22 rfl (lv_at hl 0 rfl) ?_
    refine wr_i (wr := [(a_g, .inr (3, [.int g_wide, .int g_high, .int g_drown, .int g_wind, .long g_hedges, .long g_fountains, .int g_people, .int g_tellings, .int g_reports, .ref a_g_kinds, .ref a_g_squares, .ref a_g_voices, .ref a_g_tellers, .ref a_g_listeners, .ref a_g_witnesses, .ref a_g_claims])), (a_g_squares, .inl (cy 1, 5, .inl g_squares_f)), (a_g_kinds, .inl (cy 1, 5, .inl g_kinds_f)), (a_g_voices, .inl (cy 1, 5, .inl g_voices_f)), (a_g_tellers, .inl (cy 1, 6, .inl g_tellers_f)), (a_g_listeners, .inl (cy 1, 6, .inl g_listeners_f))]) (va_runV (As := []) (rest := []) ⟨hx, hb, hml, hown, hts⟩ (n_X8_wordOfToken l D cy adK adV a_pn a_by pn_length z2 z3 z4 z5 (-1) by_f _ ) (cwV 0 hts gX8_layInto_X8_wordOfToken rfl rfl rfl (by decide +kernel) ⟨Nat.le_of_ble_eq_true rfl, Nat.le_of_ble_eq_true rfl⟩) (pVs (ci := 8) (k := 0) hKA (hP.sub (ws' := [(a_pn, .inr (8, [.ref a_by, .int pn_length, .int z2, .int z3, .int z4, .int z5, .int (-1)])), (a_by, .inl (cy 0, 250, .inl by_f))]) [6, 7] rfl) (hD.sub (ws' := [(a_pn, .inr (8, [.ref a_by, .int pn_length, .int z2, .int z3, .int z4, .int z5, .int (-1)])), (a_by, .inl (cy 0, 250, .inl by_f))]) [6, 7] (by decide) rfl) hE hS (va_free hD hS hA [6, 7] rfl) rfl rfl) rfl rfl hl.1 rfl (lv_room (Nat.le_of_ble_eq_true rfl)) dX8_layInto_23 ⟨Nat.le_of_ble_eq_true rfl, Nat.le_of_ble_eq_true rfl⟩) hP hD hS hA [6, 7] [0, 1, 2, 3, 4, 5] rfl rfl (by decide +kernel) (by decide +kernel) (fun r7 ur7 H locs hwr7 hP hD hS => ?_)
    have hP : va_P D vwCl [(a_g, .inr (3, [.int g_wide, .int g_high, .int g_drown, .int g_wind, .long g_hedges, .long g_fountains, .int g_people, .int g_tellings, .int g_reports, .ref a_g_kinds, .ref a_g_squares, .ref a_g_voices, .ref a_g_tellers, .ref a_g_listeners, .ref a_g_witnesses, .ref a_g_claims])), (a_g_squares, .inl (cy 1, 5, .inl g_squares_f)), (a_g_kinds, .inl (cy 1, 5, .inl g_kinds_f)), (a_g_voices, .inl (cy 1, 5, .inl g_voices_f)), (a_g_tellers, .inl (cy 1, 6, .inl g_tellers_f)), (a_g_listeners, .inl (cy 1, 6, .inl g_listeners_f)), (a_pn, .inr (8, [.ref a_by, .int pn_length, .int z2, .int z3, .int z4, .int z5, .int (-1)])), (a_by, .inl (cy 0, 250, .inl by_f))] H := hP
    have hD : va_D A [(a_g, .inr (3, [.int g_wide, .int g_high, .int g_drown, .int g_wind, .long g_hedges, .long g_fountains, .int g_people, .int g_tellings, .int g_reports, .ref a_g_kinds, .ref a_g_squares, .ref a_g_voices, .ref a_g_tellers, .ref a_g_listeners, .ref a_g_witnesses, .ref a_g_claims])), (a_g_squares, .inl (cy 1, 5, .inl g_squares_f)), (a_g_kinds, .inl (cy 1, 5, .inl g_kinds_f)), (a_g_voices, .inl (cy 1, 5, .inl g_voices_f)), (a_g_tellers, .inl (cy 1, 6, .inl g_tellers_f)), (a_g_listeners, .inl (cy 1, 6, .inl g_listeners_f)), (a_pn, .inr (8, [.ref a_by, .int pn_length, .int z2, .int z3, .int z4, .int z5, .int (-1)])), (a_by, .inl (cy 0, 250, .inl by_f))] := hD
    refine lv_if_eq (tgt := 34) hx hb dX8_layInto_26 (by decide) (fun c8 => ?_) (fun c8 => ?_)
    · skip
      refine lv_aload_n hx hb dX8_layInto_34 rfl (lv_at hl 0 rfl) ?_
      refine lv_aload_n hx hb dX8_layInto_35 rfl (lv_at hl 1 rfl) ?_
      refine wr_v (wr := [(a_g_squares, .inl (cy 1, 5, .inl g_squares_f)), (a_g_kinds, .inl (cy 1, 5, .inl g_kinds_f)), (a_g_voices, .inl (cy 1, 5, .inl g_voices_f)), (a_g_tellers, .inl (cy 1, 6, .inl g_tellers_f)), (a_g_listeners, .inl (cy 1, 6, .inl g_listeners_f))]) (va_runV (As := [.ref a_g]) (rest := []) ⟨hx, hb, hml, hown, hts⟩ (n_X8_layGarden l D cy a_pn a_by pn_length z2 z3 z4 z5 (-1) by_f a_g g_wide g_high g_drown g_wind g_hedges g_fountains g_people g_tellings g_reports a_g_kinds a_g_squares a_g_voices a_g_tellers a_g_listeners a_g_witnesses a_g_claims _ (by first | assumption | omega) (by first | assumption | omega) (by first | assumption | omega)) (cwV 1 hts gX8_layInto_X8_layGarden rfl rfl rfl (by decide +kernel) ⟨Nat.le_of_ble_eq_true rfl, Nat.le_of_ble_eq_true rfl⟩) (pV (ci := 8) (k := 0) hKA (hP.sub (ws' := [(a_pn, .inr (8, [.ref a_by, .int pn_length, .int z2, .int z3, .int z4, .int z5, .int (-1)])), (a_by, .inl (cy 0, 250, .inl by_f)), (a_g, .inr (3, [.int g_wide, .int g_high, .int g_drown, .int g_wind, .long g_hedges, .long g_fountains, .int g_people, .int g_tellings, .int g_reports, .ref a_g_kinds, .ref a_g_squares, .ref a_g_voices, .ref a_g_tellers, .ref a_g_listeners, .ref a_g_witnesses, .ref a_g_claims]))]) [6, 7, 0] rfl) (hD.sub (ws' := [(a_pn, .inr (8, [.ref a_by, .int pn_length, .int z2, .int z3, .int z4, .int z5, .int (-1)])), (a_by, .inl (cy 0, 250, .inl by_f)), (a_g, .inr (3, [.int g_wide, .int g_high, .int g_drown, .int g_wind, .long g_hedges, .long g_fountains, .int g_people, .int g_tellings, .int g_reports, .ref a_g_kinds, .ref a_g_squares, .ref a_g_voices, .ref a_g_tellers, .ref a_g_listeners, .ref a_g_witnesses, .ref a_g_claims]))]) [6, 7, 0] (by decide) rfl) rfl rfl) rfl rfl hl.1 rfl (lv_room (Nat.le_of_ble_eq_true rfl)) dX8_layInto_36 ⟨Nat.le_of_ble_eq_true rfl, Nat.le_of_ble_eq_true rfl⟩) hP hD hS hA [6, 7, 0] [1, 2, 3, 4, 5] rfl rfl (by decide +kernel) (by decide +kernel) (fun ur9 H locs hwr9 hP hD hS => ?_)
      obtain ⟨z10, z11, z12, z13, z14, z15, z16, z17, z18, z19, z20, z21, z22, z23⟩ := ur9
      have hP : va_P D vwCl [(a_g_squares, .inl (cy 1, 5, .inl g_squares_f)), (a_g_kinds, .inl (cy 1, 5, .inl g_kinds_f)), (a_g_voices, .inl (cy 1, 5, .inl g_voices_f)), (a_g_tellers, .inl (cy 1, 6, .inl g_tellers_f)), (a_g_listeners, .inl (cy 1, 6, .inl g_listeners_f)), (a_pn, .inr (8, [.ref a_by, .int pn_length, .int z10, .int z11, .int z12, .int z13, .int z14])), (a_by, .inl (cy 0, 250, .inl by_f)), (a_g, .inr (3, [.int z15, .int z16, .int z17, .int z18, .long z19, .long z20, .int z21, .int z22, .int z23, .ref a_g_kinds, .ref a_g_squares, .ref a_g_voices, .ref a_g_tellers, .ref a_g_listeners, .ref a_g_witnesses, .ref a_g_claims]))] H := hP
      have hD : va_D A [(a_g_squares, .inl (cy 1, 5, .inl g_squares_f)), (a_g_kinds, .inl (cy 1, 5, .inl g_kinds_f)), (a_g_voices, .inl (cy 1, 5, .inl g_voices_f)), (a_g_tellers, .inl (cy 1, 6, .inl g_tellers_f)), (a_g_listeners, .inl (cy 1, 6, .inl g_listeners_f)), (a_pn, .inr (8, [.ref a_by, .int pn_length, .int z10, .int z11, .int z12, .int z13, .int z14])), (a_by, .inl (cy 0, 250, .inl by_f)), (a_g, .inr (3, [.int z15, .int z16, .int z17, .int z18, .long z19, .long z20, .int z21, .int z22, .int z23, .ref a_g_kinds, .ref a_g_squares, .ref a_g_voices, .ref a_g_tellers, .ref a_g_listeners, .ref a_g_witnesses, .ref a_g_claims]))] := hD
      have hwr9 : 2 ≤ z15 ∧ 0 ≤ z10 ∧ 0 ≤ z12 := hwr9
      obtain ⟨hwg2, hna2, hsa2⟩ := hwr9
      refine lv_iconst (v := 1) hx hb dX8_layInto_39 (by decide) ?_
      refine lv_istore_n (lv' := [(2, .int 1), (0, .ref a_pn), (1, .ref a_g)]) hx hb dX8_layInto_40 rfl hl (by decide) rfl (fun ls hl => ?_)
      have lp41 : ∀ (n41 : Nat) (v2_41 : Nat) (y_g_squares_41 : Nat → Int32) (y_g_kinds_41 : Nat → Int32) (y_g_voices_41 : Nat → Int32) (y_g_tellers_41 : Nat → Int32) (y_g_listeners_41 : Nat → Int32) (u_pn_2_41 : Int32) (u_pn_3_41 : Int32) (u_pn_4_41 : Int32) (u_pn_5_41 : Int32) (u_pn_6_41 : Int32) (u_g_2_41 : Int32) (u_g_3_41 : Int32) (u_g_4_41 : Int64) (u_g_5_41 : Int64) (u_g_6_41 : Int32) (u_g_7_41 : Int32) (hv2_41 : v2_41 < 2147483648) (hln : 0 ≤ u_pn_2_41) (hls : 0 ≤ u_pn_4_41) (hlw : 2 ≤ z15), 2147483648 - v2_41 < n41 → ∀ (H : Heap) (locs : List Loc), va_P D vwCl [(a_g_squares, .inl (cy 1, 5, .inl y_g_squares_41)), (a_g_kinds, .inl (cy 1, 5, .inl y_g_kinds_41)), (a_g_voices, .inl (cy 1, 5, .inl y_g_voices_41)), (a_g_tellers, .inl (cy 1, 6, .inl y_g_tellers_41)), (a_g_listeners, .inl (cy 1, 6, .inl y_g_listeners_41)), (a_pn, .inr (8, [.ref a_by, .int pn_length, .int u_pn_2_41, .int u_pn_3_41, .int u_pn_4_41, .int u_pn_5_41, .int u_pn_6_41])), (a_by, .inl (cy 0, 250, .inl by_f)), (a_g, .inr (3, [.int z15, .int z16, .int u_g_2_41, .int u_g_3_41, .long u_g_4_41, .long u_g_5_41, .int u_g_6_41, .int u_g_7_41, .int z23, .ref a_g_kinds, .ref a_g_squares, .ref a_g_voices, .ref a_g_tellers, .ref a_g_listeners, .ref a_g_witnesses, .ref a_g_claims]))] H → va_D A [(a_g_squares, .inl (cy 1, 5, .inl y_g_squares_41)), (a_g_kinds, .inl (cy 1, 5, .inl y_g_kinds_41)), (a_g_voices, .inl (cy 1, 5, .inl y_g_voices_41)), (a_g_tellers, .inl (cy 1, 6, .inl y_g_tellers_41)), (a_g_listeners, .inl (cy 1, 6, .inl y_g_listeners_41)), (a_pn, .inr (8, [.ref a_by, .int pn_length, .int u_pn_2_41, .int u_pn_3_41, .int u_pn_4_41, .int u_pn_5_41, .int u_pn_6_41])), (a_by, .inl (cy 0, 250, .inl by_f)), (a_g, .inr (3, [.int z15, .int z16, .int u_g_2_41, .int u_g_3_41, .long u_g_4_41, .long u_g_5_41, .int u_g_6_41, .int u_g_7_41, .int z23, .ref a_g_kinds, .ref a_g_squares, .ref a_g_voices, .ref a_g_tellers, .ref a_g_listeners, .ref a_g_witnesses, .ref a_g_claims]))] → va_S A s.heap H locs → ∀ ls : Array Slot, lv_has ls 3 [(2, .int (nI v2_41)), (0, .ref a_pn), (1, .ref a_g)] → W p l e (headSpec wsX8_layInto ({ frames := 6, cells := 0, slots := 0, locals := 131 })).room s m [.ref a_pn, .ref a_g].toArray below meth c H locs 0 0 QF (F0 m 41 ls []) := by
        intro n41
        induction n41 with
        | zero => intro v2_41 y_g_squares_41 y_g_kinds_41 y_g_voices_41 y_g_tellers_41 y_g_listeners_41 u_pn_2_41 u_pn_3_41 u_pn_4_41 u_pn_5_41 u_pn_6_41 u_g_2_41 u_g_3_41 u_g_4_41 u_g_5_41 u_g_6_41 u_g_7_41 hv2_41 hln hls hlw hm; exact absurd hm (Nat.not_lt_zero _)
        | succ n41 ih41 =>
          intro v2_41 y_g_squares_41 y_g_kinds_41 y_g_voices_41 y_g_tellers_41 y_g_listeners_41 u_pn_2_41 u_pn_3_41 u_pn_4_41 u_pn_5_41 u_pn_6_41 u_g_2_41 u_g_3_41 u_g_4_41 u_g_5_41 u_g_6_41 u_g_7_41 hv2_41 hln hls hlw hm41 H locs hP hD hS ls hl
          refine lv_iload_n hx hb dX8_layInto_41 rfl (lv_at hl 0 rfl) ?_
          refine lv_sipush (v := 250) hx hb dX8_layInto_42 (by decide) ?_
          refine lv_icmp_gt (tgt := 96) hx hb dX8_layInto_45 (by decide) (fun c24 => ?_) (fun c24 => ?_)
          · skip
            refine lv_aload_n hx hb dX8_layInto_96 rfl (lv_at hl 1 rfl) ?_
            refine va_get (D := D) (ci := 8) (v := .int u_pn_6_41) (C := RX8) (T := TX8) (N := 7) hx hb hts zi8_ hown hK hP 5 rfl rfl 6 (by decide) z2_ (fun _ h9 => h9) rfl dX8_layInto_97 ?_
            subst hQF
            have hP9 := hP.sub (ws' := [(a_pn, .inr (8, [.ref a_by, .int pn_length, .int u_pn_2_41, .int u_pn_3_41, .int u_pn_4_41, .int u_pn_5_41, .int u_pn_6_41])), (a_by, .inl (cy 0, 250, .inl by_f)), (a_g, .inr (3, [.int z15, .int z16, .int u_g_2_41, .int u_g_3_41, .long u_g_4_41, .long u_g_5_41, .int u_g_6_41, .int u_g_7_41, .int z23, .ref a_g_kinds, .ref a_g_squares, .ref a_g_voices, .ref a_g_tellers, .ref a_g_listeners, .ref a_g_witnesses, .ref a_g_claims])), (a_g_squares, .inl (cy 1, 5, .inl y_g_squares_41)), (a_g_kinds, .inl (cy 1, 5, .inl y_g_kinds_41)), (a_g_voices, .inl (cy 1, 5, .inl y_g_voices_41)), (a_g_tellers, .inl (cy 1, 6, .inl y_g_tellers_41)), (a_g_listeners, .inl (cy 1, 6, .inl y_g_listeners_41))]) [5, 6, 7, 0, 1, 2, 3, 4] rfl
            have hD9 := hD.sub (ws' := [(a_pn, .inr (8, [.ref a_by, .int pn_length, .int u_pn_2_41, .int u_pn_3_41, .int u_pn_4_41, .int u_pn_5_41, .int u_pn_6_41])), (a_by, .inl (cy 0, 250, .inl by_f)), (a_g, .inr (3, [.int z15, .int z16, .int u_g_2_41, .int u_g_3_41, .long u_g_4_41, .long u_g_5_41, .int u_g_6_41, .int u_g_7_41, .int z23, .ref a_g_kinds, .ref a_g_squares, .ref a_g_voices, .ref a_g_tellers, .ref a_g_listeners, .ref a_g_witnesses, .ref a_g_claims])), (a_g_squares, .inl (cy 1, 5, .inl y_g_squares_41)), (a_g_kinds, .inl (cy 1, 5, .inl y_g_kinds_41)), (a_g_voices, .inl (cy 1, 5, .inl y_g_voices_41)), (a_g_tellers, .inl (cy 1, 6, .inl y_g_tellers_41)), (a_g_listeners, .inl (cy 1, 6, .inl y_g_listeners_41))]) [5, 6, 7, 0, 1, 2, 3, 4] (by decide) rfl
            exact W.iret (v := u_pn_6_41) hx hb hr (fun t ht hW => ⟨⟨u_pn_6_41, (u_pn_2_41, u_pn_3_41, u_pn_4_41, u_pn_5_41, u_pn_6_41, z15, z16, u_g_2_41, u_g_3_41, u_g_4_41, u_g_5_41, u_g_6_41, u_g_7_41, z23, y_g_squares_41, y_g_kinds_41, y_g_voices_41, y_g_tellers_41, y_g_listeners_41), rfl, (by assumption), by rw [ht]; exact hP9, hD9⟩, hS.F ht⟩) hS.2.2 dX8_layInto_100
          · skip
            refine lv_aload_n hx hb dX8_layInto_48 rfl (lv_at hl 1 rfl) ?_
            refine va_get (D := D) (ci := 8) (v := .int u_pn_6_41) (C := RX8) (T := TX8) (N := 7) hx hb hts zi8_ hown hK hP 5 rfl rfl 6 (by decide) z2_ (fun _ h9 => h9) rfl dX8_layInto_49 ?_
            refine lv_iconst (v := (-1)) hx hb dX8_layInto_52 (by decide) ?_
            refine lv_icmp_ne (tgt := 96) hx hb dX8_layInto_53 (by decide) (fun c25 => ?_) (fun c25 => ?_)
            · skip
              refine lv_aload_n hx hb dX8_layInto_96 rfl (lv_at hl 1 rfl) ?_
              refine va_get (D := D) (ci := 8) (v := .int u_pn_6_41) (C := RX8) (T := TX8) (N := 7) hx hb hts zi8_ hown hK hP 5 rfl rfl 6 (by decide) z2_ (fun _ h9 => h9) rfl dX8_layInto_97 ?_
              subst hQF
              have hP9 := hP.sub (ws' := [(a_pn, .inr (8, [.ref a_by, .int pn_length, .int u_pn_2_41, .int u_pn_3_41, .int u_pn_4_41, .int u_pn_5_41, .int u_pn_6_41])), (a_by, .inl (cy 0, 250, .inl by_f)), (a_g, .inr (3, [.int z15, .int z16, .int u_g_2_41, .int u_g_3_41, .long u_g_4_41, .long u_g_5_41, .int u_g_6_41, .int u_g_7_41, .int z23, .ref a_g_kinds, .ref a_g_squares, .ref a_g_voices, .ref a_g_tellers, .ref a_g_listeners, .ref a_g_witnesses, .ref a_g_claims])), (a_g_squares, .inl (cy 1, 5, .inl y_g_squares_41)), (a_g_kinds, .inl (cy 1, 5, .inl y_g_kinds_41)), (a_g_voices, .inl (cy 1, 5, .inl y_g_voices_41)), (a_g_tellers, .inl (cy 1, 6, .inl y_g_tellers_41)), (a_g_listeners, .inl (cy 1, 6, .inl y_g_listeners_41))]) [5, 6, 7, 0, 1, 2, 3, 4] rfl
              have hD9 := hD.sub (ws' := [(a_pn, .inr (8, [.ref a_by, .int pn_length, .int u_pn_2_41, .int u_pn_3_41, .int u_pn_4_41, .int u_pn_5_41, .int u_pn_6_41])), (a_by, .inl (cy 0, 250, .inl by_f)), (a_g, .inr (3, [.int z15, .int z16, .int u_g_2_41, .int u_g_3_41, .long u_g_4_41, .long u_g_5_41, .int u_g_6_41, .int u_g_7_41, .int z23, .ref a_g_kinds, .ref a_g_squares, .ref a_g_voices, .ref a_g_tellers, .ref a_g_listeners, .ref a_g_witnesses, .ref a_g_claims])), (a_g_squares, .inl (cy 1, 5, .inl y_g_squares_41)), (a_g_kinds, .inl (cy 1, 5, .inl y_g_kinds_41)), (a_g_voices, .inl (cy 1, 5, .inl y_g_voices_41)), (a_g_tellers, .inl (cy 1, 6, .inl y_g_tellers_41)), (a_g_listeners, .inl (cy 1, 6, .inl y_g_listeners_41))]) [5, 6, 7, 0, 1, 2, 3, 4] (by decide) rfl
              exact W.iret (v := u_pn_6_41) hx hb hr (fun t ht hW => ⟨⟨u_pn_6_41, (u_pn_2_41, u_pn_3_41, u_pn_4_41, u_pn_5_41, u_pn_6_41, z15, z16, u_g_2_41, u_g_3_41, u_g_4_41, u_g_5_41, u_g_6_41, u_g_7_41, z23, y_g_squares_41, y_g_kinds_41, y_g_voices_41, y_g_tellers_41, y_g_listeners_41), rfl, (by assumption), by rw [ht]; exact hP9, hD9⟩, hS.F ht⟩) hS.2.2 dX8_layInto_100
            · skip
              refine lv_aload_n hx hb dX8_layInto_56 rfl (lv_at hl 1 rfl) ?_
              refine wr_v (wr := [(a_g_squares, .inl (cy 1, 5, .inl y_g_squares_41)), (a_g_kinds, .inl (cy 1, 5, .inl y_g_kinds_41)), (a_g_voices, .inl (cy 1, 5, .inl y_g_voices_41)), (a_g_tellers, .inl (cy 1, 6, .inl y_g_tellers_41)), (a_g_listeners, .inl (cy 1, 6, .inl y_g_listeners_41)), (a_g, .inr (3, [.int z15, .int z16, .int u_g_2_41, .int u_g_3_41, .long u_g_4_41, .long u_g_5_41, .int u_g_6_41, .int u_g_7_41, .int z23, .ref a_g_kinds, .ref a_g_squares, .ref a_g_voices, .ref a_g_tellers, .ref a_g_listeners, .ref a_g_witnesses, .ref a_g_claims]))]) (va_runV (As := []) (rest := []) ⟨hx, hb, hml, hown, hts⟩ (n_X8_takeToken l D cy a_pn a_by pn_length u_pn_2_41 u_pn_3_41 u_pn_4_41 u_pn_5_41 u_pn_6_41 by_f _ (by first | assumption | omega)) (cwV 0 hts gX8_layInto_X8_takeToken rfl rfl rfl (by decide +kernel) ⟨Nat.le_of_ble_eq_true rfl, Nat.le_of_ble_eq_true rfl⟩) (pV (ci := 8) (k := 0) hKA (hP.sub (ws' := [(a_pn, .inr (8, [.ref a_by, .int pn_length, .int u_pn_2_41, .int u_pn_3_41, .int u_pn_4_41, .int u_pn_5_41, .int u_pn_6_41])), (a_by, .inl (cy 0, 250, .inl by_f))]) [5, 6] rfl) (hD.sub (ws' := [(a_pn, .inr (8, [.ref a_by, .int pn_length, .int u_pn_2_41, .int u_pn_3_41, .int u_pn_4_41, .int u_pn_5_41, .int u_pn_6_41])), (a_by, .inl (cy 0, 250, .inl by_f))]) [5, 6] (by decide) rfl) rfl rfl) rfl rfl hl.1 rfl (lv_room (Nat.le_of_ble_eq_true rfl)) dX8_layInto_57 ⟨Nat.le_of_ble_eq_true rfl, Nat.le_of_ble_eq_true rfl⟩) hP hD hS hA [5, 6] [0, 1, 2, 3, 4, 7] rfl rfl (by decide +kernel) (by decide +kernel) (fun ur26 H locs hwr26 hP hD hS => ?_)
              obtain ⟨z27, z28, z29, z30⟩ := ur26
              have hP : va_P D vwCl [(a_g_squares, .inl (cy 1, 5, .inl y_g_squares_41)), (a_g_kinds, .inl (cy 1, 5, .inl y_g_kinds_41)), (a_g_voices, .inl (cy 1, 5, .inl y_g_voices_41)), (a_g_tellers, .inl (cy 1, 6, .inl y_g_tellers_41)), (a_g_listeners, .inl (cy 1, 6, .inl y_g_listeners_41)), (a_g, .inr (3, [.int z15, .int z16, .int u_g_2_41, .int u_g_3_41, .long u_g_4_41, .long u_g_5_41, .int u_g_6_41, .int u_g_7_41, .int z23, .ref a_g_kinds, .ref a_g_squares, .ref a_g_voices, .ref a_g_tellers, .ref a_g_listeners, .ref a_g_witnesses, .ref a_g_claims])), (a_pn, .inr (8, [.ref a_by, .int pn_length, .int z27, .int z28, .int z29, .int z30, .int u_pn_6_41])), (a_by, .inl (cy 0, 250, .inl by_f))] H := hP
              have hD : va_D A [(a_g_squares, .inl (cy 1, 5, .inl y_g_squares_41)), (a_g_kinds, .inl (cy 1, 5, .inl y_g_kinds_41)), (a_g_voices, .inl (cy 1, 5, .inl y_g_voices_41)), (a_g_tellers, .inl (cy 1, 6, .inl y_g_tellers_41)), (a_g_listeners, .inl (cy 1, 6, .inl y_g_listeners_41)), (a_g, .inr (3, [.int z15, .int z16, .int u_g_2_41, .int u_g_3_41, .long u_g_4_41, .long u_g_5_41, .int u_g_6_41, .int u_g_7_41, .int z23, .ref a_g_kinds, .ref a_g_squares, .ref a_g_voices, .ref a_g_tellers, .ref a_g_listeners, .ref a_g_witnesses, .ref a_g_claims])), (a_pn, .inr (8, [.ref a_by, .int pn_length, .int z27, .int z28, .int z29, .int z30, .int u_pn_6_41])), (a_by, .inl (cy 0, 250, .inl by_f))] := hD
              have hwr26 : 0 ≤ z27 ∧ 0 ≤ z29 := hwr26
              obtain ⟨hna3, hsa3⟩ := hwr26
              refine lv_aload_n hx hb dX8_layInto_60 rfl (lv_at hl 1 rfl) ?_
              refine va_get (D := D) (ci := 8) (v := .int z28) (C := RX8) (T := TX8) (N := 7) hx hb hts zi8_ hown hK hP 6 rfl rfl 3 (by decide) z3_ (fun _ h9 => h9) rfl dX8_layInto_61 ?_
              refine lv_if_ne (tgt := 69) hx hb dX8_layInto_64 (by decide) (fun c31 => ?_) (fun c31 => ?_)
              · skip
                refine lv_aload_n hx hb dX8_layInto_69 rfl (lv_at hl 1 rfl) ?_
                refine lv_aload_n hx hb dX8_layInto_70 rfl (lv_at hl 2 rfl) ?_
                refine lv_aload_n hx hb dX8_layInto_71 rfl (lv_at hl 1 rfl) ?_
                refine va_get (D := D) (ci := 8) (v := .int z28) (C := RX8) (T := TX8) (N := 7) hx hb hts zi8_ hown hK hP 6 rfl rfl 3 (by decide) z3_ (fun _ h9 => h9) rfl dX8_layInto_72 ?_
                refine lv_iconst (v := 1) hx hb dX8_layInto_75 (by decide) ?_
                have j87 : ∀ (s3_87 : Int32) (H : Heap) (locs : List Loc), va_P D vwCl [(a_g_squares, .inl (cy 1, 5, .inl y_g_squares_41)), (a_g_kinds, .inl (cy 1, 5, .inl y_g_kinds_41)), (a_g_voices, .inl (cy 1, 5, .inl y_g_voices_41)), (a_g_tellers, .inl (cy 1, 6, .inl y_g_tellers_41)), (a_g_listeners, .inl (cy 1, 6, .inl y_g_listeners_41)), (a_g, .inr (3, [.int z15, .int z16, .int u_g_2_41, .int u_g_3_41, .long u_g_4_41, .long u_g_5_41, .int u_g_6_41, .int u_g_7_41, .int z23, .ref a_g_kinds, .ref a_g_squares, .ref a_g_voices, .ref a_g_tellers, .ref a_g_listeners, .ref a_g_witnesses, .ref a_g_claims])), (a_pn, .inr (8, [.ref a_by, .int pn_length, .int z27, .int z28, .int z29, .int z30, .int u_pn_6_41])), (a_by, .inl (cy 0, 250, .inl by_f))] H → va_D A [(a_g_squares, .inl (cy 1, 5, .inl y_g_squares_41)), (a_g_kinds, .inl (cy 1, 5, .inl y_g_kinds_41)), (a_g_voices, .inl (cy 1, 5, .inl y_g_voices_41)), (a_g_tellers, .inl (cy 1, 6, .inl y_g_tellers_41)), (a_g_listeners, .inl (cy 1, 6, .inl y_g_listeners_41)), (a_g, .inr (3, [.int z15, .int z16, .int u_g_2_41, .int u_g_3_41, .long u_g_4_41, .long u_g_5_41, .int u_g_6_41, .int u_g_7_41, .int z23, .ref a_g_kinds, .ref a_g_squares, .ref a_g_voices, .ref a_g_tellers, .ref a_g_listeners, .ref a_g_witnesses, .ref a_g_claims])), (a_pn, .inr (8, [.ref a_by, .int pn_length, .int z27, .int z28, .int z29, .int z30, .int u_pn_6_41])), (a_by, .inl (cy 0, 250, .inl by_f))] → va_S A s.heap H locs → ∀ ls : Array Slot, lv_has ls 3 [(2, .int (nI v2_41)), (0, .ref a_pn), (1, .ref a_g)] → W p l e (headSpec wsX8_layInto ({ frames := 6, cells := 0, slots := 0, locals := 131 })).room s m [.ref a_pn, .ref a_g].toArray below meth c H locs 0 0 QF (F0 m 87 ls [.int s3_87, .ref a_g, .ref a_pn]) := by
                  intro s3_87 H locs hP hD hS ls hl
                  refine wr_v (wr := []) (va_runV (As := [.ref a_g, .int s3_87]) (rest := []) ⟨hx, hb, hml, hown, hts⟩ (n_X8_layItem l D cy a_g z15 z16 u_g_2_41 u_g_3_41 u_g_4_41 u_g_5_41 u_g_6_41 u_g_7_41 z23 a_g_kinds a_g_squares a_g_voices a_g_tellers a_g_listeners a_g_witnesses a_g_claims a_pn a_by pn_length z27 z28 z29 z30 u_pn_6_41 by_f y_g_squares_41 y_g_kinds_41 y_g_voices_41 y_g_tellers_41 y_g_listeners_41 s3_87 _ (by first | assumption | omega) (by first | assumption | omega)) (cwV 2 hts gX8_layInto_X8_layItem rfl rfl rfl (by decide +kernel) ⟨Nat.le_of_ble_eq_true rfl, Nat.le_of_ble_eq_true rfl⟩) (pV (ci := 8) (k := 1) hKA (hP.sub (ws' := [(a_g, .inr (3, [.int z15, .int z16, .int u_g_2_41, .int u_g_3_41, .long u_g_4_41, .long u_g_5_41, .int u_g_6_41, .int u_g_7_41, .int z23, .ref a_g_kinds, .ref a_g_squares, .ref a_g_voices, .ref a_g_tellers, .ref a_g_listeners, .ref a_g_witnesses, .ref a_g_claims])), (a_pn, .inr (8, [.ref a_by, .int pn_length, .int z27, .int z28, .int z29, .int z30, .int u_pn_6_41])), (a_by, .inl (cy 0, 250, .inl by_f)), (a_g_squares, .inl (cy 1, 5, .inl y_g_squares_41)), (a_g_kinds, .inl (cy 1, 5, .inl y_g_kinds_41)), (a_g_voices, .inl (cy 1, 5, .inl y_g_voices_41)), (a_g_tellers, .inl (cy 1, 6, .inl y_g_tellers_41)), (a_g_listeners, .inl (cy 1, 6, .inl y_g_listeners_41))]) [5, 6, 7, 0, 1, 2, 3, 4] rfl) (hD.sub (ws' := [(a_g, .inr (3, [.int z15, .int z16, .int u_g_2_41, .int u_g_3_41, .long u_g_4_41, .long u_g_5_41, .int u_g_6_41, .int u_g_7_41, .int z23, .ref a_g_kinds, .ref a_g_squares, .ref a_g_voices, .ref a_g_tellers, .ref a_g_listeners, .ref a_g_witnesses, .ref a_g_claims])), (a_pn, .inr (8, [.ref a_by, .int pn_length, .int z27, .int z28, .int z29, .int z30, .int u_pn_6_41])), (a_by, .inl (cy 0, 250, .inl by_f)), (a_g_squares, .inl (cy 1, 5, .inl y_g_squares_41)), (a_g_kinds, .inl (cy 1, 5, .inl y_g_kinds_41)), (a_g_voices, .inl (cy 1, 5, .inl y_g_voices_41)), (a_g_tellers, .inl (cy 1, 6, .inl y_g_tellers_41)), (a_g_listeners, .inl (cy 1, 6, .inl y_g_listeners_41))]) [5, 6, 7, 0, 1, 2, 3, 4] (by decide) rfl) rfl rfl) rfl rfl hl.1 rfl (lv_room (Nat.le_of_ble_eq_true rfl)) dX8_layInto_87 ⟨Nat.le_of_ble_eq_true rfl, Nat.le_of_ble_eq_true rfl⟩) hP hD hS hA [5, 6, 7, 0, 1, 2, 3, 4] [] rfl rfl (by decide +kernel) (by decide +kernel) (fun ur32 H locs hwr32 hP hD hS => ?_)
                  obtain ⟨z33, z34, z35, z36, z37, z38, z39, z40, z41, z42, z43, z44, z45, z46, z47, z48⟩ := ur32
                  have hP : va_P D vwCl [(a_g, .inr (3, [.int z15, .int z16, .int z33, .int z34, .long z35, .long z36, .int z37, .int z38, .int z23, .ref a_g_kinds, .ref a_g_squares, .ref a_g_voices, .ref a_g_tellers, .ref a_g_listeners, .ref a_g_witnesses, .ref a_g_claims])), (a_pn, .inr (8, [.ref a_by, .int pn_length, .int z39, .int z40, .int z41, .int z42, .int z43])), (a_by, .inl (cy 0, 250, .inl by_f)), (a_g_squares, .inl (cy 1, 5, .inl z44)), (a_g_kinds, .inl (cy 1, 5, .inl z45)), (a_g_voices, .inl (cy 1, 5, .inl z46)), (a_g_tellers, .inl (cy 1, 6, .inl z47)), (a_g_listeners, .inl (cy 1, 6, .inl z48))] H := hP
                  have hD : va_D A [(a_g, .inr (3, [.int z15, .int z16, .int z33, .int z34, .long z35, .long z36, .int z37, .int z38, .int z23, .ref a_g_kinds, .ref a_g_squares, .ref a_g_voices, .ref a_g_tellers, .ref a_g_listeners, .ref a_g_witnesses, .ref a_g_claims])), (a_pn, .inr (8, [.ref a_by, .int pn_length, .int z39, .int z40, .int z41, .int z42, .int z43])), (a_by, .inl (cy 0, 250, .inl by_f)), (a_g_squares, .inl (cy 1, 5, .inl z44)), (a_g_kinds, .inl (cy 1, 5, .inl z45)), (a_g_voices, .inl (cy 1, 5, .inl z46)), (a_g_tellers, .inl (cy 1, 6, .inl z47)), (a_g_listeners, .inl (cy 1, 6, .inl z48))] := hD
                  have hwr32 : 0 ≤ z39 ∧ 0 ≤ z41 := hwr32
                  obtain ⟨hna4, hsa4⟩ := hwr32
                  refine lv_iinc (v := nI (v2_41 + 1)) (lv' := [(2, .int (nI (v2_41 + 1))), (0, .ref a_pn), (1, .ref a_g)]) hx hb dX8_layInto_90 hl (k := 0) rfl (nI_1 _) (by decide) rfl (fun ls hl => ?_)
                  refine lv_goto (tgt := 41) hx hb dX8_layInto_93 (by decide) ?_
                  exact ih41 (v2_41 + 1) z44 z45 z46 z47 z48 z39 z40 z41 z42 z43 z33 z34 z35 z36 z37 z38 (by first | omega | exact nle_max (N := 250) (n := 250) (by decide) (by decide) (by assumption) (by assumption)) (by assumption) (by assumption) (by assumption) (by first | omega | (have := nle_max (N := 250) (n := 250) (by decide) (by decide) (by assumption) (by assumption); omega)) _ _ (hP.sub (ws' := [(a_g_squares, .inl (cy 1, 5, .inl z44)), (a_g_kinds, .inl (cy 1, 5, .inl z45)), (a_g_voices, .inl (cy 1, 5, .inl z46)), (a_g_tellers, .inl (cy 1, 6, .inl z47)), (a_g_listeners, .inl (cy 1, 6, .inl z48)), (a_pn, .inr (8, [.ref a_by, .int pn_length, .int z39, .int z40, .int z41, .int z42, .int z43])), (a_by, .inl (cy 0, 250, .inl by_f)), (a_g, .inr (3, [.int z15, .int z16, .int z33, .int z34, .long z35, .long z36, .int z37, .int z38, .int z23, .ref a_g_kinds, .ref a_g_squares, .ref a_g_voices, .ref a_g_tellers, .ref a_g_listeners, .ref a_g_witnesses, .ref a_g_claims]))]) [3, 4, 5, 6, 7, 1, 2, 0] rfl) (hD.sub (ws' := [(a_g_squares, .inl (cy 1, 5, .inl z44)), (a_g_kinds, .inl (cy 1, 5, .inl z45)), (a_g_voices, .inl (cy 1, 5, .inl z46)), (a_g_tellers, .inl (cy 1, 6, .inl z47)), (a_g_listeners, .inl (cy 1, 6, .inl z48)), (a_pn, .inr (8, [.ref a_by, .int pn_length, .int z39, .int z40, .int z41, .int z42, .int z43])), (a_by, .inl (cy 0, 250, .inl by_f)), (a_g, .inr (3, [.int z15, .int z16, .int z33, .int z34, .long z35, .long z36, .int z37, .int z38, .int z23, .ref a_g_kinds, .ref a_g_squares, .ref a_g_voices, .ref a_g_tellers, .ref a_g_listeners, .ref a_g_witnesses, .ref a_g_claims]))]) [3, 4, 5, 6, 7, 1, 2, 0] (by decide) rfl) hS ls hl
                refine lv_icmp_ne (tgt := 86) hx hb dX8_layInto_76 (by decide) (fun c49 => ?_) (fun c49 => ?_)
                · skip
                  refine lv_iconst (v := (-1)) hx hb dX8_layInto_86 (by decide) ?_
                  exact j87 (-1) _ _ hP hD hS ls hl
                · skip
                  refine lv_aload_n hx hb dX8_layInto_79 rfl (lv_at hl 1 rfl) ?_
                  refine wr_i (wr := [(a_g_squares, .inl (cy 1, 5, .inl y_g_squares_41)), (a_g_kinds, .inl (cy 1, 5, .inl y_g_kinds_41)), (a_g_voices, .inl (cy 1, 5, .inl y_g_voices_41)), (a_g_tellers, .inl (cy 1, 6, .inl y_g_tellers_41)), (a_g_listeners, .inl (cy 1, 6, .inl y_g_listeners_41)), (a_g, .inr (3, [.int z15, .int z16, .int u_g_2_41, .int u_g_3_41, .long u_g_4_41, .long u_g_5_41, .int u_g_6_41, .int u_g_7_41, .int z23, .ref a_g_kinds, .ref a_g_squares, .ref a_g_voices, .ref a_g_tellers, .ref a_g_listeners, .ref a_g_witnesses, .ref a_g_claims]))]) (va_runV (As := []) (rest := [.ref a_g, .ref a_pn]) ⟨hx, hb, hml, hown, hts⟩ (n_X8_wordOfToken l D cy adK adV a_pn a_by pn_length z27 z28 z29 z30 u_pn_6_41 by_f _ ) (cwV 0 hts gX8_layInto_X8_wordOfToken rfl rfl rfl (by decide +kernel) ⟨Nat.le_of_ble_eq_true rfl, Nat.le_of_ble_eq_true rfl⟩) (pVs (ci := 8) (k := 0) hKA (hP.sub (ws' := [(a_pn, .inr (8, [.ref a_by, .int pn_length, .int z27, .int z28, .int z29, .int z30, .int u_pn_6_41])), (a_by, .inl (cy 0, 250, .inl by_f))]) [6, 7] rfl) (hD.sub (ws' := [(a_pn, .inr (8, [.ref a_by, .int pn_length, .int z27, .int z28, .int z29, .int z30, .int u_pn_6_41])), (a_by, .inl (cy 0, 250, .inl by_f))]) [6, 7] (by decide) rfl) hE hS (va_free hD hS hA [6, 7] rfl) rfl rfl) rfl rfl hl.1 rfl (lv_room (Nat.le_of_ble_eq_true rfl)) dX8_layInto_80 ⟨Nat.le_of_ble_eq_true rfl, Nat.le_of_ble_eq_true rfl⟩) hP hD hS hA [6, 7] [0, 1, 2, 3, 4, 5] rfl rfl (by decide +kernel) (by decide +kernel) (fun r50 ur50 H locs hwr50 hP hD hS => ?_)
                  have hP : va_P D vwCl [(a_g_squares, .inl (cy 1, 5, .inl y_g_squares_41)), (a_g_kinds, .inl (cy 1, 5, .inl y_g_kinds_41)), (a_g_voices, .inl (cy 1, 5, .inl y_g_voices_41)), (a_g_tellers, .inl (cy 1, 6, .inl y_g_tellers_41)), (a_g_listeners, .inl (cy 1, 6, .inl y_g_listeners_41)), (a_g, .inr (3, [.int z15, .int z16, .int u_g_2_41, .int u_g_3_41, .long u_g_4_41, .long u_g_5_41, .int u_g_6_41, .int u_g_7_41, .int z23, .ref a_g_kinds, .ref a_g_squares, .ref a_g_voices, .ref a_g_tellers, .ref a_g_listeners, .ref a_g_witnesses, .ref a_g_claims])), (a_pn, .inr (8, [.ref a_by, .int pn_length, .int z27, .int z28, .int z29, .int z30, .int u_pn_6_41])), (a_by, .inl (cy 0, 250, .inl by_f))] H := hP
                  have hD : va_D A [(a_g_squares, .inl (cy 1, 5, .inl y_g_squares_41)), (a_g_kinds, .inl (cy 1, 5, .inl y_g_kinds_41)), (a_g_voices, .inl (cy 1, 5, .inl y_g_voices_41)), (a_g_tellers, .inl (cy 1, 6, .inl y_g_tellers_41)), (a_g_listeners, .inl (cy 1, 6, .inl y_g_listeners_41)), (a_g, .inr (3, [.int z15, .int z16, .int u_g_2_41, .int u_g_3_41, .long u_g_4_41, .long u_g_5_41, .int u_g_6_41, .int u_g_7_41, .int z23, .ref a_g_kinds, .ref a_g_squares, .ref a_g_voices, .ref a_g_tellers, .ref a_g_listeners, .ref a_g_witnesses, .ref a_g_claims])), (a_pn, .inr (8, [.ref a_by, .int pn_length, .int z27, .int z28, .int z29, .int z30, .int u_pn_6_41])), (a_by, .inl (cy 0, 250, .inl by_f))] := hD
                  refine lv_goto (tgt := 87) hx hb dX8_layInto_83 (by decide) ?_
                  exact j87 r50 _ _ hP hD hS ls hl
              · skip
                refine lv_iconst (v := (-1)) hx hb dX8_layInto_67 (by decide) ?_
                subst hQF
                have hP9 := hP.sub (ws' := [(a_pn, .inr (8, [.ref a_by, .int pn_length, .int z27, .int z28, .int z29, .int z30, .int u_pn_6_41])), (a_by, .inl (cy 0, 250, .inl by_f)), (a_g, .inr (3, [.int z15, .int z16, .int u_g_2_41, .int u_g_3_41, .long u_g_4_41, .long u_g_5_41, .int u_g_6_41, .int u_g_7_41, .int z23, .ref a_g_kinds, .ref a_g_squares, .ref a_g_voices, .ref a_g_tellers, .ref a_g_listeners, .ref a_g_witnesses, .ref a_g_claims])), (a_g_squares, .inl (cy 1, 5, .inl y_g_squares_41)), (a_g_kinds, .inl (cy 1, 5, .inl y_g_kinds_41)), (a_g_voices, .inl (cy 1, 5, .inl y_g_voices_41)), (a_g_tellers, .inl (cy 1, 6, .inl y_g_tellers_41)), (a_g_listeners, .inl (cy 1, 6, .inl y_g_listeners_41))]) [6, 7, 5, 0, 1, 2, 3, 4] rfl
                have hD9 := hD.sub (ws' := [(a_pn, .inr (8, [.ref a_by, .int pn_length, .int z27, .int z28, .int z29, .int z30, .int u_pn_6_41])), (a_by, .inl (cy 0, 250, .inl by_f)), (a_g, .inr (3, [.int z15, .int z16, .int u_g_2_41, .int u_g_3_41, .long u_g_4_41, .long u_g_5_41, .int u_g_6_41, .int u_g_7_41, .int z23, .ref a_g_kinds, .ref a_g_squares, .ref a_g_voices, .ref a_g_tellers, .ref a_g_listeners, .ref a_g_witnesses, .ref a_g_claims])), (a_g_squares, .inl (cy 1, 5, .inl y_g_squares_41)), (a_g_kinds, .inl (cy 1, 5, .inl y_g_kinds_41)), (a_g_voices, .inl (cy 1, 5, .inl y_g_voices_41)), (a_g_tellers, .inl (cy 1, 6, .inl y_g_tellers_41)), (a_g_listeners, .inl (cy 1, 6, .inl y_g_listeners_41))]) [6, 7, 5, 0, 1, 2, 3, 4] (by decide) rfl
                exact W.iret (v := (-1)) hx hb hr (fun t ht hW => ⟨⟨(-1), (z27, z28, z29, z30, u_pn_6_41, z15, z16, u_g_2_41, u_g_3_41, u_g_4_41, u_g_5_41, u_g_6_41, u_g_7_41, z23, y_g_squares_41, y_g_kinds_41, y_g_voices_41, y_g_tellers_41, y_g_listeners_41), rfl, (by assumption), by rw [ht]; exact hP9, hD9⟩, hS.F ht⟩) hS.2.2 dX8_layInto_68
      exact lp41 (2147483648 - 1 + 1) 1 g_squares_f g_kinds_f g_voices_f g_tellers_f g_listeners_f z10 z11 z12 z13 z14 z17 z18 z19 z20 z21 z22 (by first | omega | exact nlt_max (by assumption) (by assumption)) (by assumption) (by assumption) (by assumption) (Nat.lt_succ_self _) _ _ hP hD hS ls hl
    · skip
      refine lv_aload_n hx hb dX8_layInto_29 rfl (lv_at hl 0 rfl) ?_
      refine va_get (D := D) (ci := 8) (v := .int z4) (C := RX8) (T := TX8) (N := 7) hx hb hts zi8_ hown hK hP 6 rfl rfl 4 (by decide) z4_ (fun _ h9 => h9) rfl dX8_layInto_30 ?_
      subst hQF
      have hP9 := hP.sub (ws' := [(a_pn, .inr (8, [.ref a_by, .int pn_length, .int z2, .int z3, .int z4, .int z5, .int (-1)])), (a_by, .inl (cy 0, 250, .inl by_f)), (a_g, .inr (3, [.int g_wide, .int g_high, .int g_drown, .int g_wind, .long g_hedges, .long g_fountains, .int g_people, .int g_tellings, .int g_reports, .ref a_g_kinds, .ref a_g_squares, .ref a_g_voices, .ref a_g_tellers, .ref a_g_listeners, .ref a_g_witnesses, .ref a_g_claims])), (a_g_squares, .inl (cy 1, 5, .inl g_squares_f)), (a_g_kinds, .inl (cy 1, 5, .inl g_kinds_f)), (a_g_voices, .inl (cy 1, 5, .inl g_voices_f)), (a_g_tellers, .inl (cy 1, 6, .inl g_tellers_f)), (a_g_listeners, .inl (cy 1, 6, .inl g_listeners_f))]) [6, 7, 0, 1, 2, 3, 4, 5] rfl
      have hD9 := hD.sub (ws' := [(a_pn, .inr (8, [.ref a_by, .int pn_length, .int z2, .int z3, .int z4, .int z5, .int (-1)])), (a_by, .inl (cy 0, 250, .inl by_f)), (a_g, .inr (3, [.int g_wide, .int g_high, .int g_drown, .int g_wind, .long g_hedges, .long g_fountains, .int g_people, .int g_tellings, .int g_reports, .ref a_g_kinds, .ref a_g_squares, .ref a_g_voices, .ref a_g_tellers, .ref a_g_listeners, .ref a_g_witnesses, .ref a_g_claims])), (a_g_squares, .inl (cy 1, 5, .inl g_squares_f)), (a_g_kinds, .inl (cy 1, 5, .inl g_kinds_f)), (a_g_voices, .inl (cy 1, 5, .inl g_voices_f)), (a_g_tellers, .inl (cy 1, 6, .inl g_tellers_f)), (a_g_listeners, .inl (cy 1, 6, .inl g_listeners_f))]) [6, 7, 0, 1, 2, 3, 4, 5] (by decide) rfl
      exact W.iret (v := z4) hx hb hr (fun t ht hW => ⟨⟨z4, (z2, z3, z4, z5, (-1), g_wide, g_high, g_drown, g_wind, g_hedges, g_fountains, g_people, g_tellings, g_reports, g_squares_f, g_kinds_f, g_voices_f, g_tellers_f, g_listeners_f), rfl, (by assumption), by rw [ht]; exact hP9, hD9⟩, hS.F ht⟩) hS.2.2 dX8_layInto_33
