theorem dX7_init_0 : decode cX7_init 0 = .ok (.aload_n 0, 1) := by decide +kernel
theorem dX7_init_1 : decode cX7_init 1 = .ok (.invokespecial 1, 3) := by decide +kernel
theorem dX7_init_4 : decode cX7_init 4 = .ok (.return_, 1) := by decide +kernel
theorem dX0_init_0 : decode cX0_init 0 = .ok (.aload_n 0, 1) := by decide +kernel
set_option maxRecDepth 20000 in
theorem ggX0_init_X7_init : GoodIn wsX0_init wsX7_init := goodIn_r _ [3, 4, 5, 6] (by decide +kernel) (by decide +kernel)
set_option maxRecDepth 20000 in
theorem gX0_init_X7_init_n1 : GoodIn wsX0_init (wsX7_init) := ggX0_init_X7_init
theorem dX0_init_1 : decode cX0_init 1 = .ok (.invokespecial 1, 3) := by decide +kernel
theorem dX0_init_4 : decode cX0_init 4 = .ok (.return_, 1) := by decide +kernel
theorem dX1_init_0 : decode cX1_init 0 = .ok (.aload_n 0, 1) := by decide +kernel
set_option maxRecDepth 20000 in
theorem ggX1_init_X7_init : GoodIn wsX1_init wsX7_init := goodIn_r _ [3, 4, 5, 6] (by decide +kernel) (by decide +kernel)
set_option maxRecDepth 20000 in
theorem gX1_init_X7_init_n1 : GoodIn wsX1_init (wsX7_init) := ggX1_init_X7_init
theorem dX1_init_1 : decode cX1_init 1 = .ok (.invokespecial 1, 3) := by decide +kernel
theorem dX1_init_4 : decode cX1_init 4 = .ok (.return_, 1) := by decide +kernel
theorem dX2_init_0 : decode cX2_init 0 = .ok (.aload_n 0, 1) := by decide +kernel
set_option maxRecDepth 20000 in
theorem ggX2_init_X7_init : GoodIn wsX2_init wsX7_init := goodIn_r _ [3, 4, 5, 6] (by decide +kernel) (by decide +kernel)
set_option maxRecDepth 20000 in
theorem gX2_init_X7_init_n1 : GoodIn wsX2_init (wsX7_init) := ggX2_init_X7_init
theorem dX2_init_1 : decode cX2_init 1 = .ok (.invokespecial 1, 3) := by decide +kernel
theorem dX2_init_4 : decode cX2_init 4 = .ok (.return_, 1) := by decide +kernel
theorem dX9_init_0 : decode cX9_init 0 = .ok (.aload_n 0, 1) := by decide +kernel
set_option maxRecDepth 20000 in
theorem ggX9_init_X7_init : GoodIn wsX9_init wsX7_init := goodIn_r _ [3, 4, 5, 6] (by decide +kernel) (by decide +kernel)
set_option maxRecDepth 20000 in
theorem gX9_init_X7_init_n1 : GoodIn wsX9_init (wsX7_init) := ggX9_init_X7_init
theorem dX9_init_1 : decode cX9_init 1 = .ok (.invokespecial 1, 3) := by decide +kernel
theorem dX9_init_4 : decode cX9_init 4 = .ok (.return_, 1) := by decide +kernel
theorem dX5_init_0 : decode cX5_init 0 = .ok (.aload_n 0, 1) := by decide +kernel
set_option maxRecDepth 20000 in
theorem ggX5_init_X2_init : GoodIn wsX5_init wsX2_init := goodIn_r _ [3, 4, 5, 6, 7, 8, 9] (by decide +kernel) (by decide +kernel)
set_option maxRecDepth 20000 in
theorem gX5_init_X2_init_n1 : GoodIn wsX5_init (wsX2_init) := ggX5_init_X2_init
theorem dX5_init_1 : decode cX5_init 1 = .ok (.invokespecial 1, 3) := by decide +kernel
theorem dX5_init_4 : decode cX5_init 4 = .ok (.return_, 1) := by decide +kernel
theorem dX4_init_0 : decode cX4_init 0 = .ok (.aload_n 0, 1) := by decide +kernel
theorem dX4_init_1 : decode cX4_init 1 = .ok (.invokespecial 3, 3) := by decide +kernel
theorem dX4_init_4 : decode cX4_init 4 = .ok (.aload_n 0, 1) := by decide +kernel
theorem dX4_init_5 : decode cX4_init 5 = .ok (.new 9, 3) := by decide +kernel
theorem dX4_init_8 : decode cX4_init 8 = .ok (.dup, 1) := by decide +kernel
set_option maxRecDepth 20000 in
theorem ggX4_init_X7_init : GoodIn wsX4_init wsX7_init := goodIn_r _ [31, 32, 2, 3] (by decide +kernel) (by decide +kernel)
set_option maxRecDepth 20000 in
theorem gX4_init_X7_init_n11 : GoodIn wsX4_init (wsX7_init) := ggX4_init_X7_init
theorem dX4_init_9 : decode cX4_init 9 = .ok (.invokespecial 11, 3) := by decide +kernel
theorem dX4_init_12 : decode cX4_init 12 = .ok (.putfield 12, 3) := by decide +kernel
theorem dX4_init_15 : decode cX4_init 15 = .ok (.aload_n 0, 1) := by decide +kernel
theorem dX4_init_16 : decode cX4_init 16 = .ok (.bipush 6, 2) := by decide +kernel
theorem dX4_init_18 : decode cX4_init 18 = .ok (.anewarray 9, 3) := by decide +kernel
theorem dX4_init_21 : decode cX4_init 21 = .ok (.putfield 18, 3) := by decide +kernel
theorem dX4_init_24 : decode cX4_init 24 = .ok (.aload_n 0, 1) := by decide +kernel
theorem dX4_init_25 : decode cX4_init 25 = .ok (.iconst 5, 1) := by decide +kernel
theorem dX4_init_26 : decode cX4_init 26 = .ok (.newarray .int, 2) := by decide +kernel
theorem dX4_init_28 : decode cX4_init 28 = .ok (.putfield 22, 3) := by decide +kernel
theorem dX4_init_31 : decode cX4_init 31 = .ok (.aload_n 0, 1) := by decide +kernel
theorem dX4_init_32 : decode cX4_init 32 = .ok (.iconst 5, 1) := by decide +kernel
theorem dX4_init_33 : decode cX4_init 33 = .ok (.newarray .int, 2) := by decide +kernel
theorem dX4_init_35 : decode cX4_init 35 = .ok (.putfield 26, 3) := by decide +kernel
theorem dX4_init_38 : decode cX4_init 38 = .ok (.aload_n 0, 1) := by decide +kernel
theorem dX4_init_39 : decode cX4_init 39 = .ok (.bipush 36, 2) := by decide +kernel
theorem dX4_init_41 : decode cX4_init 41 = .ok (.newarray .int, 2) := by decide +kernel
theorem dX4_init_43 : decode cX4_init 43 = .ok (.putfield 29, 3) := by decide +kernel
theorem dX4_init_46 : decode cX4_init 46 = .ok (.aload_n 0, 1) := by decide +kernel
theorem dX4_init_47 : decode cX4_init 47 = .ok (.bipush 36, 2) := by decide +kernel
theorem dX4_init_49 : decode cX4_init 49 = .ok (.newarray .int, 2) := by decide +kernel
theorem dX4_init_51 : decode cX4_init 51 = .ok (.putfield 32, 3) := by decide +kernel
theorem dX4_init_54 : decode cX4_init 54 = .ok (.aload_n 0, 1) := by decide +kernel
theorem dX4_init_55 : decode cX4_init 55 = .ok (.aload_n 1, 1) := by decide +kernel
theorem dX4_init_56 : decode cX4_init 56 = .ok (.putfield 35, 3) := by decide +kernel
theorem dX4_init_59 : decode cX4_init 59 = .ok (.aload_n 0, 1) := by decide +kernel
theorem dX4_init_60 : decode cX4_init 60 = .ok (.getfield 18, 3) := by decide +kernel
theorem dX4_init_63 : decode cX4_init 63 = .ok (.iconst 0, 1) := by decide +kernel
theorem dX4_init_64 : decode cX4_init 64 = .ok (.aload_n 0, 1) := by decide +kernel
theorem dX4_init_65 : decode cX4_init 65 = .ok (.getfield 12, 3) := by decide +kernel
theorem dX4_init_68 : decode cX4_init 68 = .ok (.aastore, 1) := by decide +kernel
theorem dX4_init_69 : decode cX4_init 69 = .ok (.aload_n 0, 1) := by decide +kernel
theorem dX4_init_70 : decode cX4_init 70 = .ok (.getfield 18, 3) := by decide +kernel
theorem dX4_init_73 : decode cX4_init 73 = .ok (.iconst 1, 1) := by decide +kernel
theorem dX4_init_74 : decode cX4_init 74 = .ok (.new 39, 3) := by decide +kernel
theorem dX4_init_77 : decode cX4_init 77 = .ok (.dup, 1) := by decide +kernel
set_option maxRecDepth 20000 in
theorem ggX4_init_X2_init : GoodIn wsX4_init wsX2_init := goodIn_r _ [34, 30, 6, 31, 32, 2, 3] (by decide +kernel) (by decide +kernel)
set_option maxRecDepth 20000 in
theorem gX4_init_X2_init_n41 : GoodIn wsX4_init (wsX2_init) := ggX4_init_X2_init
theorem dX4_init_78 : decode cX4_init 78 = .ok (.invokespecial 41, 3) := by decide +kernel
theorem dX4_init_81 : decode cX4_init 81 = .ok (.aastore, 1) := by decide +kernel
theorem dX4_init_82 : decode cX4_init 82 = .ok (.aload_n 0, 1) := by decide +kernel
theorem dX4_init_83 : decode cX4_init 83 = .ok (.getfield 18, 3) := by decide +kernel
theorem dX4_init_86 : decode cX4_init 86 = .ok (.iconst 2, 1) := by decide +kernel
theorem dX4_init_87 : decode cX4_init 87 = .ok (.new 42, 3) := by decide +kernel
theorem dX4_init_90 : decode cX4_init 90 = .ok (.dup, 1) := by decide +kernel
set_option maxRecDepth 20000 in
theorem ggX4_init_X1_init : GoodIn wsX4_init wsX1_init := goodIn_r _ [36, 30, 6, 31, 32, 2, 3] (by decide +kernel) (by decide +kernel)
set_option maxRecDepth 20000 in
theorem gX4_init_X1_init_n44 : GoodIn wsX4_init (wsX1_init) := ggX4_init_X1_init
theorem dX4_init_91 : decode cX4_init 91 = .ok (.invokespecial 44, 3) := by decide +kernel
theorem dX4_init_94 : decode cX4_init 94 = .ok (.aastore, 1) := by decide +kernel
theorem dX4_init_95 : decode cX4_init 95 = .ok (.aload_n 0, 1) := by decide +kernel
theorem dX4_init_96 : decode cX4_init 96 = .ok (.getfield 18, 3) := by decide +kernel
theorem dX4_init_99 : decode cX4_init 99 = .ok (.iconst 3, 1) := by decide +kernel
theorem dX4_init_100 : decode cX4_init 100 = .ok (.new 45, 3) := by decide +kernel
theorem dX4_init_103 : decode cX4_init 103 = .ok (.dup, 1) := by decide +kernel
set_option maxRecDepth 20000 in
theorem ggX4_init_X9_init : GoodIn wsX4_init wsX9_init := goodIn_r _ [38, 30, 6, 31, 32, 2, 3] (by decide +kernel) (by decide +kernel)
set_option maxRecDepth 20000 in
theorem gX4_init_X9_init_n47 : GoodIn wsX4_init (wsX9_init) := ggX4_init_X9_init
theorem dX4_init_104 : decode cX4_init 104 = .ok (.invokespecial 47, 3) := by decide +kernel
theorem dX4_init_107 : decode cX4_init 107 = .ok (.aastore, 1) := by decide +kernel
theorem dX4_init_108 : decode cX4_init 108 = .ok (.aload_n 0, 1) := by decide +kernel
theorem dX4_init_109 : decode cX4_init 109 = .ok (.getfield 18, 3) := by decide +kernel
theorem dX4_init_112 : decode cX4_init 112 = .ok (.iconst 4, 1) := by decide +kernel
theorem dX4_init_113 : decode cX4_init 113 = .ok (.new 48, 3) := by decide +kernel
theorem dX4_init_116 : decode cX4_init 116 = .ok (.dup, 1) := by decide +kernel
set_option maxRecDepth 20000 in
theorem ggX4_init_X5_init : GoodIn wsX4_init wsX5_init := goodIn_r _ [40, 33, 17, 34, 30, 6, 31, 32, 2, 3] (by decide +kernel) (by decide +kernel)
set_option maxRecDepth 20000 in
theorem gX4_init_X5_init_n50 : GoodIn wsX4_init (wsX5_init) := ggX4_init_X5_init
theorem dX4_init_117 : decode cX4_init 117 = .ok (.invokespecial 50, 3) := by decide +kernel
theorem dX4_init_120 : decode cX4_init 120 = .ok (.aastore, 1) := by decide +kernel
theorem dX4_init_121 : decode cX4_init 121 = .ok (.aload_n 0, 1) := by decide +kernel
theorem dX4_init_122 : decode cX4_init 122 = .ok (.getfield 18, 3) := by decide +kernel
theorem dX4_init_125 : decode cX4_init 125 = .ok (.iconst 5, 1) := by decide +kernel
theorem dX4_init_126 : decode cX4_init 126 = .ok (.new 51, 3) := by decide +kernel
theorem dX4_init_129 : decode cX4_init 129 = .ok (.dup, 1) := by decide +kernel
set_option maxRecDepth 20000 in
theorem ggX4_init_X0_init : GoodIn wsX4_init wsX0_init := goodIn_r _ [42, 30, 6, 31, 32, 2, 3] (by decide +kernel) (by decide +kernel)
set_option maxRecDepth 20000 in
theorem gX4_init_X0_init_n53 : GoodIn wsX4_init (wsX0_init) := ggX4_init_X0_init
theorem dX4_init_130 : decode cX4_init 130 = .ok (.invokespecial 53, 3) := by decide +kernel
theorem dX4_init_133 : decode cX4_init 133 = .ok (.aastore, 1) := by decide +kernel
theorem dX4_init_134 : decode cX4_init 134 = .ok (.return_, 1) := by decide +kernel
theorem dX6_init_0 : decode cX6_init 0 = .ok (.aload_n 0, 1) := by decide +kernel
theorem dX6_init_1 : decode cX6_init 1 = .ok (.invokespecial 5, 3) := by decide +kernel
theorem dX6_init_4 : decode cX6_init 4 = .ok (.aload_n 0, 1) := by decide +kernel
theorem dX6_init_5 : decode cX6_init 5 = .ok (.bipush 36, 2) := by decide +kernel
theorem dX6_init_7 : decode cX6_init 7 = .ok (.newarray .int, 2) := by decide +kernel
theorem dX6_init_9 : decode cX6_init 9 = .ok (.putfield 11, 3) := by decide +kernel
theorem dX6_init_12 : decode cX6_init 12 = .ok (.aload_n 0, 1) := by decide +kernel
theorem dX6_init_13 : decode cX6_init 13 = .ok (.sipush 1152, 3) := by decide +kernel
theorem dX6_init_16 : decode cX6_init 16 = .ok (.newarray .int, 2) := by decide +kernel
theorem dX6_init_18 : decode cX6_init 18 = .ok (.putfield 15, 3) := by decide +kernel
theorem dX6_init_21 : decode cX6_init 21 = .ok (.aload_n 0, 1) := by decide +kernel
theorem dX6_init_22 : decode cX6_init 22 = .ok (.sipush 1152, 3) := by decide +kernel
theorem dX6_init_25 : decode cX6_init 25 = .ok (.newarray .int, 2) := by decide +kernel
theorem dX6_init_27 : decode cX6_init 27 = .ok (.putfield 18, 3) := by decide +kernel
theorem dX6_init_30 : decode cX6_init 30 = .ok (.aload_n 0, 1) := by decide +kernel
theorem dX6_init_31 : decode cX6_init 31 = .ok (.aload_n 1, 1) := by decide +kernel
theorem dX6_init_32 : decode cX6_init 32 = .ok (.putfield 21, 3) := by decide +kernel
theorem dX6_init_35 : decode cX6_init 35 = .ok (.aload_n 0, 1) := by decide +kernel
theorem dX6_init_36 : decode cX6_init 36 = .ok (.aload_n 2, 1) := by decide +kernel
theorem dX6_init_37 : decode cX6_init 37 = .ok (.putfield 25, 3) := by decide +kernel
theorem dX6_init_40 : decode cX6_init 40 = .ok (.return_, 1) := by decide +kernel
theorem dX8_init_0 : decode cX8_init 0 = .ok (.aload_n 0, 1) := by decide +kernel
theorem dX8_init_1 : decode cX8_init 1 = .ok (.invokespecial 3, 3) := by decide +kernel
theorem dX8_init_4 : decode cX8_init 4 = .ok (.aload_n 0, 1) := by decide +kernel
theorem dX8_init_5 : decode cX8_init 5 = .ok (.sipush 250, 3) := by decide +kernel
theorem dX8_init_8 : decode cX8_init 8 = .ok (.newarray .byte, 2) := by decide +kernel
theorem dX8_init_10 : decode cX8_init 10 = .ok (.putfield 9, 3) := by decide +kernel
theorem dX8_init_13 : decode cX8_init 13 = .ok (.return_, 1) := by decide +kernel
theorem dX10_init_0 : decode cX10_init 0 = .ok (.aload_n 0, 1) := by decide +kernel
theorem dX10_init_1 : decode cX10_init 1 = .ok (.invokespecial 1, 3) := by decide +kernel
theorem dX10_init_4 : decode cX10_init 4 = .ok (.aload_n 0, 1) := by decide +kernel
theorem dX10_init_5 : decode cX10_init 5 = .ok (.new 7, 3) := by decide +kernel
theorem dX10_init_8 : decode cX10_init 8 = .ok (.dup, 1) := by decide +kernel
set_option maxRecDepth 20000 in
theorem ggX10_init_X3_init : GoodIn wsX10_init wsX3_init := goodIn_r _ [24, 25, 2, 3, 26, 27, 28, 29, 30, 31, 32, 33, 34, 35, 36, 93, 94, 95, 96, 97, 98, 99, 100, 101, 102, 103, 104, 105, 106, 107, 108] (by decide +kernel) (by decide +kernel)
set_option maxRecDepth 20000 in
theorem gX10_init_X3_init : GoodIn wsX10_init (wsX3_init) := ggX10_init_X3_init
theorem dX10_init_9 : decode cX10_init 9 = .ok (.invokespecial 9, 3) := by decide +kernel
theorem dX10_init_12 : decode cX10_init 12 = .ok (.putfield 10, 3) := by decide +kernel
theorem dX10_init_15 : decode cX10_init 15 = .ok (.aload_n 0, 1) := by decide +kernel
theorem dX10_init_16 : decode cX10_init 16 = .ok (.new 7, 3) := by decide +kernel
theorem dX10_init_19 : decode cX10_init 19 = .ok (.dup, 1) := by decide +kernel
theorem dX10_init_20 : decode cX10_init 20 = .ok (.invokespecial 9, 3) := by decide +kernel
theorem dX10_init_23 : decode cX10_init 23 = .ok (.putfield 16, 3) := by decide +kernel
theorem dX10_init_26 : decode cX10_init 26 = .ok (.aload_n 0, 1) := by decide +kernel
theorem dX10_init_27 : decode cX10_init 27 = .ok (.iconst 2, 1) := by decide +kernel
theorem dX10_init_28 : decode cX10_init 28 = .ok (.anewarray 7, 3) := by decide +kernel
theorem dX10_init_31 : decode cX10_init 31 = .ok (.putfield 19, 3) := by decide +kernel
theorem dX10_init_34 : decode cX10_init 34 = .ok (.aload_n 0, 1) := by decide +kernel
theorem dX10_init_35 : decode cX10_init 35 = .ok (.new 23, 3) := by decide +kernel
theorem dX10_init_38 : decode cX10_init 38 = .ok (.dup, 1) := by decide +kernel
set_option maxRecDepth 20000 in
theorem ggX10_init_X8_init : GoodIn wsX10_init wsX8_init := goodIn_r _ [38, 39, 2, 3, 40, 41, 118, 119, 120, 121, 122, 123, 124] (by decide +kernel) (by decide +kernel)
set_option maxRecDepth 20000 in
theorem gX10_init_X8_init_n25 : GoodIn wsX10_init (wsX8_init) := ggX10_init_X8_init
theorem dX10_init_39 : decode cX10_init 39 = .ok (.invokespecial 25, 3) := by decide +kernel
theorem dX10_init_42 : decode cX10_init 42 = .ok (.putfield 26, 3) := by decide +kernel
theorem dX10_init_45 : decode cX10_init 45 = .ok (.aload_n 0, 1) := by decide +kernel
theorem dX10_init_46 : decode cX10_init 46 = .ok (.new 30, 3) := by decide +kernel
theorem dX10_init_49 : decode cX10_init 49 = .ok (.dup, 1) := by decide +kernel
theorem dX10_init_50 : decode cX10_init 50 = .ok (.aload_n 0, 1) := by decide +kernel
theorem dX10_init_51 : decode cX10_init 51 = .ok (.getfield 10, 3) := by decide +kernel
set_option maxRecDepth 20000 in
theorem ggX10_init_X4_init : GoodIn wsX10_init wsX4_init := goodIn_r _ [44, 45, 2, 3, 46, 47, 48, 49, 50, 26, 51, 52, 53, 54, 55, 56, 57, 58, 59, 60, 61, 62, 63, 64, 65, 66, 67, 68, 69, 70, 71, 72, 73, 74, 75, 76, 77, 78, 79, 80, 81, 82, 83, 125, 126, 127, 128, 129, 130, 131, 132, 133] (by decide +kernel) (by decide +kernel)
set_option maxRecDepth 20000 in
theorem gX10_init_X4_init : GoodIn wsX10_init (wsX4_init) := ggX10_init_X4_init
theorem dX10_init_54 : decode cX10_init 54 = .ok (.invokespecial 32, 3) := by decide +kernel
theorem dX10_init_57 : decode cX10_init 57 = .ok (.putfield 35, 3) := by decide +kernel
theorem dX10_init_60 : decode cX10_init 60 = .ok (.aload_n 0, 1) := by decide +kernel
theorem dX10_init_61 : decode cX10_init 61 = .ok (.new 39, 3) := by decide +kernel
theorem dX10_init_64 : decode cX10_init 64 = .ok (.dup, 1) := by decide +kernel
theorem dX10_init_65 : decode cX10_init 65 = .ok (.aload_n 0, 1) := by decide +kernel
theorem dX10_init_66 : decode cX10_init 66 = .ok (.getfield 10, 3) := by decide +kernel
theorem dX10_init_69 : decode cX10_init 69 = .ok (.aload_n 0, 1) := by decide +kernel
theorem dX10_init_70 : decode cX10_init 70 = .ok (.getfield 35, 3) := by decide +kernel
set_option maxRecDepth 20000 in
theorem ggX10_init_X6_init : GoodIn wsX10_init wsX6_init := goodIn_r _ [86, 87, 2, 3, 26, 88, 89, 90, 91, 92, 134, 135, 136, 137, 138] (by decide +kernel) (by decide +kernel)
set_option maxRecDepth 20000 in
theorem gX10_init_X6_init : GoodIn wsX10_init (wsX6_init) := ggX10_init_X6_init
theorem dX10_init_73 : decode cX10_init 73 = .ok (.invokespecial 41, 3) := by decide +kernel
theorem dX10_init_76 : decode cX10_init 76 = .ok (.putfield 44, 3) := by decide +kernel
theorem dX10_init_79 : decode cX10_init 79 = .ok (.return_, 1) := by decide +kernel
theorem dX11_init_0 : decode cX11_init 0 = .ok (.aload_n 0, 1) := by decide +kernel
theorem dX11_init_1 : decode cX11_init 1 = .ok (.invokespecial 1, 3) := by decide +kernel
theorem dX11_init_4 : decode cX11_init 4 = .ok (.aload_n 0, 1) := by decide +kernel
theorem dX11_init_5 : decode cX11_init 5 = .ok (.bipush 122, 2) := by decide +kernel
theorem dX11_init_7 : decode cX11_init 7 = .ok (.newarray .int, 2) := by decide +kernel
theorem dX11_init_9 : decode cX11_init 9 = .ok (.putfield 7, 3) := by decide +kernel
theorem dX11_init_12 : decode cX11_init 12 = .ok (.aload_n 0, 1) := by decide +kernel
theorem dX11_init_13 : decode cX11_init 13 = .ok (.sipush 244, 3) := by decide +kernel
theorem dX11_init_16 : decode cX11_init 16 = .ok (.newarray .int, 2) := by decide +kernel
theorem dX11_init_18 : decode cX11_init 18 = .ok (.putfield 13, 3) := by decide +kernel
theorem dX11_init_21 : decode cX11_init 21 = .ok (.aload_n 0, 1) := by decide +kernel
theorem dX11_init_22 : decode cX11_init 22 = .ok (.iconst 2, 1) := by decide +kernel
theorem dX11_init_23 : decode cX11_init 23 = .ok (.newarray .boolean, 2) := by decide +kernel
theorem dX11_init_25 : decode cX11_init 25 = .ok (.putfield 16, 3) := by decide +kernel
theorem dX11_init_28 : decode cX11_init 28 = .ok (.aload_n 0, 1) := by decide +kernel
theorem dX11_init_29 : decode cX11_init 29 = .ok (.iconst 3, 1) := by decide +kernel
theorem dX11_init_30 : decode cX11_init 30 = .ok (.newarray .int, 2) := by decide +kernel
theorem dX11_init_32 : decode cX11_init 32 = .ok (.putfield 20, 3) := by decide +kernel
theorem dX11_init_35 : decode cX11_init 35 = .ok (.aload_n 0, 1) := by decide +kernel
theorem dX11_init_36 : decode cX11_init 36 = .ok (.bipush 36, 2) := by decide +kernel
theorem dX11_init_38 : decode cX11_init 38 = .ok (.newarray .boolean, 2) := by decide +kernel
theorem dX11_init_40 : decode cX11_init 40 = .ok (.putfield 23, 3) := by decide +kernel
theorem dX11_init_43 : decode cX11_init 43 = .ok (.aload_n 0, 1) := by decide +kernel
theorem dX11_init_44 : decode cX11_init 44 = .ok (.sipush 1152, 3) := by decide +kernel
theorem dX11_init_47 : decode cX11_init 47 = .ok (.newarray .int, 2) := by decide +kernel
theorem dX11_init_49 : decode cX11_init 49 = .ok (.putfield 26, 3) := by decide +kernel
theorem dX11_init_52 : decode cX11_init 52 = .ok (.aload_n 0, 1) := by decide +kernel
theorem dX11_init_53 : decode cX11_init 53 = .ok (.sipush 1152, 3) := by decide +kernel
theorem dX11_init_56 : decode cX11_init 56 = .ok (.newarray .int, 2) := by decide +kernel
theorem dX11_init_58 : decode cX11_init 58 = .ok (.putfield 29, 3) := by decide +kernel
theorem dX11_init_61 : decode cX11_init 61 = .ok (.aload_n 0, 1) := by decide +kernel
theorem dX11_init_62 : decode cX11_init 62 = .ok (.bipush 36, 2) := by decide +kernel
theorem dX11_init_64 : decode cX11_init 64 = .ok (.newarray .int, 2) := by decide +kernel
theorem dX11_init_66 : decode cX11_init 66 = .ok (.putfield 32, 3) := by decide +kernel
theorem dX11_init_69 : decode cX11_init 69 = .ok (.aload_n 0, 1) := by decide +kernel
theorem dX11_init_70 : decode cX11_init 70 = .ok (.sipush 250, 3) := by decide +kernel
theorem dX11_init_73 : decode cX11_init 73 = .ok (.newarray .int, 2) := by decide +kernel
theorem dX11_init_75 : decode cX11_init 75 = .ok (.putfield 35, 3) := by decide +kernel
theorem dX11_init_78 : decode cX11_init 78 = .ok (.aload_n 0, 1) := by decide +kernel
theorem dX11_init_79 : decode cX11_init 79 = .ok (.bipush 122, 2) := by decide +kernel
theorem dX11_init_81 : decode cX11_init 81 = .ok (.newarray .int, 2) := by decide +kernel
theorem dX11_init_83 : decode cX11_init 83 = .ok (.putfield 38, 3) := by decide +kernel
theorem dX11_init_86 : decode cX11_init 86 = .ok (.aload_n 0, 1) := by decide +kernel
theorem dX11_init_87 : decode cX11_init 87 = .ok (.getfield 7, 3) := by decide +kernel
theorem dX11_init_90 : decode cX11_init 90 = .ok (.bipush 6, 2) := by decide +kernel
theorem dX11_init_92 : decode cX11_init 92 = .ok (.bipush 6, 2) := by decide +kernel
set_option maxRecDepth 20000 in
theorem ggX11_init_X11_begin : GoodIn wsX11_init wsX11_begin := goodIn_r _ [19] (by decide +kernel) (by decide +kernel)
set_option maxRecDepth 20000 in
theorem gX11_init_X11_begin : GoodIn wsX11_init (va_wsS RX11 41 yX11_begin wsX11_begin) := goodIn_app (goodIn_of _ (by decide +kernel)) ggX11_init_X11_begin
theorem dX11_init_94 : decode cX11_init 94 = .ok (.invokestatic 41, 3) := by decide +kernel
theorem dX11_init_97 : decode cX11_init 97 = .ok (.return_, 1) := by decide +kernel
theorem u_eq (f : Nat → Int32) (k : Nat) (x : Int32) : upd f k x k = x := pk_us
theorem u_ne (f : Nat → Int32) {k j : Nat} (x : Int32) (h : j ≠ k) : upd f k x j = f j := pk_un h
set_option maxHeartbeats 4000000 in
set_option maxRecDepth 100000 in
theorem c_X7_init (l : Launch) (D : va_G) (cy : Nat → ClassId) (q : Nat) (sz : Nat)  : Met l yX7_init wsX7_init ({ frames := 1, cells := 0, slots := 0, locals := 12 }) (va_Pc [.ref q] (kPre D cy [] sz)) (va_Qv (fun (_ : Unit) => True) (fun _ _ => True) (fun q : Nat => sz ≤ q)) 0 0 (fun q : Nat => sz ≤ q) := by
  refine Met.ofW (cc := cX7_init) (maxL := 1) (ret := none) (by decide) rfl ?_
  intro p e s m args below meth c s₁ B hml hv
  obtain ⟨rfl, hsz, hP, hKA, hD0⟩ := hv
  have hx := B.exec
  have hb := B.bytes
  have hr := B.returns
  have hts := atoms_spec (ws := wsX7_init) B.pre
  have hown : s.vm.findClass RX7 = some m.cls := findClass_of_methodNamed B.named
  have hlocks := B.notSynchronized
  have hin : meth.name = "<init>" := (name_of_methodNamed B.named B.method).1
  subst hsz
  have hK := hKA.1
  have hD := hD0
  generalize hAe : (fun q : Nat => s.heap.size ≤ q) = A
  have hA : ∀ q : Nat, s.heap.size ≤ q → A q := fun q h => by rw [← hAe]; exact h
  have hS : va_S A s.heap s.heap [] := va_S.rf
  have hP : va_P D vwCl [] s.heap := hP
  have hl := lv_entry ([.ref q]) (n := 1) (Nat.le_of_ble_eq_true rfl)
  rw [lg_entry_eq]
  generalize (lg_sl ([.ref q]) ++ List.replicate (1 - (lg_sl ([.ref q])).length) Slot.unset).toArray = ls at hl ⊢
  have hl : lv_has ls 1 [(0, .ref q)] := hl
  have z0_ := hts (.methodLink RX7 1 objectInit) (by decide +kernel)
  have z1_ := hts (.instanceMethod objectInit) (by decide +kernel)
  have z2_ := hts (.code objectInit ⟨#[0xb1]⟩ 1 none) (by decide +kernel)
  refine lv_aload_n hx hb dX7_init_0 rfl (lv_at hl 0 rfl) ?_
  refine W.objInit hx hb hown z0_ z1_ z2_ rfl (by rw [hml]; exact hl.1) rfl dX7_init_1 (Nat.le_of_ble_eq_true rfl) (Nat.le_of_ble_eq_true rfl) ?_
  refine W.eq (g2 := F0 m 4 ls []) rfl ?_
  exact W.vret hx hb hr (fun t ht hW => ⟨⟨(), rfl, trivial, trivial⟩, hS.F ht⟩) hS.2.2 dX7_init_4

set_option maxHeartbeats 4000000 in
set_option maxRecDepth 100000 in
theorem c_X0_init (l : Launch) (D : va_G) (cy : Nat → ClassId) (q : Nat) (sz : Nat)  : Met l yX0_init wsX0_init ({ frames := 2, cells := 0, slots := 0, locals := 32 }) (va_Pc [.ref q] (kPre D cy [] sz)) (va_Qv (fun (_ : Unit) => True) (fun _ _ => True) (fun q : Nat => sz ≤ q)) 0 0 (fun q : Nat => sz ≤ q) := by
  refine Met.ofW (cc := cX0_init) (maxL := 1) (ret := none) (by decide) rfl ?_
  intro p e s m args below meth c s₁ B hml hv
  obtain ⟨rfl, hsz, hP, hKA, hD0⟩ := hv
  have hx := B.exec
  have hb := B.bytes
  have hr := B.returns
  have hts := atoms_spec (ws := wsX0_init) B.pre
  have hown : s.vm.findClass RX0 = some m.cls := findClass_of_methodNamed B.named
  have hlocks := B.notSynchronized
  have hin : meth.name = "<init>" := (name_of_methodNamed B.named B.method).1
  subst hsz
  have hK := hKA.1
  have hD := hD0
  generalize hAe : (fun q : Nat => s.heap.size ≤ q) = A
  have hA : ∀ q : Nat, s.heap.size ≤ q → A q := fun q h => by rw [← hAe]; exact h
  have hS : va_S A s.heap s.heap [] := va_S.rf
  have hP : va_P D vwCl [] s.heap := hP
  have hl := lv_entry ([.ref q]) (n := 1) (Nat.le_of_ble_eq_true rfl)
  rw [lg_entry_eq]
  generalize (lg_sl ([.ref q]) ++ List.replicate (1 - (lg_sl ([.ref q])).length) Slot.unset).toArray = ls at hl ⊢
  have hl : lv_has ls 1 [(0, .ref q)] := hl
  have z0_ := hts (.initialized RX7) (by decide +kernel)
  have z1_ := hts (.instanceMethod yX7_init) (by decide +kernel)
  refine lv_aload_n hx hb dX0_init_0 rfl (lv_at hl 0 rfl) ?_
  refine rd_v (va_runIN (As := []) (rest := []) ⟨hx, hb, hml, hown, hts⟩ (c_X7_init l D cy q _) ⟨(va_cnB 0 hts gX0_init_X7_init_n1 rfl rfl rfl (hKA.2 (.methodLinkNest RX0 1 yX7_init RX10) (by decide +kernel)) z0_ (by decide +kernel) ⟨Nat.le_of_ble_eq_true rfl, Nat.le_of_ble_eq_true rfl⟩), rfl, z1_⟩ (pS hKA pE (dE (A := A))) rfl rfl hl.1 rfl (lv_room (Nat.le_of_ble_eq_true rfl)) dX0_init_1 ⟨Nat.le_of_ble_eq_true rfl, Nat.le_of_ble_eq_true rfl⟩) hP hS hA (fun H locs hwr1 hP hS => ?_)
  exact W.vret hx hb hr (fun t ht hW => ⟨⟨(), rfl, trivial, trivial⟩, hS.F ht⟩) hS.2.2 dX0_init_4

set_option maxHeartbeats 4000000 in
set_option maxRecDepth 100000 in
theorem c_X1_init (l : Launch) (D : va_G) (cy : Nat → ClassId) (q : Nat) (sz : Nat)  : Met l yX1_init wsX1_init ({ frames := 2, cells := 0, slots := 0, locals := 32 }) (va_Pc [.ref q] (kPre D cy [] sz)) (va_Qv (fun (_ : Unit) => True) (fun _ _ => True) (fun q : Nat => sz ≤ q)) 0 0 (fun q : Nat => sz ≤ q) := by
  refine Met.ofW (cc := cX1_init) (maxL := 1) (ret := none) (by decide) rfl ?_
  intro p e s m args below meth c s₁ B hml hv
  obtain ⟨rfl, hsz, hP, hKA, hD0⟩ := hv
  have hx := B.exec
  have hb := B.bytes
  have hr := B.returns
  have hts := atoms_spec (ws := wsX1_init) B.pre
  have hown : s.vm.findClass RX1 = some m.cls := findClass_of_methodNamed B.named
  have hlocks := B.notSynchronized
  have hin : meth.name = "<init>" := (name_of_methodNamed B.named B.method).1
  subst hsz
  have hK := hKA.1
  have hD := hD0
  generalize hAe : (fun q : Nat => s.heap.size ≤ q) = A
  have hA : ∀ q : Nat, s.heap.size ≤ q → A q := fun q h => by rw [← hAe]; exact h
  have hS : va_S A s.heap s.heap [] := va_S.rf
  have hP : va_P D vwCl [] s.heap := hP
  have hl := lv_entry ([.ref q]) (n := 1) (Nat.le_of_ble_eq_true rfl)
  rw [lg_entry_eq]
  generalize (lg_sl ([.ref q]) ++ List.replicate (1 - (lg_sl ([.ref q])).length) Slot.unset).toArray = ls at hl ⊢
  have hl : lv_has ls 1 [(0, .ref q)] := hl
  have z0_ := hts (.initialized RX7) (by decide +kernel)
  have z1_ := hts (.instanceMethod yX7_init) (by decide +kernel)
  refine lv_aload_n hx hb dX1_init_0 rfl (lv_at hl 0 rfl) ?_
  refine rd_v (va_runIN (As := []) (rest := []) ⟨hx, hb, hml, hown, hts⟩ (c_X7_init l D cy q _) ⟨(va_cnB 0 hts gX1_init_X7_init_n1 rfl rfl rfl (hKA.2 (.methodLinkNest RX1 1 yX7_init RX10) (by decide +kernel)) z0_ (by decide +kernel) ⟨Nat.le_of_ble_eq_true rfl, Nat.le_of_ble_eq_true rfl⟩), rfl, z1_⟩ (pS hKA pE (dE (A := A))) rfl rfl hl.1 rfl (lv_room (Nat.le_of_ble_eq_true rfl)) dX1_init_1 ⟨Nat.le_of_ble_eq_true rfl, Nat.le_of_ble_eq_true rfl⟩) hP hS hA (fun H locs hwr1 hP hS => ?_)
  exact W.vret hx hb hr (fun t ht hW => ⟨⟨(), rfl, trivial, trivial⟩, hS.F ht⟩) hS.2.2 dX1_init_4

set_option maxHeartbeats 4000000 in
set_option maxRecDepth 100000 in
theorem c_X2_init (l : Launch) (D : va_G) (cy : Nat → ClassId) (q : Nat) (sz : Nat)  : Met l yX2_init wsX2_init ({ frames := 2, cells := 0, slots := 0, locals := 32 }) (va_Pc [.ref q] (kPre D cy [] sz)) (va_Qv (fun (_ : Unit) => True) (fun _ _ => True) (fun q : Nat => sz ≤ q)) 0 0 (fun q : Nat => sz ≤ q) := by
  refine Met.ofW (cc := cX2_init) (maxL := 1) (ret := none) (by decide) rfl ?_
  intro p e s m args below meth c s₁ B hml hv
  obtain ⟨rfl, hsz, hP, hKA, hD0⟩ := hv
  have hx := B.exec
  have hb := B.bytes
  have hr := B.returns
  have hts := atoms_spec (ws := wsX2_init) B.pre
  have hown : s.vm.findClass RX2 = some m.cls := findClass_of_methodNamed B.named
  have hlocks := B.notSynchronized
  have hin : meth.name = "<init>" := (name_of_methodNamed B.named B.method).1
  subst hsz
  have hK := hKA.1
  have hD := hD0
  generalize hAe : (fun q : Nat => s.heap.size ≤ q) = A
  have hA : ∀ q : Nat, s.heap.size ≤ q → A q := fun q h => by rw [← hAe]; exact h
  have hS : va_S A s.heap s.heap [] := va_S.rf
  have hP : va_P D vwCl [] s.heap := hP
  have hl := lv_entry ([.ref q]) (n := 1) (Nat.le_of_ble_eq_true rfl)
  rw [lg_entry_eq]
  generalize (lg_sl ([.ref q]) ++ List.replicate (1 - (lg_sl ([.ref q])).length) Slot.unset).toArray = ls at hl ⊢
  have hl : lv_has ls 1 [(0, .ref q)] := hl
  have z0_ := hts (.initialized RX7) (by decide +kernel)
  have z1_ := hts (.instanceMethod yX7_init) (by decide +kernel)
  refine lv_aload_n hx hb dX2_init_0 rfl (lv_at hl 0 rfl) ?_
  refine rd_v (va_runIN (As := []) (rest := []) ⟨hx, hb, hml, hown, hts⟩ (c_X7_init l D cy q _) ⟨(va_cnB 0 hts gX2_init_X7_init_n1 rfl rfl rfl (hKA.2 (.methodLinkNest RX2 1 yX7_init RX10) (by decide +kernel)) z0_ (by decide +kernel) ⟨Nat.le_of_ble_eq_true rfl, Nat.le_of_ble_eq_true rfl⟩), rfl, z1_⟩ (pS hKA pE (dE (A := A))) rfl rfl hl.1 rfl (lv_room (Nat.le_of_ble_eq_true rfl)) dX2_init_1 ⟨Nat.le_of_ble_eq_true rfl, Nat.le_of_ble_eq_true rfl⟩) hP hS hA (fun H locs hwr1 hP hS => ?_)
  exact W.vret hx hb hr (fun t ht hW => ⟨⟨(), rfl, trivial, trivial⟩, hS.F ht⟩) hS.2.2 dX2_init_4

set_option maxHeartbeats 4000000 in
set_option maxRecDepth 100000 in
theorem c_X9_init (l : Launch) (D : va_G) (cy : Nat → ClassId) (q : Nat) (sz : Nat)  : Met l yX9_init wsX9_init ({ frames := 2, cells := 0, slots := 0, locals := 32 }) (va_Pc [.ref q] (kPre D cy [] sz)) (va_Qv (fun (_ : Unit) => True) (fun _ _ => True) (fun q : Nat => sz ≤ q)) 0 0 (fun q : Nat => sz ≤ q) := by
  refine Met.ofW (cc := cX9_init) (maxL := 1) (ret := none) (by decide) rfl ?_
  intro p e s m args below meth c s₁ B hml hv
  obtain ⟨rfl, hsz, hP, hKA, hD0⟩ := hv
  have hx := B.exec
  have hb := B.bytes
  have hr := B.returns
  have hts := atoms_spec (ws := wsX9_init) B.pre
  have hown : s.vm.findClass RX9 = some m.cls := findClass_of_methodNamed B.named
  have hlocks := B.notSynchronized
  have hin : meth.name = "<init>" := (name_of_methodNamed B.named B.method).1
  subst hsz
  have hK := hKA.1
  have hD := hD0
  generalize hAe : (fun q : Nat => s.heap.size ≤ q) = A
  have hA : ∀ q : Nat, s.heap.size ≤ q → A q := fun q h => by rw [← hAe]; exact h
  have hS : va_S A s.heap s.heap [] := va_S.rf
  have hP : va_P D vwCl [] s.heap := hP
  have hl := lv_entry ([.ref q]) (n := 1) (Nat.le_of_ble_eq_true rfl)
  rw [lg_entry_eq]
  generalize (lg_sl ([.ref q]) ++ List.replicate (1 - (lg_sl ([.ref q])).length) Slot.unset).toArray = ls at hl ⊢
  have hl : lv_has ls 1 [(0, .ref q)] := hl
  have z0_ := hts (.initialized RX7) (by decide +kernel)
  have z1_ := hts (.instanceMethod yX7_init) (by decide +kernel)
  refine lv_aload_n hx hb dX9_init_0 rfl (lv_at hl 0 rfl) ?_
  refine rd_v (va_runIN (As := []) (rest := []) ⟨hx, hb, hml, hown, hts⟩ (c_X7_init l D cy q _) ⟨(va_cnB 0 hts gX9_init_X7_init_n1 rfl rfl rfl (hKA.2 (.methodLinkNest RX9 1 yX7_init RX10) (by decide +kernel)) z0_ (by decide +kernel) ⟨Nat.le_of_ble_eq_true rfl, Nat.le_of_ble_eq_true rfl⟩), rfl, z1_⟩ (pS hKA pE (dE (A := A))) rfl rfl hl.1 rfl (lv_room (Nat.le_of_ble_eq_true rfl)) dX9_init_1 ⟨Nat.le_of_ble_eq_true rfl, Nat.le_of_ble_eq_true rfl⟩) hP hS hA (fun H locs hwr1 hP hS => ?_)
  exact W.vret hx hb hr (fun t ht hW => ⟨⟨(), rfl, trivial, trivial⟩, hS.F ht⟩) hS.2.2 dX9_init_4

set_option maxHeartbeats 4000000 in
set_option maxRecDepth 100000 in
theorem c_X5_init (l : Launch) (D : va_G) (cy : Nat → ClassId) (q : Nat) (sz : Nat)  : Met l yX5_init wsX5_init ({ frames := 3, cells := 0, slots := 0, locals := 52 }) (va_Pc [.ref q] (kPre D cy [] sz)) (va_Qv (fun (_ : Unit) => True) (fun _ _ => True) (fun q : Nat => sz ≤ q)) 0 0 (fun q : Nat => sz ≤ q) := by
  refine Met.ofW (cc := cX5_init) (maxL := 1) (ret := none) (by decide) rfl ?_
  intro p e s m args below meth c s₁ B hml hv
  obtain ⟨rfl, hsz, hP, hKA, hD0⟩ := hv
  have hx := B.exec
  have hb := B.bytes
  have hr := B.returns
  have hts := atoms_spec (ws := wsX5_init) B.pre
  have hown : s.vm.findClass RX5 = some m.cls := findClass_of_methodNamed B.named
  have hlocks := B.notSynchronized
  have hin : meth.name = "<init>" := (name_of_methodNamed B.named B.method).1
  subst hsz
  have hK := hKA.1
  have hD := hD0
  generalize hAe : (fun q : Nat => s.heap.size ≤ q) = A
  have hA : ∀ q : Nat, s.heap.size ≤ q → A q := fun q h => by rw [← hAe]; exact h
  have hS : va_S A s.heap s.heap [] := va_S.rf
  have hP : va_P D vwCl [] s.heap := hP
  have hl := lv_entry ([.ref q]) (n := 1) (Nat.le_of_ble_eq_true rfl)
  rw [lg_entry_eq]
  generalize (lg_sl ([.ref q]) ++ List.replicate (1 - (lg_sl ([.ref q])).length) Slot.unset).toArray = ls at hl ⊢
  have hl : lv_has ls 1 [(0, .ref q)] := hl
  have z0_ := hts (.initialized RX2) (by decide +kernel)
  have z1_ := hts (.instanceMethod yX2_init) (by decide +kernel)
  refine lv_aload_n hx hb dX5_init_0 rfl (lv_at hl 0 rfl) ?_
  refine rd_v (va_runIN (As := []) (rest := []) ⟨hx, hb, hml, hown, hts⟩ (c_X2_init l D cy q _) ⟨(va_cnB 0 hts gX5_init_X2_init_n1 rfl rfl rfl (hKA.2 (.methodLinkNest RX5 1 yX2_init RX10) (by decide +kernel)) z0_ (by decide +kernel) ⟨Nat.le_of_ble_eq_true rfl, Nat.le_of_ble_eq_true rfl⟩), rfl, z1_⟩ (pS hKA pE (dE (A := A))) rfl rfl hl.1 rfl (lv_room (Nat.le_of_ble_eq_true rfl)) dX5_init_1 ⟨Nat.le_of_ble_eq_true rfl, Nat.le_of_ble_eq_true rfl⟩) hP hS hA (fun H locs hwr1 hP hS => ?_)
  exact W.vret hx hb hr (fun t ht hW => ⟨⟨(), rfl, trivial, trivial⟩, hS.F ht⟩) hS.2.2 dX5_init_4

set_option maxHeartbeats 4000000 in
set_option maxRecDepth 100000 in
theorem c_X4_init (l : Launch) (D : va_G) (cy : Nat → ClassId) (w g : Nat) (sz : Nat)  : Met l yX4_init wsX4_init ({ frames := 4, cells := 11, slots := 88, locals := 72 }) (va_Pc [.ref w, .ref g] (kPre D cy [(w, .inr (4, [.null, .null, .null, .null, .null, .null, .null, .int 0, .long 0]))] sz)) (va_Qv (fun (_ : Nat × Nat × Nat × Nat × Nat × Nat × Nat × Nat × Nat × Nat × Nat) => True) (fun (u : Nat × Nat × Nat × Nat × Nat × Nat × Nat × Nat × Nat × Nat × Nat) t => va_P D vwCl ([(w, .inr (4, [.ref g, .ref u.1, .ref u.2.1, .ref u.2.2.1, .ref u.2.2.2.1, .ref u.2.2.2.2.1, .ref u.2.2.2.2.2.1, .int 0, .long 0])), (u.1, .inr (7, [])), (u.2.1, .inl (cy 4, 6, .inr (.inr (.inr (.inr (va_up (va_up (va_up (va_up (va_up (va_up (fun _ => none) (0 : Int32).toNatClampNeg (some u.1)) (1 : Int32).toNatClampNeg (some u.2.2.2.2.2.2.1)) (2 : Int32).toNatClampNeg (some u.2.2.2.2.2.2.2.1)) (3 : Int32).toNatClampNeg (some u.2.2.2.2.2.2.2.2.1)) (4 : Int32).toNatClampNeg (some u.2.2.2.2.2.2.2.2.2.1)) (5 : Int32).toNatClampNeg (some u.2.2.2.2.2.2.2.2.2.2))))))), (u.2.2.1, .inl (cy 1, 5, .inl (fun _ => 0))), (u.2.2.2.1, .inl (cy 1, 5, .inl (fun _ => 0))), (u.2.2.2.2.1, .inl (cy 1, 36, .inl (fun _ => 0))), (u.2.2.2.2.2.1, .inl (cy 1, 36, .inl (fun _ => 0))), (u.2.2.2.2.2.2.1, .inr (2, [])), (u.2.2.2.2.2.2.2.1, .inr (1, [])), (u.2.2.2.2.2.2.2.2.1, .inr (9, [])), (u.2.2.2.2.2.2.2.2.2.1, .inr (5, [])), (u.2.2.2.2.2.2.2.2.2.2, .inr (0, []))]) t.heap ∧ va_D (va_A [(w, .inr (4, [.null, .null, .null, .null, .null, .null, .null, .int 0, .long 0]))] sz) ([(w, .inr (4, [.ref g, .ref u.1, .ref u.2.1, .ref u.2.2.1, .ref u.2.2.2.1, .ref u.2.2.2.2.1, .ref u.2.2.2.2.2.1, .int 0, .long 0])), (u.1, .inr (7, [])), (u.2.1, .inl (cy 4, 6, .inr (.inr (.inr (.inr (va_up (va_up (va_up (va_up (va_up (va_up (fun _ => none) (0 : Int32).toNatClampNeg (some u.1)) (1 : Int32).toNatClampNeg (some u.2.2.2.2.2.2.1)) (2 : Int32).toNatClampNeg (some u.2.2.2.2.2.2.2.1)) (3 : Int32).toNatClampNeg (some u.2.2.2.2.2.2.2.2.1)) (4 : Int32).toNatClampNeg (some u.2.2.2.2.2.2.2.2.2.1)) (5 : Int32).toNatClampNeg (some u.2.2.2.2.2.2.2.2.2.2))))))), (u.2.2.1, .inl (cy 1, 5, .inl (fun _ => 0))), (u.2.2.2.1, .inl (cy 1, 5, .inl (fun _ => 0))), (u.2.2.2.2.1, .inl (cy 1, 36, .inl (fun _ => 0))), (u.2.2.2.2.2.1, .inl (cy 1, 36, .inl (fun _ => 0))), (u.2.2.2.2.2.2.1, .inr (2, [])), (u.2.2.2.2.2.2.2.1, .inr (1, [])), (u.2.2.2.2.2.2.2.2.1, .inr (9, [])), (u.2.2.2.2.2.2.2.2.2.1, .inr (5, [])), (u.2.2.2.2.2.2.2.2.2.2, .inr (0, []))])) (va_A [(w, .inr (4, [.null, .null, .null, .null, .null, .null, .null, .int 0, .long 0]))] sz)) 11 88 (va_A [(w, .inr (4, [.null, .null, .null, .null, .null, .null, .null, .int 0, .long 0]))] sz) := by
  refine Met.ofW (cc := cX4_init) (maxL := 2) (ret := none) (by decide) rfl ?_
  intro p e s m args below meth c s₁ B hml hv
  obtain ⟨rfl, hsz, hP, hKA, hD0⟩ := hv
  have hx := B.exec
  have hb := B.bytes
  have hr := B.returns
  have hts := atoms_spec (ws := wsX4_init) B.pre
  have hown : s.vm.findClass RX4 = some m.cls := findClass_of_methodNamed B.named
  have hlocks := B.notSynchronized
  have hin : meth.name = "<init>" := (name_of_methodNamed B.named B.method).1
  subst hsz
  have hK := hKA.1
  have hD := hD0.self (sz := s.heap.size)
  generalize hAe : va_A [(w, .inr (4, [.null, .null, .null, .null, .null, .null, .null, .int 0, .long 0]))] s.heap.size = A at hD ⊢
  have hA : ∀ q : Nat, s.heap.size ≤ q → A q := fun q h => by rw [← hAe]; exact Or.inr h
  have hS : va_S A s.heap s.heap [] := va_S.rf
  have hP : va_P D vwCl [(w, .inr (4, [.null, .null, .null, .null, .null, .null, .null, .int 0, .long 0]))] s.heap := hP
  have hl := lv_entry ([.ref w, .ref g]) (n := 2) (Nat.le_of_ble_eq_true rfl)
  rw [lg_entry_eq]
  generalize (lg_sl ([.ref w, .ref g]) ++ List.replicate (2 - (lg_sl ([.ref w, .ref g])).length) Slot.unset).toArray = ls at hl ⊢
  have hl : lv_has ls 2 [(0, .ref w), (1, .ref g)] := hl
  have z0_ := hts (.methodLink RX4 3 objectInit) (by decide +kernel)
  have z1_ := hts (.instanceMethod objectInit) (by decide +kernel)
  have z2_ := hts (.code objectInit ⟨#[0xb1]⟩ 1 none) (by decide +kernel)
  have z3_ := hts (.classLink RX4 9 RX7) (by decide +kernel)
  have z4_ := hts (.instantiable RX7 0) (by decide +kernel)
  have z5_ := hts (.initialized RX7) (by decide +kernel)
  have zi7_ : ∀ w ∈ u_ws RX7 TX7 0, w ∈ wsX4_init := by decide +kernel
  have z7_ := hts (.instanceMethod yX7_init) (by decide +kernel)
  have z8_ := hts (.fieldLink RX4 12 "HeardSeen$Law" "plain" "LHeardSeen$Person;") (by decide +kernel)
  have zi4_ : ∀ w ∈ u_ws RX4 TX4 9, w ∈ wsX4_init := by decide +kernel
  have z10_ := hts (.fieldLink RX4 18 "HeardSeen$Law" "kinds" "[LHeardSeen$Person;") (by decide +kernel)
  have z11_ := hts (.arrayClass .int) (by decide +kernel)
  have z12_ := hts (.fieldLink RX4 22 "HeardSeen$Law" "seenBy" "[I") (by decide +kernel)
  have z13_ := hts (.fieldLink RX4 26 "HeardSeen$Law" "heardBy" "[I") (by decide +kernel)
  have z14_ := hts (.fieldLink RX4 29 "HeardSeen$Law" "seenFrom" "[I") (by decide +kernel)
  have z15_ := hts (.fieldLink RX4 32 "HeardSeen$Law" "heardFrom" "[I") (by decide +kernel)
  have z16_ := hts (.fieldLink RX4 35 "HeardSeen$Law" "g" "LHeardSeen$Garden;") (by decide +kernel)
  have z17_ := hts (.classLink RX4 39 RX2) (by decide +kernel)
  have z18_ := hts (.instantiable RX2 0) (by decide +kernel)
  have z19_ := hts (.initialized RX2) (by decide +kernel)
  have zi2_ : ∀ w ∈ u_ws RX2 TX2 0, w ∈ wsX4_init := by decide +kernel
  have z21_ := hts (.instanceMethod yX2_init) (by decide +kernel)
  have z22_ := hts (.classLink RX4 42 RX1) (by decide +kernel)
  have z23_ := hts (.instantiable RX1 0) (by decide +kernel)
  have z24_ := hts (.initialized RX1) (by decide +kernel)
  have zi1_ : ∀ w ∈ u_ws RX1 TX1 0, w ∈ wsX4_init := by decide +kernel
  have z26_ := hts (.instanceMethod yX1_init) (by decide +kernel)
  have z27_ := hts (.classLink RX4 45 RX9) (by decide +kernel)
  have z28_ := hts (.instantiable RX9 0) (by decide +kernel)
  have z29_ := hts (.initialized RX9) (by decide +kernel)
  have zi9_ : ∀ w ∈ u_ws RX9 TX9 0, w ∈ wsX4_init := by decide +kernel
  have z31_ := hts (.instanceMethod yX9_init) (by decide +kernel)
  have z32_ := hts (.classLink RX4 48 RX5) (by decide +kernel)
  have z33_ := hts (.instantiable RX5 0) (by decide +kernel)
  have z34_ := hts (.initialized RX5) (by decide +kernel)
  have zi5_ : ∀ w ∈ u_ws RX5 TX5 0, w ∈ wsX4_init := by decide +kernel
  have z36_ := hts (.instanceMethod yX5_init) (by decide +kernel)
  have z37_ := hts (.classLink RX4 51 RX0) (by decide +kernel)
  have z38_ := hts (.instantiable RX0 0) (by decide +kernel)
  have z39_ := hts (.initialized RX0) (by decide +kernel)
  have zi0_ : ∀ w ∈ u_ws RX0 TX0 0, w ∈ wsX4_init := by decide +kernel
  have z41_ := hts (.instanceMethod yX0_init) (by decide +kernel)
  refine lv_aload_n hx hb dX4_init_0 rfl (lv_at hl 0 rfl) ?_
  refine W.objInit hx hb hown z0_ z1_ z2_ rfl (by rw [hml]; exact hl.1) rfl dX4_init_1 (Nat.le_of_ble_eq_true rfl) (Nat.le_of_ble_eq_true rfl) ?_
  refine W.eq (g2 := F0 m 4 ls []) rfl ?_
  refine lv_aload_n hx hb dX4_init_4 rfl (lv_at hl 0 rfl) ?_
  refine va_new (ci := 7) (fs := []) (C := RX7) (T := TX7) (N := 0) hx hb hts zi7_ tyX7 tyX7_ok hown z3_ z4_ z5_ hK hP hD hS hA rfl (fun j hj => absurd hj (Nat.not_lt_zero j)) (Nat.le_of_ble_eq_true rfl) (Nat.le_of_ble_eq_true rfl) dX4_init_5 (fun q1 H hP hD hS => ?_)
  have hP : va_P D vwCl [(w, .inr (4, [.null, .null, .null, .null, .null, .null, .null, .int 0, .long 0])), (q1, .inr (7, []))] H := hP
  have hD : va_D A [(w, .inr (4, [.null, .null, .null, .null, .null, .null, .null, .int 0, .long 0])), (q1, .inr (7, []))] := hD
  refine W.widen (k := 1) (n := 0) (Nat.le_of_ble_eq_true rfl) (Nat.le_of_ble_eq_true rfl) ?_
  refine lv_dup hx hb dX4_init_8 rfl ?_
  refine rd_v (va_runIN (As := []) (rest := [.ref q1, .ref w]) ⟨hx, hb, hml, hown, hts⟩ (c_X7_init l D cy q1 _) ⟨(va_cnB 0 hts gX4_init_X7_init_n11 rfl rfl rfl (hKA.2 (.methodLinkNest RX4 11 yX7_init RX10) (by decide +kernel)) z5_ (by decide +kernel) ⟨Nat.le_of_ble_eq_true rfl, Nat.le_of_ble_eq_true rfl⟩), rfl, z7_⟩ (pS hKA pE (dE (A := A))) rfl rfl hl.1 rfl (lv_room (Nat.le_of_ble_eq_true rfl)) dX4_init_9 ⟨Nat.le_of_ble_eq_true rfl, Nat.le_of_ble_eq_true rfl⟩) hP hS hA (fun H locs hwr2 hP hS => ?_)
  refine va_putF (D := D) (ci := 4) (v := .ref q1) (ty := .object "HeardSeen$Person") (C := RX4) (T := TX4) (N := 9) hx hb hts zi4_ tyX4 tyX4_ok nmX4 hown hK hP hD hS 0 rfl rfl 1 (by decide) z8_ (fun _ h9 => h9) rfl hin rfl (by decide +kernel) rfl rfl (Nat.le_of_ble_eq_true rfl) dX4_init_12 (fun H locs hP hD hS => ?_)
  have hP : va_P D vwCl [(w, .inr (4, [.null, .ref q1, .null, .null, .null, .null, .null, .int 0, .long 0])), (q1, .inr (7, []))] H := hP
  have hD : va_D A [(w, .inr (4, [.null, .ref q1, .null, .null, .null, .null, .null, .int 0, .long 0])), (q1, .inr (7, []))] := hD
  refine lv_aload_n hx hb dX4_init_15 rfl (lv_at hl 0 rfl) ?_
  refine lv_bipush (v := 6) hx hb dX4_init_16 (by decide) ?_
  refine my_newq hx hb hown z3_ (hKA.2 (.arrayOver (.object RX7)) (by decide +kernel)) hK hP hD hS hA 4 rfl (by decide) (N' := 6) (by decide +kernel) (by decide +kernel) (Nat.le_of_ble_eq_true rfl) (Nat.le_of_ble_eq_true rfl) dX4_init_18 (fun q3 H hP hD hS => ?_)
  have hP : va_P D vwCl [(w, .inr (4, [.null, .ref q1, .null, .null, .null, .null, .null, .int 0, .long 0])), (q1, .inr (7, [])), (q3, .inl (cy 4, 6, .inr (.inr (.inr (.inr (fun _ => none))))))] H := hP
  have hD : va_D A [(w, .inr (4, [.null, .ref q1, .null, .null, .null, .null, .null, .int 0, .long 0])), (q1, .inr (7, [])), (q3, .inl (cy 4, 6, .inr (.inr (.inr (.inr (fun _ => none))))))] := hD
  refine W.widen (k := 2) (n := 6) (Nat.le_of_ble_eq_true rfl) (Nat.le_of_ble_eq_true rfl) ?_
  refine va_putF (D := D) (ci := 4) (v := .ref q3) (ty := .array (.object "HeardSeen$Person")) (C := RX4) (T := TX4) (N := 9) hx hb hts zi4_ tyX4 tyX4_ok nmX4 hown hK hP hD hS 0 rfl rfl 2 (by decide) z10_ (fun _ h9 => h9) rfl hin rfl (by decide +kernel) rfl rfl (Nat.le_of_ble_eq_true rfl) dX4_init_21 (fun H locs hP hD hS => ?_)
  have hP : va_P D vwCl [(w, .inr (4, [.null, .ref q1, .ref q3, .null, .null, .null, .null, .int 0, .long 0])), (q1, .inr (7, [])), (q3, .inl (cy 4, 6, .inr (.inr (.inr (.inr (fun _ => none))))))] H := hP
  have hD : va_D A [(w, .inr (4, [.null, .ref q1, .ref q3, .null, .null, .null, .null, .int 0, .long 0])), (q1, .inr (7, [])), (q3, .inl (cy 4, 6, .inr (.inr (.inr (.inr (fun _ => none))))))] := hD
  refine lv_aload_n hx hb dX4_init_24 rfl (lv_at hl 0 rfl) ?_
  refine lv_iconst (v := 5) hx hb dX4_init_25 (by decide) ?_
  refine my_newa (atype := .int) (ty := .int) (N' := 5) (a0 := (5, .inl (fun _ => 0))) hx hb z11_ rfl hK hP hD hS hA 1 rfl (a0I 5) (by decide) (by decide +kernel) (by decide +kernel) (Nat.le_of_ble_eq_true rfl) (Nat.le_of_ble_eq_true rfl) dX4_init_26 (fun q4 H hP hD hS => ?_)
  have hP : va_P D vwCl [(w, .inr (4, [.null, .ref q1, .ref q3, .null, .null, .null, .null, .int 0, .long 0])), (q1, .inr (7, [])), (q3, .inl (cy 4, 6, .inr (.inr (.inr (.inr (fun _ => none)))))), (q4, .inl (cy 1, 5, .inl (fun _ => 0)))] H := hP
  have hD : va_D A [(w, .inr (4, [.null, .ref q1, .ref q3, .null, .null, .null, .null, .int 0, .long 0])), (q1, .inr (7, [])), (q3, .inl (cy 4, 6, .inr (.inr (.inr (.inr (fun _ => none)))))), (q4, .inl (cy 1, 5, .inl (fun _ => 0)))] := hD
  refine W.widen (k := 3) (n := 11) (Nat.le_of_ble_eq_true rfl) (Nat.le_of_ble_eq_true rfl) ?_
  refine va_putF (D := D) (ci := 4) (v := .ref q4) (ty := .array .int) (C := RX4) (T := TX4) (N := 9) hx hb hts zi4_ tyX4 tyX4_ok nmX4 hown hK hP hD hS 0 rfl rfl 3 (by decide) z12_ (fun _ h9 => h9) rfl hin rfl (by decide +kernel) rfl rfl (Nat.le_of_ble_eq_true rfl) dX4_init_28 (fun H locs hP hD hS => ?_)
  have hP : va_P D vwCl [(w, .inr (4, [.null, .ref q1, .ref q3, .ref q4, .null, .null, .null, .int 0, .long 0])), (q1, .inr (7, [])), (q3, .inl (cy 4, 6, .inr (.inr (.inr (.inr (fun _ => none)))))), (q4, .inl (cy 1, 5, .inl (fun _ => 0)))] H := hP
  have hD : va_D A [(w, .inr (4, [.null, .ref q1, .ref q3, .ref q4, .null, .null, .null, .int 0, .long 0])), (q1, .inr (7, [])), (q3, .inl (cy 4, 6, .inr (.inr (.inr (.inr (fun _ => none)))))), (q4, .inl (cy 1, 5, .inl (fun _ => 0)))] := hD
  refine lv_aload_n hx hb dX4_init_31 rfl (lv_at hl 0 rfl) ?_
  refine lv_iconst (v := 5) hx hb dX4_init_32 (by decide) ?_
  refine my_newa (atype := .int) (ty := .int) (N' := 5) (a0 := (5, .inl (fun _ => 0))) hx hb z11_ rfl hK hP hD hS hA 1 rfl (a0I 5) (by decide) (by decide +kernel) (by decide +kernel) (Nat.le_of_ble_eq_true rfl) (Nat.le_of_ble_eq_true rfl) dX4_init_33 (fun q5 H hP hD hS => ?_)
  have hP : va_P D vwCl [(w, .inr (4, [.null, .ref q1, .ref q3, .ref q4, .null, .null, .null, .int 0, .long 0])), (q1, .inr (7, [])), (q3, .inl (cy 4, 6, .inr (.inr (.inr (.inr (fun _ => none)))))), (q4, .inl (cy 1, 5, .inl (fun _ => 0))), (q5, .inl (cy 1, 5, .inl (fun _ => 0)))] H := hP
  have hD : va_D A [(w, .inr (4, [.null, .ref q1, .ref q3, .ref q4, .null, .null, .null, .int 0, .long 0])), (q1, .inr (7, [])), (q3, .inl (cy 4, 6, .inr (.inr (.inr (.inr (fun _ => none)))))), (q4, .inl (cy 1, 5, .inl (fun _ => 0))), (q5, .inl (cy 1, 5, .inl (fun _ => 0)))] := hD
  refine W.widen (k := 4) (n := 16) (Nat.le_of_ble_eq_true rfl) (Nat.le_of_ble_eq_true rfl) ?_
  refine va_putF (D := D) (ci := 4) (v := .ref q5) (ty := .array .int) (C := RX4) (T := TX4) (N := 9) hx hb hts zi4_ tyX4 tyX4_ok nmX4 hown hK hP hD hS 0 rfl rfl 4 (by decide) z13_ (fun _ h9 => h9) rfl hin rfl (by decide +kernel) rfl rfl (Nat.le_of_ble_eq_true rfl) dX4_init_35 (fun H locs hP hD hS => ?_)
  have hP : va_P D vwCl [(w, .inr (4, [.null, .ref q1, .ref q3, .ref q4, .ref q5, .null, .null, .int 0, .long 0])), (q1, .inr (7, [])), (q3, .inl (cy 4, 6, .inr (.inr (.inr (.inr (fun _ => none)))))), (q4, .inl (cy 1, 5, .inl (fun _ => 0))), (q5, .inl (cy 1, 5, .inl (fun _ => 0)))] H := hP
  have hD : va_D A [(w, .inr (4, [.null, .ref q1, .ref q3, .ref q4, .ref q5, .null, .null, .int 0, .long 0])), (q1, .inr (7, [])), (q3, .inl (cy 4, 6, .inr (.inr (.inr (.inr (fun _ => none)))))), (q4, .inl (cy 1, 5, .inl (fun _ => 0))), (q5, .inl (cy 1, 5, .inl (fun _ => 0)))] := hD
  refine lv_aload_n hx hb dX4_init_38 rfl (lv_at hl 0 rfl) ?_
  refine lv_bipush (v := 36) hx hb dX4_init_39 (by decide) ?_
  refine my_newa (atype := .int) (ty := .int) (N' := 36) (a0 := (36, .inl (fun _ => 0))) hx hb z11_ rfl hK hP hD hS hA 1 rfl (a0I 36) (by decide) (by decide +kernel) (by decide +kernel) (Nat.le_of_ble_eq_true rfl) (Nat.le_of_ble_eq_true rfl) dX4_init_41 (fun q6 H hP hD hS => ?_)
  have hP : va_P D vwCl [(w, .inr (4, [.null, .ref q1, .ref q3, .ref q4, .ref q5, .null, .null, .int 0, .long 0])), (q1, .inr (7, [])), (q3, .inl (cy 4, 6, .inr (.inr (.inr (.inr (fun _ => none)))))), (q4, .inl (cy 1, 5, .inl (fun _ => 0))), (q5, .inl (cy 1, 5, .inl (fun _ => 0))), (q6, .inl (cy 1, 36, .inl (fun _ => 0)))] H := hP
  have hD : va_D A [(w, .inr (4, [.null, .ref q1, .ref q3, .ref q4, .ref q5, .null, .null, .int 0, .long 0])), (q1, .inr (7, [])), (q3, .inl (cy 4, 6, .inr (.inr (.inr (.inr (fun _ => none)))))), (q4, .inl (cy 1, 5, .inl (fun _ => 0))), (q5, .inl (cy 1, 5, .inl (fun _ => 0))), (q6, .inl (cy 1, 36, .inl (fun _ => 0)))] := hD
  refine W.widen (k := 5) (n := 52) (Nat.le_of_ble_eq_true rfl) (Nat.le_of_ble_eq_true rfl) ?_
  refine va_putF (D := D) (ci := 4) (v := .ref q6) (ty := .array .int) (C := RX4) (T := TX4) (N := 9) hx hb hts zi4_ tyX4 tyX4_ok nmX4 hown hK hP hD hS 0 rfl rfl 5 (by decide) z14_ (fun _ h9 => h9) rfl hin rfl (by decide +kernel) rfl rfl (Nat.le_of_ble_eq_true rfl) dX4_init_43 (fun H locs hP hD hS => ?_)
  have hP : va_P D vwCl [(w, .inr (4, [.null, .ref q1, .ref q3, .ref q4, .ref q5, .ref q6, .null, .int 0, .long 0])), (q1, .inr (7, [])), (q3, .inl (cy 4, 6, .inr (.inr (.inr (.inr (fun _ => none)))))), (q4, .inl (cy 1, 5, .inl (fun _ => 0))), (q5, .inl (cy 1, 5, .inl (fun _ => 0))), (q6, .inl (cy 1, 36, .inl (fun _ => 0)))] H := hP
  have hD : va_D A [(w, .inr (4, [.null, .ref q1, .ref q3, .ref q4, .ref q5, .ref q6, .null, .int 0, .long 0])), (q1, .inr (7, [])), (q3, .inl (cy 4, 6, .inr (.inr (.inr (.inr (fun _ => none)))))), (q4, .inl (cy 1, 5, .inl (fun _ => 0))), (q5, .inl (cy 1, 5, .inl (fun _ => 0))), (q6, .inl (cy 1, 36, .inl (fun _ => 0)))] := hD
  refine lv_aload_n hx hb dX4_init_46 rfl (lv_at hl 0 rfl) ?_
  refine lv_bipush (v := 36) hx hb dX4_init_47 (by decide) ?_
  refine my_newa (atype := .int) (ty := .int) (N' := 36) (a0 := (36, .inl (fun _ => 0))) hx hb z11_ rfl hK hP hD hS hA 1 rfl (a0I 36) (by decide) (by decide +kernel) (by decide +kernel) (Nat.le_of_ble_eq_true rfl) (Nat.le_of_ble_eq_true rfl) dX4_init_49 (fun q7 H hP hD hS => ?_)
  have hP : va_P D vwCl [(w, .inr (4, [.null, .ref q1, .ref q3, .ref q4, .ref q5, .ref q6, .null, .int 0, .long 0])), (q1, .inr (7, [])), (q3, .inl (cy 4, 6, .inr (.inr (.inr (.inr (fun _ => none)))))), (q4, .inl (cy 1, 5, .inl (fun _ => 0))), (q5, .inl (cy 1, 5, .inl (fun _ => 0))), (q6, .inl (cy 1, 36, .inl (fun _ => 0))), (q7, .inl (cy 1, 36, .inl (fun _ => 0)))] H := hP
  have hD : va_D A [(w, .inr (4, [.null, .ref q1, .ref q3, .ref q4, .ref q5, .ref q6, .null, .int 0, .long 0])), (q1, .inr (7, [])), (q3, .inl (cy 4, 6, .inr (.inr (.inr (.inr (fun _ => none)))))), (q4, .inl (cy 1, 5, .inl (fun _ => 0))), (q5, .inl (cy 1, 5, .inl (fun _ => 0))), (q6, .inl (cy 1, 36, .inl (fun _ => 0))), (q7, .inl (cy 1, 36, .inl (fun _ => 0)))] := hD
  refine W.widen (k := 6) (n := 88) (Nat.le_of_ble_eq_true rfl) (Nat.le_of_ble_eq_true rfl) ?_
  refine va_putF (D := D) (ci := 4) (v := .ref q7) (ty := .array .int) (C := RX4) (T := TX4) (N := 9) hx hb hts zi4_ tyX4 tyX4_ok nmX4 hown hK hP hD hS 0 rfl rfl 6 (by decide) z15_ (fun _ h9 => h9) rfl hin rfl (by decide +kernel) rfl rfl (Nat.le_of_ble_eq_true rfl) dX4_init_51 (fun H locs hP hD hS => ?_)
  have hP : va_P D vwCl [(w, .inr (4, [.null, .ref q1, .ref q3, .ref q4, .ref q5, .ref q6, .ref q7, .int 0, .long 0])), (q1, .inr (7, [])), (q3, .inl (cy 4, 6, .inr (.inr (.inr (.inr (fun _ => none)))))), (q4, .inl (cy 1, 5, .inl (fun _ => 0))), (q5, .inl (cy 1, 5, .inl (fun _ => 0))), (q6, .inl (cy 1, 36, .inl (fun _ => 0))), (q7, .inl (cy 1, 36, .inl (fun _ => 0)))] H := hP
  have hD : va_D A [(w, .inr (4, [.null, .ref q1, .ref q3, .ref q4, .ref q5, .ref q6, .ref q7, .int 0, .long 0])), (q1, .inr (7, [])), (q3, .inl (cy 4, 6, .inr (.inr (.inr (.inr (fun _ => none)))))), (q4, .inl (cy 1, 5, .inl (fun _ => 0))), (q5, .inl (cy 1, 5, .inl (fun _ => 0))), (q6, .inl (cy 1, 36, .inl (fun _ => 0))), (q7, .inl (cy 1, 36, .inl (fun _ => 0)))] := hD
  refine lv_aload_n hx hb dX4_init_54 rfl (lv_at hl 0 rfl) ?_
  refine lv_aload_n hx hb dX4_init_55 rfl (lv_at hl 1 rfl) ?_
  refine va_putF (D := D) (ci := 4) (v := .ref g) (ty := .object "HeardSeen$Garden") (C := RX4) (T := TX4) (N := 9) hx hb hts zi4_ tyX4 tyX4_ok nmX4 hown hK hP hD hS 0 rfl rfl 0 (by decide) z16_ (fun _ h9 => h9) rfl hin rfl (by decide +kernel) rfl rfl (Nat.le_of_ble_eq_true rfl) dX4_init_56 (fun H locs hP hD hS => ?_)
  have hP : va_P D vwCl [(w, .inr (4, [.ref g, .ref q1, .ref q3, .ref q4, .ref q5, .ref q6, .ref q7, .int 0, .long 0])), (q1, .inr (7, [])), (q3, .inl (cy 4, 6, .inr (.inr (.inr (.inr (fun _ => none)))))), (q4, .inl (cy 1, 5, .inl (fun _ => 0))), (q5, .inl (cy 1, 5, .inl (fun _ => 0))), (q6, .inl (cy 1, 36, .inl (fun _ => 0))), (q7, .inl (cy 1, 36, .inl (fun _ => 0)))] H := hP
  have hD : va_D A [(w, .inr (4, [.ref g, .ref q1, .ref q3, .ref q4, .ref q5, .ref q6, .ref q7, .int 0, .long 0])), (q1, .inr (7, [])), (q3, .inl (cy 4, 6, .inr (.inr (.inr (.inr (fun _ => none)))))), (q4, .inl (cy 1, 5, .inl (fun _ => 0))), (q5, .inl (cy 1, 5, .inl (fun _ => 0))), (q6, .inl (cy 1, 36, .inl (fun _ => 0))), (q7, .inl (cy 1, 36, .inl (fun _ => 0)))] := hD
  refine lv_aload_n hx hb dX4_init_59 rfl (lv_at hl 0 rfl) ?_
  refine va_get (D := D) (ci := 4) (v := .ref q3) (C := RX4) (T := TX4) (N := 9) hx hb hts zi4_ hown hK hP 0 rfl rfl 2 (by decide) z10_ (fun _ h9 => h9) rfl dX4_init_60 ?_
  refine lv_iconst (v := 0) hx hb dX4_init_63 (by decide) ?_
  refine lv_aload_n hx hb dX4_init_64 rfl (lv_at hl 0 rfl) ?_
  refine va_get (D := D) (ci := 4) (v := .ref q1) (C := RX4) (T := TX4) (N := 9) hx hb hts zi4_ hown hK hP 0 rfl rfl 1 (by decide) z8_ (fun _ h9 => h9) rfl dX4_init_65 ?_
  refine va_astq hx hb hK hP hD hS 2 4 1 7 rfl rfl rfl rfl (by rw [vp_in_iff]; decide +kernel) dX4_init_68 (fun H locs hP hD hS => ?_)
  have hP : va_P D vwCl [(w, .inr (4, [.ref g, .ref q1, .ref q3, .ref q4, .ref q5, .ref q6, .ref q7, .int 0, .long 0])), (q1, .inr (7, [])), (q3, .inl (cy 4, 6, .inr (.inr (.inr (.inr (va_up (fun _ => none) (0 : Int32).toNatClampNeg (some q1))))))), (q4, .inl (cy 1, 5, .inl (fun _ => 0))), (q5, .inl (cy 1, 5, .inl (fun _ => 0))), (q6, .inl (cy 1, 36, .inl (fun _ => 0))), (q7, .inl (cy 1, 36, .inl (fun _ => 0)))] H := hP
  have hD : va_D A [(w, .inr (4, [.ref g, .ref q1, .ref q3, .ref q4, .ref q5, .ref q6, .ref q7, .int 0, .long 0])), (q1, .inr (7, [])), (q3, .inl (cy 4, 6, .inr (.inr (.inr (.inr (va_up (fun _ => none) (0 : Int32).toNatClampNeg (some q1))))))), (q4, .inl (cy 1, 5, .inl (fun _ => 0))), (q5, .inl (cy 1, 5, .inl (fun _ => 0))), (q6, .inl (cy 1, 36, .inl (fun _ => 0))), (q7, .inl (cy 1, 36, .inl (fun _ => 0)))] := hD
  refine lv_aload_n hx hb dX4_init_69 rfl (lv_at hl 0 rfl) ?_
  refine va_get (D := D) (ci := 4) (v := .ref q3) (C := RX4) (T := TX4) (N := 9) hx hb hts zi4_ hown hK hP 0 rfl rfl 2 (by decide) z10_ (fun _ h9 => h9) rfl dX4_init_70 ?_
  refine lv_iconst (v := 1) hx hb dX4_init_73 (by decide) ?_
  refine va_new (ci := 2) (fs := []) (C := RX2) (T := TX2) (N := 0) hx hb hts zi2_ tyX2 tyX2_ok hown z17_ z18_ z19_ hK hP hD hS hA rfl (fun j hj => absurd hj (Nat.not_lt_zero j)) (Nat.le_of_ble_eq_true rfl) (Nat.le_of_ble_eq_true rfl) dX4_init_74 (fun q8 H hP hD hS => ?_)
  have hP : va_P D vwCl [(w, .inr (4, [.ref g, .ref q1, .ref q3, .ref q4, .ref q5, .ref q6, .ref q7, .int 0, .long 0])), (q1, .inr (7, [])), (q3, .inl (cy 4, 6, .inr (.inr (.inr (.inr (va_up (fun _ => none) (0 : Int32).toNatClampNeg (some q1))))))), (q4, .inl (cy 1, 5, .inl (fun _ => 0))), (q5, .inl (cy 1, 5, .inl (fun _ => 0))), (q6, .inl (cy 1, 36, .inl (fun _ => 0))), (q7, .inl (cy 1, 36, .inl (fun _ => 0))), (q8, .inr (2, []))] H := hP
  have hD : va_D A [(w, .inr (4, [.ref g, .ref q1, .ref q3, .ref q4, .ref q5, .ref q6, .ref q7, .int 0, .long 0])), (q1, .inr (7, [])), (q3, .inl (cy 4, 6, .inr (.inr (.inr (.inr (va_up (fun _ => none) (0 : Int32).toNatClampNeg (some q1))))))), (q4, .inl (cy 1, 5, .inl (fun _ => 0))), (q5, .inl (cy 1, 5, .inl (fun _ => 0))), (q6, .inl (cy 1, 36, .inl (fun _ => 0))), (q7, .inl (cy 1, 36, .inl (fun _ => 0))), (q8, .inr (2, []))] := hD
  refine W.widen (k := 7) (n := 88) (Nat.le_of_ble_eq_true rfl) (Nat.le_of_ble_eq_true rfl) ?_
  refine lv_dup hx hb dX4_init_77 rfl ?_
  refine rd_v (va_runIN (As := []) (rest := [.ref q8, .int 1, .ref q3]) ⟨hx, hb, hml, hown, hts⟩ (c_X2_init l D cy q8 _) ⟨(va_cnB 0 hts gX4_init_X2_init_n41 rfl rfl rfl (hKA.2 (.methodLinkNest RX4 41 yX2_init RX10) (by decide +kernel)) z19_ (by decide +kernel) ⟨Nat.le_of_ble_eq_true rfl, Nat.le_of_ble_eq_true rfl⟩), rfl, z21_⟩ (pS hKA pE (dE (A := A))) rfl rfl hl.1 rfl (lv_room (Nat.le_of_ble_eq_true rfl)) dX4_init_78 ⟨Nat.le_of_ble_eq_true rfl, Nat.le_of_ble_eq_true rfl⟩) hP hS hA (fun H locs hwr9 hP hS => ?_)
  refine va_astqO hx hb hK hP hD hS 2 4 7 2 rfl rfl (hKA.2 (.castable RX2 RX7) (by decide +kernel)) rfl rfl (by rw [vp_in_iff]; decide +kernel) dX4_init_81 (fun H locs hP hD hS => ?_)
  have hP : va_P D vwCl [(w, .inr (4, [.ref g, .ref q1, .ref q3, .ref q4, .ref q5, .ref q6, .ref q7, .int 0, .long 0])), (q1, .inr (7, [])), (q3, .inl (cy 4, 6, .inr (.inr (.inr (.inr (va_up (va_up (fun _ => none) (0 : Int32).toNatClampNeg (some q1)) (1 : Int32).toNatClampNeg (some q8))))))), (q4, .inl (cy 1, 5, .inl (fun _ => 0))), (q5, .inl (cy 1, 5, .inl (fun _ => 0))), (q6, .inl (cy 1, 36, .inl (fun _ => 0))), (q7, .inl (cy 1, 36, .inl (fun _ => 0))), (q8, .inr (2, []))] H := hP
  have hD : va_D A [(w, .inr (4, [.ref g, .ref q1, .ref q3, .ref q4, .ref q5, .ref q6, .ref q7, .int 0, .long 0])), (q1, .inr (7, [])), (q3, .inl (cy 4, 6, .inr (.inr (.inr (.inr (va_up (va_up (fun _ => none) (0 : Int32).toNatClampNeg (some q1)) (1 : Int32).toNatClampNeg (some q8))))))), (q4, .inl (cy 1, 5, .inl (fun _ => 0))), (q5, .inl (cy 1, 5, .inl (fun _ => 0))), (q6, .inl (cy 1, 36, .inl (fun _ => 0))), (q7, .inl (cy 1, 36, .inl (fun _ => 0))), (q8, .inr (2, []))] := hD
  refine lv_aload_n hx hb dX4_init_82 rfl (lv_at hl 0 rfl) ?_
  refine va_get (D := D) (ci := 4) (v := .ref q3) (C := RX4) (T := TX4) (N := 9) hx hb hts zi4_ hown hK hP 0 rfl rfl 2 (by decide) z10_ (fun _ h9 => h9) rfl dX4_init_83 ?_
  refine lv_iconst (v := 2) hx hb dX4_init_86 (by decide) ?_
  refine va_new (ci := 1) (fs := []) (C := RX1) (T := TX1) (N := 0) hx hb hts zi1_ tyX1 tyX1_ok hown z22_ z23_ z24_ hK hP hD hS hA rfl (fun j hj => absurd hj (Nat.not_lt_zero j)) (Nat.le_of_ble_eq_true rfl) (Nat.le_of_ble_eq_true rfl) dX4_init_87 (fun q10 H hP hD hS => ?_)
  have hP : va_P D vwCl [(w, .inr (4, [.ref g, .ref q1, .ref q3, .ref q4, .ref q5, .ref q6, .ref q7, .int 0, .long 0])), (q1, .inr (7, [])), (q3, .inl (cy 4, 6, .inr (.inr (.inr (.inr (va_up (va_up (fun _ => none) (0 : Int32).toNatClampNeg (some q1)) (1 : Int32).toNatClampNeg (some q8))))))), (q4, .inl (cy 1, 5, .inl (fun _ => 0))), (q5, .inl (cy 1, 5, .inl (fun _ => 0))), (q6, .inl (cy 1, 36, .inl (fun _ => 0))), (q7, .inl (cy 1, 36, .inl (fun _ => 0))), (q8, .inr (2, [])), (q10, .inr (1, []))] H := hP
  have hD : va_D A [(w, .inr (4, [.ref g, .ref q1, .ref q3, .ref q4, .ref q5, .ref q6, .ref q7, .int 0, .long 0])), (q1, .inr (7, [])), (q3, .inl (cy 4, 6, .inr (.inr (.inr (.inr (va_up (va_up (fun _ => none) (0 : Int32).toNatClampNeg (some q1)) (1 : Int32).toNatClampNeg (some q8))))))), (q4, .inl (cy 1, 5, .inl (fun _ => 0))), (q5, .inl (cy 1, 5, .inl (fun _ => 0))), (q6, .inl (cy 1, 36, .inl (fun _ => 0))), (q7, .inl (cy 1, 36, .inl (fun _ => 0))), (q8, .inr (2, [])), (q10, .inr (1, []))] := hD
  refine W.widen (k := 8) (n := 88) (Nat.le_of_ble_eq_true rfl) (Nat.le_of_ble_eq_true rfl) ?_
  refine lv_dup hx hb dX4_init_90 rfl ?_
  refine rd_v (va_runIN (As := []) (rest := [.ref q10, .int 2, .ref q3]) ⟨hx, hb, hml, hown, hts⟩ (c_X1_init l D cy q10 _) ⟨(va_cnB 0 hts gX4_init_X1_init_n44 rfl rfl rfl (hKA.2 (.methodLinkNest RX4 44 yX1_init RX10) (by decide +kernel)) z24_ (by decide +kernel) ⟨Nat.le_of_ble_eq_true rfl, Nat.le_of_ble_eq_true rfl⟩), rfl, z26_⟩ (pS hKA pE (dE (A := A))) rfl rfl hl.1 rfl (lv_room (Nat.le_of_ble_eq_true rfl)) dX4_init_91 ⟨Nat.le_of_ble_eq_true rfl, Nat.le_of_ble_eq_true rfl⟩) hP hS hA (fun H locs hwr11 hP hS => ?_)
  refine va_astqO hx hb hK hP hD hS 2 4 8 1 rfl rfl (hKA.2 (.castable RX1 RX7) (by decide +kernel)) rfl rfl (by rw [vp_in_iff]; decide +kernel) dX4_init_94 (fun H locs hP hD hS => ?_)
  have hP : va_P D vwCl [(w, .inr (4, [.ref g, .ref q1, .ref q3, .ref q4, .ref q5, .ref q6, .ref q7, .int 0, .long 0])), (q1, .inr (7, [])), (q3, .inl (cy 4, 6, .inr (.inr (.inr (.inr (va_up (va_up (va_up (fun _ => none) (0 : Int32).toNatClampNeg (some q1)) (1 : Int32).toNatClampNeg (some q8)) (2 : Int32).toNatClampNeg (some q10))))))), (q4, .inl (cy 1, 5, .inl (fun _ => 0))), (q5, .inl (cy 1, 5, .inl (fun _ => 0))), (q6, .inl (cy 1, 36, .inl (fun _ => 0))), (q7, .inl (cy 1, 36, .inl (fun _ => 0))), (q8, .inr (2, [])), (q10, .inr (1, []))] H := hP
  have hD : va_D A [(w, .inr (4, [.ref g, .ref q1, .ref q3, .ref q4, .ref q5, .ref q6, .ref q7, .int 0, .long 0])), (q1, .inr (7, [])), (q3, .inl (cy 4, 6, .inr (.inr (.inr (.inr (va_up (va_up (va_up (fun _ => none) (0 : Int32).toNatClampNeg (some q1)) (1 : Int32).toNatClampNeg (some q8)) (2 : Int32).toNatClampNeg (some q10))))))), (q4, .inl (cy 1, 5, .inl (fun _ => 0))), (q5, .inl (cy 1, 5, .inl (fun _ => 0))), (q6, .inl (cy 1, 36, .inl (fun _ => 0))), (q7, .inl (cy 1, 36, .inl (fun _ => 0))), (q8, .inr (2, [])), (q10, .inr (1, []))] := hD
  refine lv_aload_n hx hb dX4_init_95 rfl (lv_at hl 0 rfl) ?_
  refine va_get (D := D) (ci := 4) (v := .ref q3) (C := RX4) (T := TX4) (N := 9) hx hb hts zi4_ hown hK hP 0 rfl rfl 2 (by decide) z10_ (fun _ h9 => h9) rfl dX4_init_96 ?_
  refine lv_iconst (v := 3) hx hb dX4_init_99 (by decide) ?_
  refine va_new (ci := 9) (fs := []) (C := RX9) (T := TX9) (N := 0) hx hb hts zi9_ tyX9 tyX9_ok hown z27_ z28_ z29_ hK hP hD hS hA rfl (fun j hj => absurd hj (Nat.not_lt_zero j)) (Nat.le_of_ble_eq_true rfl) (Nat.le_of_ble_eq_true rfl) dX4_init_100 (fun q12 H hP hD hS => ?_)
  have hP : va_P D vwCl [(w, .inr (4, [.ref g, .ref q1, .ref q3, .ref q4, .ref q5, .ref q6, .ref q7, .int 0, .long 0])), (q1, .inr (7, [])), (q3, .inl (cy 4, 6, .inr (.inr (.inr (.inr (va_up (va_up (va_up (fun _ => none) (0 : Int32).toNatClampNeg (some q1)) (1 : Int32).toNatClampNeg (some q8)) (2 : Int32).toNatClampNeg (some q10))))))), (q4, .inl (cy 1, 5, .inl (fun _ => 0))), (q5, .inl (cy 1, 5, .inl (fun _ => 0))), (q6, .inl (cy 1, 36, .inl (fun _ => 0))), (q7, .inl (cy 1, 36, .inl (fun _ => 0))), (q8, .inr (2, [])), (q10, .inr (1, [])), (q12, .inr (9, []))] H := hP
  have hD : va_D A [(w, .inr (4, [.ref g, .ref q1, .ref q3, .ref q4, .ref q5, .ref q6, .ref q7, .int 0, .long 0])), (q1, .inr (7, [])), (q3, .inl (cy 4, 6, .inr (.inr (.inr (.inr (va_up (va_up (va_up (fun _ => none) (0 : Int32).toNatClampNeg (some q1)) (1 : Int32).toNatClampNeg (some q8)) (2 : Int32).toNatClampNeg (some q10))))))), (q4, .inl (cy 1, 5, .inl (fun _ => 0))), (q5, .inl (cy 1, 5, .inl (fun _ => 0))), (q6, .inl (cy 1, 36, .inl (fun _ => 0))), (q7, .inl (cy 1, 36, .inl (fun _ => 0))), (q8, .inr (2, [])), (q10, .inr (1, [])), (q12, .inr (9, []))] := hD
  refine W.widen (k := 9) (n := 88) (Nat.le_of_ble_eq_true rfl) (Nat.le_of_ble_eq_true rfl) ?_
  refine lv_dup hx hb dX4_init_103 rfl ?_
  refine rd_v (va_runIN (As := []) (rest := [.ref q12, .int 3, .ref q3]) ⟨hx, hb, hml, hown, hts⟩ (c_X9_init l D cy q12 _) ⟨(va_cnB 0 hts gX4_init_X9_init_n47 rfl rfl rfl (hKA.2 (.methodLinkNest RX4 47 yX9_init RX10) (by decide +kernel)) z29_ (by decide +kernel) ⟨Nat.le_of_ble_eq_true rfl, Nat.le_of_ble_eq_true rfl⟩), rfl, z31_⟩ (pS hKA pE (dE (A := A))) rfl rfl hl.1 rfl (lv_room (Nat.le_of_ble_eq_true rfl)) dX4_init_104 ⟨Nat.le_of_ble_eq_true rfl, Nat.le_of_ble_eq_true rfl⟩) hP hS hA (fun H locs hwr13 hP hS => ?_)
  refine va_astqO hx hb hK hP hD hS 2 4 9 9 rfl rfl (hKA.2 (.castable RX9 RX7) (by decide +kernel)) rfl rfl (by rw [vp_in_iff]; decide +kernel) dX4_init_107 (fun H locs hP hD hS => ?_)
  have hP : va_P D vwCl [(w, .inr (4, [.ref g, .ref q1, .ref q3, .ref q4, .ref q5, .ref q6, .ref q7, .int 0, .long 0])), (q1, .inr (7, [])), (q3, .inl (cy 4, 6, .inr (.inr (.inr (.inr (va_up (va_up (va_up (va_up (fun _ => none) (0 : Int32).toNatClampNeg (some q1)) (1 : Int32).toNatClampNeg (some q8)) (2 : Int32).toNatClampNeg (some q10)) (3 : Int32).toNatClampNeg (some q12))))))), (q4, .inl (cy 1, 5, .inl (fun _ => 0))), (q5, .inl (cy 1, 5, .inl (fun _ => 0))), (q6, .inl (cy 1, 36, .inl (fun _ => 0))), (q7, .inl (cy 1, 36, .inl (fun _ => 0))), (q8, .inr (2, [])), (q10, .inr (1, [])), (q12, .inr (9, []))] H := hP
  have hD : va_D A [(w, .inr (4, [.ref g, .ref q1, .ref q3, .ref q4, .ref q5, .ref q6, .ref q7, .int 0, .long 0])), (q1, .inr (7, [])), (q3, .inl (cy 4, 6, .inr (.inr (.inr (.inr (va_up (va_up (va_up (va_up (fun _ => none) (0 : Int32).toNatClampNeg (some q1)) (1 : Int32).toNatClampNeg (some q8)) (2 : Int32).toNatClampNeg (some q10)) (3 : Int32).toNatClampNeg (some q12))))))), (q4, .inl (cy 1, 5, .inl (fun _ => 0))), (q5, .inl (cy 1, 5, .inl (fun _ => 0))), (q6, .inl (cy 1, 36, .inl (fun _ => 0))), (q7, .inl (cy 1, 36, .inl (fun _ => 0))), (q8, .inr (2, [])), (q10, .inr (1, [])), (q12, .inr (9, []))] := hD
  refine lv_aload_n hx hb dX4_init_108 rfl (lv_at hl 0 rfl) ?_
  refine va_get (D := D) (ci := 4) (v := .ref q3) (C := RX4) (T := TX4) (N := 9) hx hb hts zi4_ hown hK hP 0 rfl rfl 2 (by decide) z10_ (fun _ h9 => h9) rfl dX4_init_109 ?_
  refine lv_iconst (v := 4) hx hb dX4_init_112 (by decide) ?_
  refine va_new (ci := 5) (fs := []) (C := RX5) (T := TX5) (N := 0) hx hb hts zi5_ tyX5 tyX5_ok hown z32_ z33_ z34_ hK hP hD hS hA rfl (fun j hj => absurd hj (Nat.not_lt_zero j)) (Nat.le_of_ble_eq_true rfl) (Nat.le_of_ble_eq_true rfl) dX4_init_113 (fun q14 H hP hD hS => ?_)
  have hP : va_P D vwCl [(w, .inr (4, [.ref g, .ref q1, .ref q3, .ref q4, .ref q5, .ref q6, .ref q7, .int 0, .long 0])), (q1, .inr (7, [])), (q3, .inl (cy 4, 6, .inr (.inr (.inr (.inr (va_up (va_up (va_up (va_up (fun _ => none) (0 : Int32).toNatClampNeg (some q1)) (1 : Int32).toNatClampNeg (some q8)) (2 : Int32).toNatClampNeg (some q10)) (3 : Int32).toNatClampNeg (some q12))))))), (q4, .inl (cy 1, 5, .inl (fun _ => 0))), (q5, .inl (cy 1, 5, .inl (fun _ => 0))), (q6, .inl (cy 1, 36, .inl (fun _ => 0))), (q7, .inl (cy 1, 36, .inl (fun _ => 0))), (q8, .inr (2, [])), (q10, .inr (1, [])), (q12, .inr (9, [])), (q14, .inr (5, []))] H := hP
  have hD : va_D A [(w, .inr (4, [.ref g, .ref q1, .ref q3, .ref q4, .ref q5, .ref q6, .ref q7, .int 0, .long 0])), (q1, .inr (7, [])), (q3, .inl (cy 4, 6, .inr (.inr (.inr (.inr (va_up (va_up (va_up (va_up (fun _ => none) (0 : Int32).toNatClampNeg (some q1)) (1 : Int32).toNatClampNeg (some q8)) (2 : Int32).toNatClampNeg (some q10)) (3 : Int32).toNatClampNeg (some q12))))))), (q4, .inl (cy 1, 5, .inl (fun _ => 0))), (q5, .inl (cy 1, 5, .inl (fun _ => 0))), (q6, .inl (cy 1, 36, .inl (fun _ => 0))), (q7, .inl (cy 1, 36, .inl (fun _ => 0))), (q8, .inr (2, [])), (q10, .inr (1, [])), (q12, .inr (9, [])), (q14, .inr (5, []))] := hD
  refine W.widen (k := 10) (n := 88) (Nat.le_of_ble_eq_true rfl) (Nat.le_of_ble_eq_true rfl) ?_
  refine lv_dup hx hb dX4_init_116 rfl ?_
  refine rd_v (va_runIN (As := []) (rest := [.ref q14, .int 4, .ref q3]) ⟨hx, hb, hml, hown, hts⟩ (c_X5_init l D cy q14 _) ⟨(va_cnB 0 hts gX4_init_X5_init_n50 rfl rfl rfl (hKA.2 (.methodLinkNest RX4 50 yX5_init RX10) (by decide +kernel)) z34_ (by decide +kernel) ⟨Nat.le_of_ble_eq_true rfl, Nat.le_of_ble_eq_true rfl⟩), rfl, z36_⟩ (pS hKA pE (dE (A := A))) rfl rfl hl.1 rfl (lv_room (Nat.le_of_ble_eq_true rfl)) dX4_init_117 ⟨Nat.le_of_ble_eq_true rfl, Nat.le_of_ble_eq_true rfl⟩) hP hS hA (fun H locs hwr15 hP hS => ?_)
  refine va_astqO hx hb hK hP hD hS 2 4 10 5 rfl rfl (hKA.2 (.castable RX5 RX7) (by decide +kernel)) rfl rfl (by rw [vp_in_iff]; decide +kernel) dX4_init_120 (fun H locs hP hD hS => ?_)
  have hP : va_P D vwCl [(w, .inr (4, [.ref g, .ref q1, .ref q3, .ref q4, .ref q5, .ref q6, .ref q7, .int 0, .long 0])), (q1, .inr (7, [])), (q3, .inl (cy 4, 6, .inr (.inr (.inr (.inr (va_up (va_up (va_up (va_up (va_up (fun _ => none) (0 : Int32).toNatClampNeg (some q1)) (1 : Int32).toNatClampNeg (some q8)) (2 : Int32).toNatClampNeg (some q10)) (3 : Int32).toNatClampNeg (some q12)) (4 : Int32).toNatClampNeg (some q14))))))), (q4, .inl (cy 1, 5, .inl (fun _ => 0))), (q5, .inl (cy 1, 5, .inl (fun _ => 0))), (q6, .inl (cy 1, 36, .inl (fun _ => 0))), (q7, .inl (cy 1, 36, .inl (fun _ => 0))), (q8, .inr (2, [])), (q10, .inr (1, [])), (q12, .inr (9, [])), (q14, .inr (5, []))] H := hP
  have hD : va_D A [(w, .inr (4, [.ref g, .ref q1, .ref q3, .ref q4, .ref q5, .ref q6, .ref q7, .int 0, .long 0])), (q1, .inr (7, [])), (q3, .inl (cy 4, 6, .inr (.inr (.inr (.inr (va_up (va_up (va_up (va_up (va_up (fun _ => none) (0 : Int32).toNatClampNeg (some q1)) (1 : Int32).toNatClampNeg (some q8)) (2 : Int32).toNatClampNeg (some q10)) (3 : Int32).toNatClampNeg (some q12)) (4 : Int32).toNatClampNeg (some q14))))))), (q4, .inl (cy 1, 5, .inl (fun _ => 0))), (q5, .inl (cy 1, 5, .inl (fun _ => 0))), (q6, .inl (cy 1, 36, .inl (fun _ => 0))), (q7, .inl (cy 1, 36, .inl (fun _ => 0))), (q8, .inr (2, [])), (q10, .inr (1, [])), (q12, .inr (9, [])), (q14, .inr (5, []))] := hD
  refine lv_aload_n hx hb dX4_init_121 rfl (lv_at hl 0 rfl) ?_
  refine va_get (D := D) (ci := 4) (v := .ref q3) (C := RX4) (T := TX4) (N := 9) hx hb hts zi4_ hown hK hP 0 rfl rfl 2 (by decide) z10_ (fun _ h9 => h9) rfl dX4_init_122 ?_
  refine lv_iconst (v := 5) hx hb dX4_init_125 (by decide) ?_
  refine va_new (ci := 0) (fs := []) (C := RX0) (T := TX0) (N := 0) hx hb hts zi0_ tyX0 tyX0_ok hown z37_ z38_ z39_ hK hP hD hS hA rfl (fun j hj => absurd hj (Nat.not_lt_zero j)) (Nat.le_of_ble_eq_true rfl) (Nat.le_of_ble_eq_true rfl) dX4_init_126 (fun q16 H hP hD hS => ?_)
  have hP : va_P D vwCl [(w, .inr (4, [.ref g, .ref q1, .ref q3, .ref q4, .ref q5, .ref q6, .ref q7, .int 0, .long 0])), (q1, .inr (7, [])), (q3, .inl (cy 4, 6, .inr (.inr (.inr (.inr (va_up (va_up (va_up (va_up (va_up (fun _ => none) (0 : Int32).toNatClampNeg (some q1)) (1 : Int32).toNatClampNeg (some q8)) (2 : Int32).toNatClampNeg (some q10)) (3 : Int32).toNatClampNeg (some q12)) (4 : Int32).toNatClampNeg (some q14))))))), (q4, .inl (cy 1, 5, .inl (fun _ => 0))), (q5, .inl (cy 1, 5, .inl (fun _ => 0))), (q6, .inl (cy 1, 36, .inl (fun _ => 0))), (q7, .inl (cy 1, 36, .inl (fun _ => 0))), (q8, .inr (2, [])), (q10, .inr (1, [])), (q12, .inr (9, [])), (q14, .inr (5, [])), (q16, .inr (0, []))] H := hP
  have hD : va_D A [(w, .inr (4, [.ref g, .ref q1, .ref q3, .ref q4, .ref q5, .ref q6, .ref q7, .int 0, .long 0])), (q1, .inr (7, [])), (q3, .inl (cy 4, 6, .inr (.inr (.inr (.inr (va_up (va_up (va_up (va_up (va_up (fun _ => none) (0 : Int32).toNatClampNeg (some q1)) (1 : Int32).toNatClampNeg (some q8)) (2 : Int32).toNatClampNeg (some q10)) (3 : Int32).toNatClampNeg (some q12)) (4 : Int32).toNatClampNeg (some q14))))))), (q4, .inl (cy 1, 5, .inl (fun _ => 0))), (q5, .inl (cy 1, 5, .inl (fun _ => 0))), (q6, .inl (cy 1, 36, .inl (fun _ => 0))), (q7, .inl (cy 1, 36, .inl (fun _ => 0))), (q8, .inr (2, [])), (q10, .inr (1, [])), (q12, .inr (9, [])), (q14, .inr (5, [])), (q16, .inr (0, []))] := hD
  refine W.widen (k := 11) (n := 88) (Nat.le_of_ble_eq_true rfl) (Nat.le_of_ble_eq_true rfl) ?_
  refine lv_dup hx hb dX4_init_129 rfl ?_
  refine rd_v (va_runIN (As := []) (rest := [.ref q16, .int 5, .ref q3]) ⟨hx, hb, hml, hown, hts⟩ (c_X0_init l D cy q16 _) ⟨(va_cnB 0 hts gX4_init_X0_init_n53 rfl rfl rfl (hKA.2 (.methodLinkNest RX4 53 yX0_init RX10) (by decide +kernel)) z39_ (by decide +kernel) ⟨Nat.le_of_ble_eq_true rfl, Nat.le_of_ble_eq_true rfl⟩), rfl, z41_⟩ (pS hKA pE (dE (A := A))) rfl rfl hl.1 rfl (lv_room (Nat.le_of_ble_eq_true rfl)) dX4_init_130 ⟨Nat.le_of_ble_eq_true rfl, Nat.le_of_ble_eq_true rfl⟩) hP hS hA (fun H locs hwr17 hP hS => ?_)
  refine va_astqO hx hb hK hP hD hS 2 4 11 0 rfl rfl (hKA.2 (.castable RX0 RX7) (by decide +kernel)) rfl rfl (by rw [vp_in_iff]; decide +kernel) dX4_init_133 (fun H locs hP hD hS => ?_)
  have hP : va_P D vwCl [(w, .inr (4, [.ref g, .ref q1, .ref q3, .ref q4, .ref q5, .ref q6, .ref q7, .int 0, .long 0])), (q1, .inr (7, [])), (q3, .inl (cy 4, 6, .inr (.inr (.inr (.inr (va_up (va_up (va_up (va_up (va_up (va_up (fun _ => none) (0 : Int32).toNatClampNeg (some q1)) (1 : Int32).toNatClampNeg (some q8)) (2 : Int32).toNatClampNeg (some q10)) (3 : Int32).toNatClampNeg (some q12)) (4 : Int32).toNatClampNeg (some q14)) (5 : Int32).toNatClampNeg (some q16))))))), (q4, .inl (cy 1, 5, .inl (fun _ => 0))), (q5, .inl (cy 1, 5, .inl (fun _ => 0))), (q6, .inl (cy 1, 36, .inl (fun _ => 0))), (q7, .inl (cy 1, 36, .inl (fun _ => 0))), (q8, .inr (2, [])), (q10, .inr (1, [])), (q12, .inr (9, [])), (q14, .inr (5, [])), (q16, .inr (0, []))] H := hP
  have hD : va_D A [(w, .inr (4, [.ref g, .ref q1, .ref q3, .ref q4, .ref q5, .ref q6, .ref q7, .int 0, .long 0])), (q1, .inr (7, [])), (q3, .inl (cy 4, 6, .inr (.inr (.inr (.inr (va_up (va_up (va_up (va_up (va_up (va_up (fun _ => none) (0 : Int32).toNatClampNeg (some q1)) (1 : Int32).toNatClampNeg (some q8)) (2 : Int32).toNatClampNeg (some q10)) (3 : Int32).toNatClampNeg (some q12)) (4 : Int32).toNatClampNeg (some q14)) (5 : Int32).toNatClampNeg (some q16))))))), (q4, .inl (cy 1, 5, .inl (fun _ => 0))), (q5, .inl (cy 1, 5, .inl (fun _ => 0))), (q6, .inl (cy 1, 36, .inl (fun _ => 0))), (q7, .inl (cy 1, 36, .inl (fun _ => 0))), (q8, .inr (2, [])), (q10, .inr (1, [])), (q12, .inr (9, [])), (q14, .inr (5, [])), (q16, .inr (0, []))] := hD
  refine W.widen (k := 11) (n := 88) (Nat.le_of_ble_eq_true rfl) (Nat.le_of_ble_eq_true rfl) ?_
  have hP9 := hP.sub (ws' := [(w, .inr (4, [.ref g, .ref q1, .ref q3, .ref q4, .ref q5, .ref q6, .ref q7, .int 0, .long 0])), (q1, .inr (7, [])), (q3, .inl (cy 4, 6, .inr (.inr (.inr (.inr (va_up (va_up (va_up (va_up (va_up (va_up (fun _ => none) (0 : Int32).toNatClampNeg (some q1)) (1 : Int32).toNatClampNeg (some q8)) (2 : Int32).toNatClampNeg (some q10)) (3 : Int32).toNatClampNeg (some q12)) (4 : Int32).toNatClampNeg (some q14)) (5 : Int32).toNatClampNeg (some q16))))))), (q4, .inl (cy 1, 5, .inl (fun _ => 0))), (q5, .inl (cy 1, 5, .inl (fun _ => 0))), (q6, .inl (cy 1, 36, .inl (fun _ => 0))), (q7, .inl (cy 1, 36, .inl (fun _ => 0))), (q8, .inr (2, [])), (q10, .inr (1, [])), (q12, .inr (9, [])), (q14, .inr (5, [])), (q16, .inr (0, []))]) [0, 1, 2, 3, 4, 5, 6, 7, 8, 9, 10, 11] rfl
  have hD9 := hD.sub (ws' := [(w, .inr (4, [.ref g, .ref q1, .ref q3, .ref q4, .ref q5, .ref q6, .ref q7, .int 0, .long 0])), (q1, .inr (7, [])), (q3, .inl (cy 4, 6, .inr (.inr (.inr (.inr (va_up (va_up (va_up (va_up (va_up (va_up (fun _ => none) (0 : Int32).toNatClampNeg (some q1)) (1 : Int32).toNatClampNeg (some q8)) (2 : Int32).toNatClampNeg (some q10)) (3 : Int32).toNatClampNeg (some q12)) (4 : Int32).toNatClampNeg (some q14)) (5 : Int32).toNatClampNeg (some q16))))))), (q4, .inl (cy 1, 5, .inl (fun _ => 0))), (q5, .inl (cy 1, 5, .inl (fun _ => 0))), (q6, .inl (cy 1, 36, .inl (fun _ => 0))), (q7, .inl (cy 1, 36, .inl (fun _ => 0))), (q8, .inr (2, [])), (q10, .inr (1, [])), (q12, .inr (9, [])), (q14, .inr (5, [])), (q16, .inr (0, []))]) [0, 1, 2, 3, 4, 5, 6, 7, 8, 9, 10, 11] (by decide) rfl
  exact W.vret hx hb hr (fun t ht hW => ⟨⟨(q1, q3, q4, q5, q6, q7, q8, q10, q12, q14, q16), rfl, trivial, by rw [ht]; exact hP9, hD9⟩, hS.F ht⟩) hS.2.2 dX4_init_134

set_option maxHeartbeats 4000000 in
set_option maxRecDepth 100000 in
theorem c_X6_init (l : Launch) (D : va_G) (cy : Nat → ClassId) (pa g w : Nat) (sz : Nat)  : Met l yX6_init wsX6_init ({ frames := 1, cells := 3, slots := 2340, locals := 12 }) (va_Pc [.ref pa, .ref g, .ref w] (kPre D cy [(pa, .inr (6, [.null, .null, .null, .null, .null]))] sz)) (va_Qv (fun (_ : Nat × Nat × Nat) => True) (fun (u : Nat × Nat × Nat) t => va_P D vwCl ([(pa, .inr (6, [.ref g, .ref w, .ref u.1, .ref u.2.1, .ref u.2.2])), (u.1, .inl (cy 1, 36, .inl (fun _ => 0))), (u.2.1, .inl (cy 1, 1152, .inl (fun _ => 0))), (u.2.2, .inl (cy 1, 1152, .inl (fun _ => 0)))]) t.heap ∧ va_D (va_A [(pa, .inr (6, [.null, .null, .null, .null, .null]))] sz) ([(pa, .inr (6, [.ref g, .ref w, .ref u.1, .ref u.2.1, .ref u.2.2])), (u.1, .inl (cy 1, 36, .inl (fun _ => 0))), (u.2.1, .inl (cy 1, 1152, .inl (fun _ => 0))), (u.2.2, .inl (cy 1, 1152, .inl (fun _ => 0)))])) (va_A [(pa, .inr (6, [.null, .null, .null, .null, .null]))] sz)) 3 2340 (va_A [(pa, .inr (6, [.null, .null, .null, .null, .null]))] sz) := by
  refine Met.ofW (cc := cX6_init) (maxL := 3) (ret := none) (by decide) rfl ?_
  intro p e s m args below meth c s₁ B hml hv
  obtain ⟨rfl, hsz, hP, hKA, hD0⟩ := hv
  have hx := B.exec
  have hb := B.bytes
  have hr := B.returns
  have hts := atoms_spec (ws := wsX6_init) B.pre
  have hown : s.vm.findClass RX6 = some m.cls := findClass_of_methodNamed B.named
  have hlocks := B.notSynchronized
  have hin : meth.name = "<init>" := (name_of_methodNamed B.named B.method).1
  subst hsz
  have hK := hKA.1
  have hD := hD0.self (sz := s.heap.size)
  generalize hAe : va_A [(pa, .inr (6, [.null, .null, .null, .null, .null]))] s.heap.size = A at hD ⊢
  have hA : ∀ q : Nat, s.heap.size ≤ q → A q := fun q h => by rw [← hAe]; exact Or.inr h
  have hS : va_S A s.heap s.heap [] := va_S.rf
  have hP : va_P D vwCl [(pa, .inr (6, [.null, .null, .null, .null, .null]))] s.heap := hP
  have hl := lv_entry ([.ref pa, .ref g, .ref w]) (n := 3) (Nat.le_of_ble_eq_true rfl)
  rw [lg_entry_eq]
  generalize (lg_sl ([.ref pa, .ref g, .ref w]) ++ List.replicate (3 - (lg_sl ([.ref pa, .ref g, .ref w])).length) Slot.unset).toArray = ls at hl ⊢
  have hl : lv_has ls 3 [(0, .ref pa), (1, .ref g), (2, .ref w)] := hl
  have z0_ := hts (.methodLink RX6 5 objectInit) (by decide +kernel)
  have z1_ := hts (.instanceMethod objectInit) (by decide +kernel)
  have z2_ := hts (.code objectInit ⟨#[0xb1]⟩ 1 none) (by decide +kernel)
  have z3_ := hts (.arrayClass .int) (by decide +kernel)
  have z4_ := hts (.fieldLink RX6 11 "HeardSeen$Paths" "far" "[I") (by decide +kernel)
  have zi6_ : ∀ w ∈ u_ws RX6 TX6 5, w ∈ wsX6_init := by decide +kernel
  have z6_ := hts (.fieldLink RX6 15 "HeardSeen$Paths" "steps" "[I") (by decide +kernel)
  have z7_ := hts (.fieldLink RX6 18 "HeardSeen$Paths" "queue" "[I") (by decide +kernel)
  have z8_ := hts (.fieldLink RX6 21 "HeardSeen$Paths" "g" "LHeardSeen$Garden;") (by decide +kernel)
  have z9_ := hts (.fieldLink RX6 25 "HeardSeen$Paths" "law" "LHeardSeen$Law;") (by decide +kernel)
  refine lv_aload_n hx hb dX6_init_0 rfl (lv_at hl 0 rfl) ?_
  refine W.objInit hx hb hown z0_ z1_ z2_ rfl (by rw [hml]; exact hl.1) rfl dX6_init_1 (Nat.le_of_ble_eq_true rfl) (Nat.le_of_ble_eq_true rfl) ?_
  refine W.eq (g2 := F0 m 4 ls []) rfl ?_
  refine lv_aload_n hx hb dX6_init_4 rfl (lv_at hl 0 rfl) ?_
  refine lv_bipush (v := 36) hx hb dX6_init_5 (by decide) ?_
  refine my_newa (atype := .int) (ty := .int) (N' := 36) (a0 := (36, .inl (fun _ => 0))) hx hb z3_ rfl hK hP hD hS hA 1 rfl (a0I 36) (by decide) (by decide +kernel) (by decide +kernel) (Nat.le_of_ble_eq_true rfl) (Nat.le_of_ble_eq_true rfl) dX6_init_7 (fun q1 H hP hD hS => ?_)
  have hP : va_P D vwCl [(pa, .inr (6, [.null, .null, .null, .null, .null])), (q1, .inl (cy 1, 36, .inl (fun _ => 0)))] H := hP
  have hD : va_D A [(pa, .inr (6, [.null, .null, .null, .null, .null])), (q1, .inl (cy 1, 36, .inl (fun _ => 0)))] := hD
  refine W.widen (k := 1) (n := 36) (Nat.le_of_ble_eq_true rfl) (Nat.le_of_ble_eq_true rfl) ?_
  refine va_putF (D := D) (ci := 6) (v := .ref q1) (ty := .array .int) (C := RX6) (T := TX6) (N := 5) hx hb hts zi6_ tyX6 tyX6_ok nmX6 hown hK hP hD hS 0 rfl rfl 2 (by decide) z4_ (fun _ h9 => h9) rfl hin rfl (by decide +kernel) rfl rfl (Nat.le_of_ble_eq_true rfl) dX6_init_9 (fun H locs hP hD hS => ?_)
  have hP : va_P D vwCl [(pa, .inr (6, [.null, .null, .ref q1, .null, .null])), (q1, .inl (cy 1, 36, .inl (fun _ => 0)))] H := hP
  have hD : va_D A [(pa, .inr (6, [.null, .null, .ref q1, .null, .null])), (q1, .inl (cy 1, 36, .inl (fun _ => 0)))] := hD
  refine lv_aload_n hx hb dX6_init_12 rfl (lv_at hl 0 rfl) ?_
  refine lv_sipush (v := 1152) hx hb dX6_init_13 (by decide) ?_
  refine my_newa (atype := .int) (ty := .int) (N' := 1152) (a0 := (1152, .inl (fun _ => 0))) hx hb z3_ rfl hK hP hD hS hA 1 rfl (a0I 1152) (by decide) (by decide +kernel) (by decide +kernel) (Nat.le_of_ble_eq_true rfl) (Nat.le_of_ble_eq_true rfl) dX6_init_16 (fun q2 H hP hD hS => ?_)
  have hP : va_P D vwCl [(pa, .inr (6, [.null, .null, .ref q1, .null, .null])), (q1, .inl (cy 1, 36, .inl (fun _ => 0))), (q2, .inl (cy 1, 1152, .inl (fun _ => 0)))] H := hP
  have hD : va_D A [(pa, .inr (6, [.null, .null, .ref q1, .null, .null])), (q1, .inl (cy 1, 36, .inl (fun _ => 0))), (q2, .inl (cy 1, 1152, .inl (fun _ => 0)))] := hD
  refine W.widen (k := 2) (n := 1188) (Nat.le_of_ble_eq_true rfl) (Nat.le_of_ble_eq_true rfl) ?_
  refine va_putF (D := D) (ci := 6) (v := .ref q2) (ty := .array .int) (C := RX6) (T := TX6) (N := 5) hx hb hts zi6_ tyX6 tyX6_ok nmX6 hown hK hP hD hS 0 rfl rfl 3 (by decide) z6_ (fun _ h9 => h9) rfl hin rfl (by decide +kernel) rfl rfl (Nat.le_of_ble_eq_true rfl) dX6_init_18 (fun H locs hP hD hS => ?_)
  have hP : va_P D vwCl [(pa, .inr (6, [.null, .null, .ref q1, .ref q2, .null])), (q1, .inl (cy 1, 36, .inl (fun _ => 0))), (q2, .inl (cy 1, 1152, .inl (fun _ => 0)))] H := hP
  have hD : va_D A [(pa, .inr (6, [.null, .null, .ref q1, .ref q2, .null])), (q1, .inl (cy 1, 36, .inl (fun _ => 0))), (q2, .inl (cy 1, 1152, .inl (fun _ => 0)))] := hD
  refine lv_aload_n hx hb dX6_init_21 rfl (lv_at hl 0 rfl) ?_
  refine lv_sipush (v := 1152) hx hb dX6_init_22 (by decide) ?_
  refine my_newa (atype := .int) (ty := .int) (N' := 1152) (a0 := (1152, .inl (fun _ => 0))) hx hb z3_ rfl hK hP hD hS hA 1 rfl (a0I 1152) (by decide) (by decide +kernel) (by decide +kernel) (Nat.le_of_ble_eq_true rfl) (Nat.le_of_ble_eq_true rfl) dX6_init_25 (fun q3 H hP hD hS => ?_)
  have hP : va_P D vwCl [(pa, .inr (6, [.null, .null, .ref q1, .ref q2, .null])), (q1, .inl (cy 1, 36, .inl (fun _ => 0))), (q2, .inl (cy 1, 1152, .inl (fun _ => 0))), (q3, .inl (cy 1, 1152, .inl (fun _ => 0)))] H := hP
  have hD : va_D A [(pa, .inr (6, [.null, .null, .ref q1, .ref q2, .null])), (q1, .inl (cy 1, 36, .inl (fun _ => 0))), (q2, .inl (cy 1, 1152, .inl (fun _ => 0))), (q3, .inl (cy 1, 1152, .inl (fun _ => 0)))] := hD
  refine W.widen (k := 3) (n := 2340) (Nat.le_of_ble_eq_true rfl) (Nat.le_of_ble_eq_true rfl) ?_
  refine va_putF (D := D) (ci := 6) (v := .ref q3) (ty := .array .int) (C := RX6) (T := TX6) (N := 5) hx hb hts zi6_ tyX6 tyX6_ok nmX6 hown hK hP hD hS 0 rfl rfl 4 (by decide) z7_ (fun _ h9 => h9) rfl hin rfl (by decide +kernel) rfl rfl (Nat.le_of_ble_eq_true rfl) dX6_init_27 (fun H locs hP hD hS => ?_)
  have hP : va_P D vwCl [(pa, .inr (6, [.null, .null, .ref q1, .ref q2, .ref q3])), (q1, .inl (cy 1, 36, .inl (fun _ => 0))), (q2, .inl (cy 1, 1152, .inl (fun _ => 0))), (q3, .inl (cy 1, 1152, .inl (fun _ => 0)))] H := hP
  have hD : va_D A [(pa, .inr (6, [.null, .null, .ref q1, .ref q2, .ref q3])), (q1, .inl (cy 1, 36, .inl (fun _ => 0))), (q2, .inl (cy 1, 1152, .inl (fun _ => 0))), (q3, .inl (cy 1, 1152, .inl (fun _ => 0)))] := hD
  refine lv_aload_n hx hb dX6_init_30 rfl (lv_at hl 0 rfl) ?_
  refine lv_aload_n hx hb dX6_init_31 rfl (lv_at hl 1 rfl) ?_
  refine va_putF (D := D) (ci := 6) (v := .ref g) (ty := .object "HeardSeen$Garden") (C := RX6) (T := TX6) (N := 5) hx hb hts zi6_ tyX6 tyX6_ok nmX6 hown hK hP hD hS 0 rfl rfl 0 (by decide) z8_ (fun _ h9 => h9) rfl hin rfl (by decide +kernel) rfl rfl (Nat.le_of_ble_eq_true rfl) dX6_init_32 (fun H locs hP hD hS => ?_)
  have hP : va_P D vwCl [(pa, .inr (6, [.ref g, .null, .ref q1, .ref q2, .ref q3])), (q1, .inl (cy 1, 36, .inl (fun _ => 0))), (q2, .inl (cy 1, 1152, .inl (fun _ => 0))), (q3, .inl (cy 1, 1152, .inl (fun _ => 0)))] H := hP
  have hD : va_D A [(pa, .inr (6, [.ref g, .null, .ref q1, .ref q2, .ref q3])), (q1, .inl (cy 1, 36, .inl (fun _ => 0))), (q2, .inl (cy 1, 1152, .inl (fun _ => 0))), (q3, .inl (cy 1, 1152, .inl (fun _ => 0)))] := hD
  refine lv_aload_n hx hb dX6_init_35 rfl (lv_at hl 0 rfl) ?_
  refine lv_aload_n hx hb dX6_init_36 rfl (lv_at hl 2 rfl) ?_
  refine va_putF (D := D) (ci := 6) (v := .ref w) (ty := .object "HeardSeen$Law") (C := RX6) (T := TX6) (N := 5) hx hb hts zi6_ tyX6 tyX6_ok nmX6 hown hK hP hD hS 0 rfl rfl 1 (by decide) z9_ (fun _ h9 => h9) rfl hin rfl (by decide +kernel) rfl rfl (Nat.le_of_ble_eq_true rfl) dX6_init_37 (fun H locs hP hD hS => ?_)
  have hP : va_P D vwCl [(pa, .inr (6, [.ref g, .ref w, .ref q1, .ref q2, .ref q3])), (q1, .inl (cy 1, 36, .inl (fun _ => 0))), (q2, .inl (cy 1, 1152, .inl (fun _ => 0))), (q3, .inl (cy 1, 1152, .inl (fun _ => 0)))] H := hP
  have hD : va_D A [(pa, .inr (6, [.ref g, .ref w, .ref q1, .ref q2, .ref q3])), (q1, .inl (cy 1, 36, .inl (fun _ => 0))), (q2, .inl (cy 1, 1152, .inl (fun _ => 0))), (q3, .inl (cy 1, 1152, .inl (fun _ => 0)))] := hD
  refine W.widen (k := 3) (n := 2340) (Nat.le_of_ble_eq_true rfl) (Nat.le_of_ble_eq_true rfl) ?_
  have hP9 := hP.sub (ws' := [(pa, .inr (6, [.ref g, .ref w, .ref q1, .ref q2, .ref q3])), (q1, .inl (cy 1, 36, .inl (fun _ => 0))), (q2, .inl (cy 1, 1152, .inl (fun _ => 0))), (q3, .inl (cy 1, 1152, .inl (fun _ => 0)))]) [0, 1, 2, 3] rfl
  have hD9 := hD.sub (ws' := [(pa, .inr (6, [.ref g, .ref w, .ref q1, .ref q2, .ref q3])), (q1, .inl (cy 1, 36, .inl (fun _ => 0))), (q2, .inl (cy 1, 1152, .inl (fun _ => 0))), (q3, .inl (cy 1, 1152, .inl (fun _ => 0)))]) [0, 1, 2, 3] (by decide) rfl
  exact W.vret hx hb hr (fun t ht hW => ⟨⟨(q1, q2, q3), rfl, trivial, by rw [ht]; exact hP9, hD9⟩, hS.F ht⟩) hS.2.2 dX6_init_40

set_option maxHeartbeats 4000000 in
set_option maxRecDepth 100000 in
theorem c_X8_init (l : Launch) (D : va_G) (cy : Nat → ClassId) (pn : Nat) (sz : Nat)  : Met l yX8_init wsX8_init ({ frames := 1, cells := 1, slots := 250, locals := 12 }) (va_Pc [.ref pn] (kPre D cy [(pn, .inr (8, [.null, .int 0, .int 0, .int 0, .int 0, .int 0, .int 0]))] sz)) (va_Qv (fun (_ : Nat) => True) (fun (u : Nat) t => va_P D vwCl ([(pn, .inr (8, [.ref u, .int 0, .int 0, .int 0, .int 0, .int 0, .int 0])), (u, .inl (cy 0, 250, .inl (fun _ => 0)))]) t.heap ∧ va_D (va_A [(pn, .inr (8, [.null, .int 0, .int 0, .int 0, .int 0, .int 0, .int 0]))] sz) ([(pn, .inr (8, [.ref u, .int 0, .int 0, .int 0, .int 0, .int 0, .int 0])), (u, .inl (cy 0, 250, .inl (fun _ => 0)))])) (va_A [(pn, .inr (8, [.null, .int 0, .int 0, .int 0, .int 0, .int 0, .int 0]))] sz)) 1 250 (va_A [(pn, .inr (8, [.null, .int 0, .int 0, .int 0, .int 0, .int 0, .int 0]))] sz) := by
  refine Met.ofW (cc := cX8_init) (maxL := 1) (ret := none) (by decide) rfl ?_
  intro p e s m args below meth c s₁ B hml hv
  obtain ⟨rfl, hsz, hP, hKA, hD0⟩ := hv
  have hx := B.exec
  have hb := B.bytes
  have hr := B.returns
  have hts := atoms_spec (ws := wsX8_init) B.pre
  have hown : s.vm.findClass RX8 = some m.cls := findClass_of_methodNamed B.named
  have hlocks := B.notSynchronized
  have hin : meth.name = "<init>" := (name_of_methodNamed B.named B.method).1
  subst hsz
  have hK := hKA.1
  have hD := hD0.self (sz := s.heap.size)
  generalize hAe : va_A [(pn, .inr (8, [.null, .int 0, .int 0, .int 0, .int 0, .int 0, .int 0]))] s.heap.size = A at hD ⊢
  have hA : ∀ q : Nat, s.heap.size ≤ q → A q := fun q h => by rw [← hAe]; exact Or.inr h
  have hS : va_S A s.heap s.heap [] := va_S.rf
  have hP : va_P D vwCl [(pn, .inr (8, [.null, .int 0, .int 0, .int 0, .int 0, .int 0, .int 0]))] s.heap := hP
  have hl := lv_entry ([.ref pn]) (n := 1) (Nat.le_of_ble_eq_true rfl)
  rw [lg_entry_eq]
  generalize (lg_sl ([.ref pn]) ++ List.replicate (1 - (lg_sl ([.ref pn])).length) Slot.unset).toArray = ls at hl ⊢
  have hl : lv_has ls 1 [(0, .ref pn)] := hl
  have z0_ := hts (.methodLink RX8 3 objectInit) (by decide +kernel)
  have z1_ := hts (.instanceMethod objectInit) (by decide +kernel)
  have z2_ := hts (.code objectInit ⟨#[0xb1]⟩ 1 none) (by decide +kernel)
  have z3_ := hts (.arrayClass .byte) (by decide +kernel)
  have z4_ := hts (.fieldLink RX8 9 "HeardSeen$Plan" "bytes" "[B") (by decide +kernel)
  have zi8_ : ∀ w ∈ u_ws RX8 TX8 7, w ∈ wsX8_init := by decide +kernel
  refine lv_aload_n hx hb dX8_init_0 rfl (lv_at hl 0 rfl) ?_
  refine W.objInit hx hb hown z0_ z1_ z2_ rfl (by rw [hml]; exact hl.1) rfl dX8_init_1 (Nat.le_of_ble_eq_true rfl) (Nat.le_of_ble_eq_true rfl) ?_
  refine W.eq (g2 := F0 m 4 ls []) rfl ?_
  refine lv_aload_n hx hb dX8_init_4 rfl (lv_at hl 0 rfl) ?_
  refine lv_sipush (v := 250) hx hb dX8_init_5 (by decide) ?_
  refine my_newa (atype := .byte) (ty := .byte) (N' := 250) (a0 := (250, .inl (fun _ => 0))) hx hb z3_ rfl hK hP hD hS hA 0 rfl (a0B 250) (by decide) (by decide +kernel) (by decide +kernel) (Nat.le_of_ble_eq_true rfl) (Nat.le_of_ble_eq_true rfl) dX8_init_8 (fun q1 H hP hD hS => ?_)
  have hP : va_P D vwCl [(pn, .inr (8, [.null, .int 0, .int 0, .int 0, .int 0, .int 0, .int 0])), (q1, .inl (cy 0, 250, .inl (fun _ => 0)))] H := hP
  have hD : va_D A [(pn, .inr (8, [.null, .int 0, .int 0, .int 0, .int 0, .int 0, .int 0])), (q1, .inl (cy 0, 250, .inl (fun _ => 0)))] := hD
  refine W.widen (k := 1) (n := 250) (Nat.le_of_ble_eq_true rfl) (Nat.le_of_ble_eq_true rfl) ?_
  refine va_putF (D := D) (ci := 8) (v := .ref q1) (ty := .array .byte) (C := RX8) (T := TX8) (N := 7) hx hb hts zi8_ tyX8 tyX8_ok nmX8 hown hK hP hD hS 0 rfl rfl 0 (by decide) z4_ (fun _ h9 => h9) rfl hin rfl (by decide +kernel) rfl rfl (Nat.le_of_ble_eq_true rfl) dX8_init_10 (fun H locs hP hD hS => ?_)
  have hP : va_P D vwCl [(pn, .inr (8, [.ref q1, .int 0, .int 0, .int 0, .int 0, .int 0, .int 0])), (q1, .inl (cy 0, 250, .inl (fun _ => 0)))] H := hP
  have hD : va_D A [(pn, .inr (8, [.ref q1, .int 0, .int 0, .int 0, .int 0, .int 0, .int 0])), (q1, .inl (cy 0, 250, .inl (fun _ => 0)))] := hD
  refine W.widen (k := 1) (n := 250) (Nat.le_of_ble_eq_true rfl) (Nat.le_of_ble_eq_true rfl) ?_
  have hP9 := hP.sub (ws' := [(pn, .inr (8, [.ref q1, .int 0, .int 0, .int 0, .int 0, .int 0, .int 0])), (q1, .inl (cy 0, 250, .inl (fun _ => 0)))]) [0, 1] rfl
  have hD9 := hD.sub (ws' := [(pn, .inr (8, [.ref q1, .int 0, .int 0, .int 0, .int 0, .int 0, .int 0])), (q1, .inl (cy 0, 250, .inl (fun _ => 0)))]) [0, 1] (by decide) rfl
  exact W.vret hx hb hr (fun t ht hW => ⟨⟨q1, rfl, trivial, by rw [ht]; exact hP9, hD9⟩, hS.F ht⟩) hS.2.2 dX8_init_13
set_option maxHeartbeats 4000000 in
set_option maxRecDepth 100000 in
theorem c_X10_init (l : Launch) (D : va_G) (cy : Nat → ClassId) (h : Nat) (sz : Nat)  : Met l yX10_init wsX10_init ({ frames := 5, cells := 35, slots := 2819, locals := 93 }) (va_Pc [.ref h] (kPre D cy [(h, .inr (10, [.null, .null, .null, .null, .null, .null, .int 0, .int 0, .int 0]))] sz)) (va_Qv (fun (_ : Nat × Nat × Nat × Nat × Nat × Nat × Nat × Nat × Nat × Nat × Nat × Nat × Nat × Nat × Nat × Nat × Nat × Nat × Nat × Nat × Nat × Nat × Nat × Nat × Nat × Nat × Nat × Nat × Nat × Nat × Nat × Nat × Nat × Nat × Nat) => True) (fun (u : Nat × Nat × Nat × Nat × Nat × Nat × Nat × Nat × Nat × Nat × Nat × Nat × Nat × Nat × Nat × Nat × Nat × Nat × Nat × Nat × Nat × Nat × Nat × Nat × Nat × Nat × Nat × Nat × Nat × Nat × Nat × Nat × Nat × Nat × Nat) t => va_P D vwCl ([(h, .inr (10, [.ref u.1, .ref u.2.2.2.2.2.2.2.2.1, .ref u.2.2.2.2.2.2.2.2.2.2.2.2.2.2.2.2.1, .ref u.2.2.2.2.2.2.2.2.2.2.2.2.2.2.2.2.2.1, .ref u.2.2.2.2.2.2.2.2.2.2.2.2.2.2.2.2.2.2.2.1, .ref u.2.2.2.2.2.2.2.2.2.2.2.2.2.2.2.2.2.2.2.2.2.2.2.2.2.2.2.2.2.2.2.1, .int 0, .int 0, .int 0])), (u.1, .inr (3, [.int 6, .int 6, .int 1, .int 0, .long 0, .long 0, .int 0, .int 0, .int 0, .ref u.2.1, .ref u.2.2.1, .ref u.2.2.2.1, .ref u.2.2.2.2.1, .ref u.2.2.2.2.2.1, .ref u.2.2.2.2.2.2.1, .ref u.2.2.2.2.2.2.2.1])), (u.2.1, .inl (cy 1, 5, .inl (fun _ => 0))), (u.2.2.1, .inl (cy 1, 5, .inl (fun _ => 0))), (u.2.2.2.1, .inl (cy 1, 5, .inl (fun _ => 0))), (u.2.2.2.2.1, .inl (cy 1, 6, .inl (fun _ => 0))), (u.2.2.2.2.2.1, .inl (cy 1, 6, .inl (fun _ => 0))), (u.2.2.2.2.2.2.1, .inl (cy 1, 8, .inl (fun _ => 0))), (u.2.2.2.2.2.2.2.1, .inl (cy 1, 8, .inl (fun _ => 0))), (u.2.2.2.2.2.2.2.2.1, .inr (3, [.int 6, .int 6, .int 1, .int 0, .long 0, .long 0, .int 0, .int 0, .int 0, .ref u.2.2.2.2.2.2.2.2.2.1, .ref u.2.2.2.2.2.2.2.2.2.2.1, .ref u.2.2.2.2.2.2.2.2.2.2.2.1, .ref u.2.2.2.2.2.2.2.2.2.2.2.2.1, .ref u.2.2.2.2.2.2.2.2.2.2.2.2.2.1, .ref u.2.2.2.2.2.2.2.2.2.2.2.2.2.2.1, .ref u.2.2.2.2.2.2.2.2.2.2.2.2.2.2.2.1])), (u.2.2.2.2.2.2.2.2.2.1, .inl (cy 1, 5, .inl (fun _ => 0))), (u.2.2.2.2.2.2.2.2.2.2.1, .inl (cy 1, 5, .inl (fun _ => 0))), (u.2.2.2.2.2.2.2.2.2.2.2.1, .inl (cy 1, 5, .inl (fun _ => 0))), (u.2.2.2.2.2.2.2.2.2.2.2.2.1, .inl (cy 1, 6, .inl (fun _ => 0))), (u.2.2.2.2.2.2.2.2.2.2.2.2.2.1, .inl (cy 1, 6, .inl (fun _ => 0))), (u.2.2.2.2.2.2.2.2.2.2.2.2.2.2.1, .inl (cy 1, 8, .inl (fun _ => 0))), (u.2.2.2.2.2.2.2.2.2.2.2.2.2.2.2.1, .inl (cy 1, 8, .inl (fun _ => 0))), (u.2.2.2.2.2.2.2.2.2.2.2.2.2.2.2.2.1, .inl (cy 3, 2, .inr (.inr (.inr (.inr (fun _ => none)))))), (u.2.2.2.2.2.2.2.2.2.2.2.2.2.2.2.2.2.1, .inr (8, [.ref u.2.2.2.2.2.2.2.2.2.2.2.2.2.2.2.2.2.2.1, .int 0, .int 0, .int 0, .int 0, .int 0, .int 0])), (u.2.2.2.2.2.2.2.2.2.2.2.2.2.2.2.2.2.2.1, .inl (cy 0, 250, .inl (fun _ => 0))), (u.2.2.2.2.2.2.2.2.2.2.2.2.2.2.2.2.2.2.2.1, .inr (4, [.ref u.1, .ref u.2.2.2.2.2.2.2.2.2.2.2.2.2.2.2.2.2.2.2.2.1, .ref u.2.2.2.2.2.2.2.2.2.2.2.2.2.2.2.2.2.2.2.2.2.1, .ref u.2.2.2.2.2.2.2.2.2.2.2.2.2.2.2.2.2.2.2.2.2.2.1, .ref u.2.2.2.2.2.2.2.2.2.2.2.2.2.2.2.2.2.2.2.2.2.2.2.1, .ref u.2.2.2.2.2.2.2.2.2.2.2.2.2.2.2.2.2.2.2.2.2.2.2.2.1, .ref u.2.2.2.2.2.2.2.2.2.2.2.2.2.2.2.2.2.2.2.2.2.2.2.2.2.1, .int 0, .long 0])), (u.2.2.2.2.2.2.2.2.2.2.2.2.2.2.2.2.2.2.2.2.1, .inr (7, [])), (u.2.2.2.2.2.2.2.2.2.2.2.2.2.2.2.2.2.2.2.2.2.1, .inl (cy 4, 6, .inr (.inr (.inr (.inr (va_up (va_up (va_up (va_up (va_up (va_up (fun _ => none) (0 : Int32).toNatClampNeg (some u.2.2.2.2.2.2.2.2.2.2.2.2.2.2.2.2.2.2.2.2.1)) (1 : Int32).toNatClampNeg (some u.2.2.2.2.2.2.2.2.2.2.2.2.2.2.2.2.2.2.2.2.2.2.2.2.2.2.1)) (2 : Int32).toNatClampNeg (some u.2.2.2.2.2.2.2.2.2.2.2.2.2.2.2.2.2.2.2.2.2.2.2.2.2.2.2.1)) (3 : Int32).toNatClampNeg (some u.2.2.2.2.2.2.2.2.2.2.2.2.2.2.2.2.2.2.2.2.2.2.2.2.2.2.2.2.1)) (4 : Int32).toNatClampNeg (some u.2.2.2.2.2.2.2.2.2.2.2.2.2.2.2.2.2.2.2.2.2.2.2.2.2.2.2.2.2.1)) (5 : Int32).toNatClampNeg (some u.2.2.2.2.2.2.2.2.2.2.2.2.2.2.2.2.2.2.2.2.2.2.2.2.2.2.2.2.2.2.1))))))), (u.2.2.2.2.2.2.2.2.2.2.2.2.2.2.2.2.2.2.2.2.2.2.1, .inl (cy 1, 5, .inl (fun _ => 0))), (u.2.2.2.2.2.2.2.2.2.2.2.2.2.2.2.2.2.2.2.2.2.2.2.1, .inl (cy 1, 5, .inl (fun _ => 0))), (u.2.2.2.2.2.2.2.2.2.2.2.2.2.2.2.2.2.2.2.2.2.2.2.2.1, .inl (cy 1, 36, .inl (fun _ => 0))), (u.2.2.2.2.2.2.2.2.2.2.2.2.2.2.2.2.2.2.2.2.2.2.2.2.2.1, .inl (cy 1, 36, .inl (fun _ => 0))), (u.2.2.2.2.2.2.2.2.2.2.2.2.2.2.2.2.2.2.2.2.2.2.2.2.2.2.1, .inr (2, [])), (u.2.2.2.2.2.2.2.2.2.2.2.2.2.2.2.2.2.2.2.2.2.2.2.2.2.2.2.1, .inr (1, [])), (u.2.2.2.2.2.2.2.2.2.2.2.2.2.2.2.2.2.2.2.2.2.2.2.2.2.2.2.2.1, .inr (9, [])), (u.2.2.2.2.2.2.2.2.2.2.2.2.2.2.2.2.2.2.2.2.2.2.2.2.2.2.2.2.2.1, .inr (5, [])), (u.2.2.2.2.2.2.2.2.2.2.2.2.2.2.2.2.2.2.2.2.2.2.2.2.2.2.2.2.2.2.1, .inr (0, [])), (u.2.2.2.2.2.2.2.2.2.2.2.2.2.2.2.2.2.2.2.2.2.2.2.2.2.2.2.2.2.2.2.1, .inr (6, [.ref u.1, .ref u.2.2.2.2.2.2.2.2.2.2.2.2.2.2.2.2.2.2.2.1, .ref u.2.2.2.2.2.2.2.2.2.2.2.2.2.2.2.2.2.2.2.2.2.2.2.2.2.2.2.2.2.2.2.2.1, .ref u.2.2.2.2.2.2.2.2.2.2.2.2.2.2.2.2.2.2.2.2.2.2.2.2.2.2.2.2.2.2.2.2.2.1, .ref u.2.2.2.2.2.2.2.2.2.2.2.2.2.2.2.2.2.2.2.2.2.2.2.2.2.2.2.2.2.2.2.2.2.2])), (u.2.2.2.2.2.2.2.2.2.2.2.2.2.2.2.2.2.2.2.2.2.2.2.2.2.2.2.2.2.2.2.2.1, .inl (cy 1, 36, .inl (fun _ => 0))), (u.2.2.2.2.2.2.2.2.2.2.2.2.2.2.2.2.2.2.2.2.2.2.2.2.2.2.2.2.2.2.2.2.2.1, .inl (cy 1, 1152, .inl (fun _ => 0))), (u.2.2.2.2.2.2.2.2.2.2.2.2.2.2.2.2.2.2.2.2.2.2.2.2.2.2.2.2.2.2.2.2.2.2, .inl (cy 1, 1152, .inl (fun _ => 0)))]) t.heap ∧ va_D (va_A [(h, .inr (10, [.null, .null, .null, .null, .null, .null, .int 0, .int 0, .int 0]))] sz) ([(h, .inr (10, [.ref u.1, .ref u.2.2.2.2.2.2.2.2.1, .ref u.2.2.2.2.2.2.2.2.2.2.2.2.2.2.2.2.1, .ref u.2.2.2.2.2.2.2.2.2.2.2.2.2.2.2.2.2.1, .ref u.2.2.2.2.2.2.2.2.2.2.2.2.2.2.2.2.2.2.2.1, .ref u.2.2.2.2.2.2.2.2.2.2.2.2.2.2.2.2.2.2.2.2.2.2.2.2.2.2.2.2.2.2.2.1, .int 0, .int 0, .int 0])), (u.1, .inr (3, [.int 6, .int 6, .int 1, .int 0, .long 0, .long 0, .int 0, .int 0, .int 0, .ref u.2.1, .ref u.2.2.1, .ref u.2.2.2.1, .ref u.2.2.2.2.1, .ref u.2.2.2.2.2.1, .ref u.2.2.2.2.2.2.1, .ref u.2.2.2.2.2.2.2.1])), (u.2.1, .inl (cy 1, 5, .inl (fun _ => 0))), (u.2.2.1, .inl (cy 1, 5, .inl (fun _ => 0))), (u.2.2.2.1, .inl (cy 1, 5, .inl (fun _ => 0))), (u.2.2.2.2.1, .inl (cy 1, 6, .inl (fun _ => 0))), (u.2.2.2.2.2.1, .inl (cy 1, 6, .inl (fun _ => 0))), (u.2.2.2.2.2.2.1, .inl (cy 1, 8, .inl (fun _ => 0))), (u.2.2.2.2.2.2.2.1, .inl (cy 1, 8, .inl (fun _ => 0))), (u.2.2.2.2.2.2.2.2.1, .inr (3, [.int 6, .int 6, .int 1, .int 0, .long 0, .long 0, .int 0, .int 0, .int 0, .ref u.2.2.2.2.2.2.2.2.2.1, .ref u.2.2.2.2.2.2.2.2.2.2.1, .ref u.2.2.2.2.2.2.2.2.2.2.2.1, .ref u.2.2.2.2.2.2.2.2.2.2.2.2.1, .ref u.2.2.2.2.2.2.2.2.2.2.2.2.2.1, .ref u.2.2.2.2.2.2.2.2.2.2.2.2.2.2.1, .ref u.2.2.2.2.2.2.2.2.2.2.2.2.2.2.2.1])), (u.2.2.2.2.2.2.2.2.2.1, .inl (cy 1, 5, .inl (fun _ => 0))), (u.2.2.2.2.2.2.2.2.2.2.1, .inl (cy 1, 5, .inl (fun _ => 0))), (u.2.2.2.2.2.2.2.2.2.2.2.1, .inl (cy 1, 5, .inl (fun _ => 0))), (u.2.2.2.2.2.2.2.2.2.2.2.2.1, .inl (cy 1, 6, .inl (fun _ => 0))), (u.2.2.2.2.2.2.2.2.2.2.2.2.2.1, .inl (cy 1, 6, .inl (fun _ => 0))), (u.2.2.2.2.2.2.2.2.2.2.2.2.2.2.1, .inl (cy 1, 8, .inl (fun _ => 0))), (u.2.2.2.2.2.2.2.2.2.2.2.2.2.2.2.1, .inl (cy 1, 8, .inl (fun _ => 0))), (u.2.2.2.2.2.2.2.2.2.2.2.2.2.2.2.2.1, .inl (cy 3, 2, .inr (.inr (.inr (.inr (fun _ => none)))))), (u.2.2.2.2.2.2.2.2.2.2.2.2.2.2.2.2.2.1, .inr (8, [.ref u.2.2.2.2.2.2.2.2.2.2.2.2.2.2.2.2.2.2.1, .int 0, .int 0, .int 0, .int 0, .int 0, .int 0])), (u.2.2.2.2.2.2.2.2.2.2.2.2.2.2.2.2.2.2.1, .inl (cy 0, 250, .inl (fun _ => 0))), (u.2.2.2.2.2.2.2.2.2.2.2.2.2.2.2.2.2.2.2.1, .inr (4, [.ref u.1, .ref u.2.2.2.2.2.2.2.2.2.2.2.2.2.2.2.2.2.2.2.2.1, .ref u.2.2.2.2.2.2.2.2.2.2.2.2.2.2.2.2.2.2.2.2.2.1, .ref u.2.2.2.2.2.2.2.2.2.2.2.2.2.2.2.2.2.2.2.2.2.2.1, .ref u.2.2.2.2.2.2.2.2.2.2.2.2.2.2.2.2.2.2.2.2.2.2.2.1, .ref u.2.2.2.2.2.2.2.2.2.2.2.2.2.2.2.2.2.2.2.2.2.2.2.2.1, .ref u.2.2.2.2.2.2.2.2.2.2.2.2.2.2.2.2.2.2.2.2.2.2.2.2.2.1, .int 0, .long 0])), (u.2.2.2.2.2.2.2.2.2.2.2.2.2.2.2.2.2.2.2.2.1, .inr (7, [])), (u.2.2.2.2.2.2.2.2.2.2.2.2.2.2.2.2.2.2.2.2.2.1, .inl (cy 4, 6, .inr (.inr (.inr (.inr (va_up (va_up (va_up (va_up (va_up (va_up (fun _ => none) (0 : Int32).toNatClampNeg (some u.2.2.2.2.2.2.2.2.2.2.2.2.2.2.2.2.2.2.2.2.1)) (1 : Int32).toNatClampNeg (some u.2.2.2.2.2.2.2.2.2.2.2.2.2.2.2.2.2.2.2.2.2.2.2.2.2.2.1)) (2 : Int32).toNatClampNeg (some u.2.2.2.2.2.2.2.2.2.2.2.2.2.2.2.2.2.2.2.2.2.2.2.2.2.2.2.1)) (3 : Int32).toNatClampNeg (some u.2.2.2.2.2.2.2.2.2.2.2.2.2.2.2.2.2.2.2.2.2.2.2.2.2.2.2.2.1)) (4 : Int32).toNatClampNeg (some u.2.2.2.2.2.2.2.2.2.2.2.2.2.2.2.2.2.2.2.2.2.2.2.2.2.2.2.2.2.1)) (5 : Int32).toNatClampNeg (some u.2.2.2.2.2.2.2.2.2.2.2.2.2.2.2.2.2.2.2.2.2.2.2.2.2.2.2.2.2.2.1))))))), (u.2.2.2.2.2.2.2.2.2.2.2.2.2.2.2.2.2.2.2.2.2.2.1, .inl (cy 1, 5, .inl (fun _ => 0))), (u.2.2.2.2.2.2.2.2.2.2.2.2.2.2.2.2.2.2.2.2.2.2.2.1, .inl (cy 1, 5, .inl (fun _ => 0))), (u.2.2.2.2.2.2.2.2.2.2.2.2.2.2.2.2.2.2.2.2.2.2.2.2.1, .inl (cy 1, 36, .inl (fun _ => 0))), (u.2.2.2.2.2.2.2.2.2.2.2.2.2.2.2.2.2.2.2.2.2.2.2.2.2.1, .inl (cy 1, 36, .inl (fun _ => 0))), (u.2.2.2.2.2.2.2.2.2.2.2.2.2.2.2.2.2.2.2.2.2.2.2.2.2.2.1, .inr (2, [])), (u.2.2.2.2.2.2.2.2.2.2.2.2.2.2.2.2.2.2.2.2.2.2.2.2.2.2.2.1, .inr (1, [])), (u.2.2.2.2.2.2.2.2.2.2.2.2.2.2.2.2.2.2.2.2.2.2.2.2.2.2.2.2.1, .inr (9, [])), (u.2.2.2.2.2.2.2.2.2.2.2.2.2.2.2.2.2.2.2.2.2.2.2.2.2.2.2.2.2.1, .inr (5, [])), (u.2.2.2.2.2.2.2.2.2.2.2.2.2.2.2.2.2.2.2.2.2.2.2.2.2.2.2.2.2.2.1, .inr (0, [])), (u.2.2.2.2.2.2.2.2.2.2.2.2.2.2.2.2.2.2.2.2.2.2.2.2.2.2.2.2.2.2.2.1, .inr (6, [.ref u.1, .ref u.2.2.2.2.2.2.2.2.2.2.2.2.2.2.2.2.2.2.2.1, .ref u.2.2.2.2.2.2.2.2.2.2.2.2.2.2.2.2.2.2.2.2.2.2.2.2.2.2.2.2.2.2.2.2.1, .ref u.2.2.2.2.2.2.2.2.2.2.2.2.2.2.2.2.2.2.2.2.2.2.2.2.2.2.2.2.2.2.2.2.2.1, .ref u.2.2.2.2.2.2.2.2.2.2.2.2.2.2.2.2.2.2.2.2.2.2.2.2.2.2.2.2.2.2.2.2.2.2])), (u.2.2.2.2.2.2.2.2.2.2.2.2.2.2.2.2.2.2.2.2.2.2.2.2.2.2.2.2.2.2.2.2.1, .inl (cy 1, 36, .inl (fun _ => 0))), (u.2.2.2.2.2.2.2.2.2.2.2.2.2.2.2.2.2.2.2.2.2.2.2.2.2.2.2.2.2.2.2.2.2.1, .inl (cy 1, 1152, .inl (fun _ => 0))), (u.2.2.2.2.2.2.2.2.2.2.2.2.2.2.2.2.2.2.2.2.2.2.2.2.2.2.2.2.2.2.2.2.2.2, .inl (cy 1, 1152, .inl (fun _ => 0)))])) (va_A [(h, .inr (10, [.null, .null, .null, .null, .null, .null, .int 0, .int 0, .int 0]))] sz)) 35 2819 (va_A [(h, .inr (10, [.null, .null, .null, .null, .null, .null, .int 0, .int 0, .int 0]))] sz) := by
  refine Met.ofW (cc := cX10_init) (maxL := 1) (ret := none) (by decide) rfl ?_
  intro p e s m args below meth c s₁ B hml hv
  obtain ⟨rfl, hsz, hP, hKA, hD0⟩ := hv
  have hx := B.exec
  have hb := B.bytes
  have hr := B.returns
  have hts := atoms_spec (ws := wsX10_init) B.pre
  have hown : s.vm.findClass RX10 = some m.cls := findClass_of_methodNamed B.named
  have hlocks := B.notSynchronized
  have hin : meth.name = "<init>" := (name_of_methodNamed B.named B.method).1
  subst hsz
  have hK := hKA.1
  have hD := hD0.self (sz := s.heap.size)
  generalize hAe : va_A [(h, .inr (10, [.null, .null, .null, .null, .null, .null, .int 0, .int 0, .int 0]))] s.heap.size = A at hD ⊢
  have hA : ∀ q : Nat, s.heap.size ≤ q → A q := fun q h => by rw [← hAe]; exact Or.inr h
  have hS : va_S A s.heap s.heap [] := va_S.rf
  have hP : va_P D vwCl [(h, .inr (10, [.null, .null, .null, .null, .null, .null, .int 0, .int 0, .int 0]))] s.heap := hP
  have hl := lv_entry ([.ref h]) (n := 1) (Nat.le_of_ble_eq_true rfl)
  rw [lg_entry_eq]
  generalize (lg_sl ([.ref h]) ++ List.replicate (1 - (lg_sl ([.ref h])).length) Slot.unset).toArray = ls at hl ⊢
  have hl : lv_has ls 1 [(0, .ref h)] := hl
  have z0_ := hts (.methodLink RX10 1 objectInit) (by decide +kernel)
  have z1_ := hts (.instanceMethod objectInit) (by decide +kernel)
  have z2_ := hts (.code objectInit ⟨#[0xb1]⟩ 1 none) (by decide +kernel)
  have z3_ := hts (.classLink RX10 7 RX3) (by decide +kernel)
  have z4_ := hts (.instantiable RX3 16) (by decide +kernel)
  have z5_ := hts (.initialized RX3) (by decide +kernel)
  have zi3_ : ∀ w ∈ u_ws RX3 TX3 16, w ∈ wsX10_init := by decide +kernel
  have z7_ := hts (.methodLink RX10 9 yX3_init) (by decide +kernel)
  have z8_ := hts (.instanceMethod yX3_init) (by decide +kernel)
  have z9_ := hts (.fieldLink RX10 10 "HeardSeen" "now" "LHeardSeen$Garden;") (by decide +kernel)
  have zi10_ : ∀ w ∈ u_ws RX10 TX10 9, w ∈ wsX10_init := by decide +kernel
  have z11_ := hts (.fieldLink RX10 16 "HeardSeen" "draft" "LHeardSeen$Garden;") (by decide +kernel)
  have z12_ := hts (.fieldLink RX10 19 "HeardSeen" "images" "[LHeardSeen$Garden;") (by decide +kernel)
  have z13_ := hts (.classLink RX10 23 RX8) (by decide +kernel)
  have z14_ := hts (.instantiable RX8 7) (by decide +kernel)
  have z15_ := hts (.initialized RX8) (by decide +kernel)
  have zi8_ : ∀ w ∈ u_ws RX8 TX8 7, w ∈ wsX10_init := by decide +kernel
  have z17_ := hts (.instanceMethod yX8_init) (by decide +kernel)
  have z18_ := hts (.fieldLink RX10 26 "HeardSeen" "plan" "LHeardSeen$Plan;") (by decide +kernel)
  have z19_ := hts (.classLink RX10 30 RX4) (by decide +kernel)
  have z20_ := hts (.instantiable RX4 9) (by decide +kernel)
  have z21_ := hts (.initialized RX4) (by decide +kernel)
  have zi4_ : ∀ w ∈ u_ws RX4 TX4 9, w ∈ wsX10_init := by decide +kernel
  have z23_ := hts (.methodLink RX10 32 yX4_init) (by decide +kernel)
  have z24_ := hts (.instanceMethod yX4_init) (by decide +kernel)
  have z25_ := hts (.fieldLink RX10 35 "HeardSeen" "law" "LHeardSeen$Law;") (by decide +kernel)
  have z26_ := hts (.classLink RX10 39 RX6) (by decide +kernel)
  have z27_ := hts (.instantiable RX6 5) (by decide +kernel)
  have z28_ := hts (.initialized RX6) (by decide +kernel)
  have zi6_ : ∀ w ∈ u_ws RX6 TX6 5, w ∈ wsX10_init := by decide +kernel
  have z30_ := hts (.methodLink RX10 41 yX6_init) (by decide +kernel)
  have z31_ := hts (.instanceMethod yX6_init) (by decide +kernel)
  have z32_ := hts (.fieldLink RX10 44 "HeardSeen" "paths" "LHeardSeen$Paths;") (by decide +kernel)
  refine lv_aload_n hx hb dX10_init_0 rfl (lv_at hl 0 rfl) ?_
  refine W.objInit hx hb hown z0_ z1_ z2_ rfl (by rw [hml]; exact hl.1) rfl dX10_init_1 (Nat.le_of_ble_eq_true rfl) (Nat.le_of_ble_eq_true rfl) ?_
  refine W.eq (g2 := F0 m 4 ls []) rfl ?_
  refine lv_aload_n hx hb dX10_init_4 rfl (lv_at hl 0 rfl) ?_
  refine va_new (ci := 3) (fs := [.int 0, .int 0, .int 0, .int 0, .long 0, .long 0, .int 0, .int 0, .int 0, .null, .null, .null, .null, .null, .null, .null]) (C := RX3) (T := TX3) (N := 16) hx hb hts zi3_ tyX3 tyX3_ok hown z3_ z4_ z5_ hK hP hD hS hA rfl (fun j hj => by rcases (show j = 0 ∨ j = 1 ∨ j = 2 ∨ j = 3 ∨ j = 4 ∨ j = 5 ∨ j = 6 ∨ j = 7 ∨ j = 8 ∨ j = 9 ∨ j = 10 ∨ j = 11 ∨ j = 12 ∨ j = 13 ∨ j = 14 ∨ j = 15 by omega) with rfl | rfl | rfl | rfl | rfl | rfl | rfl | rfl | rfl | rfl | rfl | rfl | rfl | rfl | rfl | rfl <;> rfl) (Nat.le_of_ble_eq_true rfl) (Nat.le_of_ble_eq_true rfl) dX10_init_5 (fun q1 H hP hD hS => ?_)
  have hP : va_P D vwCl [(h, .inr (10, [.null, .null, .null, .null, .null, .null, .int 0, .int 0, .int 0])), (q1, .inr (3, [.int 0, .int 0, .int 0, .int 0, .long 0, .long 0, .int 0, .int 0, .int 0, .null, .null, .null, .null, .null, .null, .null]))] H := hP
  have hD : va_D A [(h, .inr (10, [.null, .null, .null, .null, .null, .null, .int 0, .int 0, .int 0])), (q1, .inr (3, [.int 0, .int 0, .int 0, .int 0, .long 0, .long 0, .int 0, .int 0, .int 0, .null, .null, .null, .null, .null, .null, .null]))] := hD
  refine W.widen (k := 1) (n := 16) (Nat.le_of_ble_eq_true rfl) (Nat.le_of_ble_eq_true rfl) ?_
  refine lv_dup hx hb dX10_init_8 rfl ?_
  refine wr_v (wr := [(h, .inr (10, [.null, .null, .null, .null, .null, .null, .int 0, .int 0, .int 0]))]) (va_runI (As := []) (rest := [.ref q1, .ref h]) ⟨hx, hb, hml, hown, hts⟩ (c_X3_init l D cy q1 _) (cwI 0 hts gX10_init_X3_init rfl rfl rfl z5_ z7_ z8_ rfl (by decide +kernel) ⟨Nat.le_of_ble_eq_true rfl, Nat.le_of_ble_eq_true rfl⟩) (pS hKA (hP.sub (ws' := [(q1, .inr (3, [.int 0, .int 0, .int 0, .int 0, .long 0, .long 0, .int 0, .int 0, .int 0, .null, .null, .null, .null, .null, .null, .null]))]) [1] rfl) (hD.sub (ws' := [(q1, .inr (3, [.int 0, .int 0, .int 0, .int 0, .long 0, .long 0, .int 0, .int 0, .int 0, .null, .null, .null, .null, .null, .null, .null]))]) [1] (by decide) rfl)) rfl rfl hl.1 rfl (lv_room (Nat.le_of_ble_eq_true rfl)) dX10_init_9 ⟨Nat.le_of_ble_eq_true rfl, Nat.le_of_ble_eq_true rfl⟩) hP hD hS hA [1] [0] rfl rfl (by decide +kernel) (by decide +kernel) (fun ur2 H locs hwr2 hP hD hS => ?_)
  obtain ⟨k_3, k_4, k_5, k_6, k_7, k_8, k_9⟩ := ur2
  have hP : va_P D vwCl [(h, .inr (10, [.null, .null, .null, .null, .null, .null, .int 0, .int 0, .int 0])), (q1, .inr (3, [.int 6, .int 6, .int 1, .int 0, .long 0, .long 0, .int 0, .int 0, .int 0, .ref k_3, .ref k_4, .ref k_5, .ref k_6, .ref k_7, .ref k_8, .ref k_9])), (k_3, .inl (cy 1, 5, .inl (fun _ => 0))), (k_4, .inl (cy 1, 5, .inl (fun _ => 0))), (k_5, .inl (cy 1, 5, .inl (fun _ => 0))), (k_6, .inl (cy 1, 6, .inl (fun _ => 0))), (k_7, .inl (cy 1, 6, .inl (fun _ => 0))), (k_8, .inl (cy 1, 8, .inl (fun _ => 0))), (k_9, .inl (cy 1, 8, .inl (fun _ => 0)))] H := hP
  have hD : va_D A [(h, .inr (10, [.null, .null, .null, .null, .null, .null, .int 0, .int 0, .int 0])), (q1, .inr (3, [.int 6, .int 6, .int 1, .int 0, .long 0, .long 0, .int 0, .int 0, .int 0, .ref k_3, .ref k_4, .ref k_5, .ref k_6, .ref k_7, .ref k_8, .ref k_9])), (k_3, .inl (cy 1, 5, .inl (fun _ => 0))), (k_4, .inl (cy 1, 5, .inl (fun _ => 0))), (k_5, .inl (cy 1, 5, .inl (fun _ => 0))), (k_6, .inl (cy 1, 6, .inl (fun _ => 0))), (k_7, .inl (cy 1, 6, .inl (fun _ => 0))), (k_8, .inl (cy 1, 8, .inl (fun _ => 0))), (k_9, .inl (cy 1, 8, .inl (fun _ => 0)))] := hD
  refine W.widen (k := 8) (n := 59) (Nat.le_of_ble_eq_true rfl) (Nat.le_of_ble_eq_true rfl) ?_
  refine va_putF (D := D) (ci := 10) (v := .ref q1) (ty := .object "HeardSeen$Garden") (C := RX10) (T := TX10) (N := 9) hx hb hts zi10_ tyX10 tyX10_ok nmX10 hown hK hP hD hS 0 rfl rfl 0 (by decide) z9_ (fun _ h9 => h9) rfl hin rfl (by decide +kernel) rfl rfl (Nat.le_of_ble_eq_true rfl) dX10_init_12 (fun H locs hP hD hS => ?_)
  have hP : va_P D vwCl [(h, .inr (10, [.ref q1, .null, .null, .null, .null, .null, .int 0, .int 0, .int 0])), (q1, .inr (3, [.int 6, .int 6, .int 1, .int 0, .long 0, .long 0, .int 0, .int 0, .int 0, .ref k_3, .ref k_4, .ref k_5, .ref k_6, .ref k_7, .ref k_8, .ref k_9])), (k_3, .inl (cy 1, 5, .inl (fun _ => 0))), (k_4, .inl (cy 1, 5, .inl (fun _ => 0))), (k_5, .inl (cy 1, 5, .inl (fun _ => 0))), (k_6, .inl (cy 1, 6, .inl (fun _ => 0))), (k_7, .inl (cy 1, 6, .inl (fun _ => 0))), (k_8, .inl (cy 1, 8, .inl (fun _ => 0))), (k_9, .inl (cy 1, 8, .inl (fun _ => 0)))] H := hP
  have hD : va_D A [(h, .inr (10, [.ref q1, .null, .null, .null, .null, .null, .int 0, .int 0, .int 0])), (q1, .inr (3, [.int 6, .int 6, .int 1, .int 0, .long 0, .long 0, .int 0, .int 0, .int 0, .ref k_3, .ref k_4, .ref k_5, .ref k_6, .ref k_7, .ref k_8, .ref k_9])), (k_3, .inl (cy 1, 5, .inl (fun _ => 0))), (k_4, .inl (cy 1, 5, .inl (fun _ => 0))), (k_5, .inl (cy 1, 5, .inl (fun _ => 0))), (k_6, .inl (cy 1, 6, .inl (fun _ => 0))), (k_7, .inl (cy 1, 6, .inl (fun _ => 0))), (k_8, .inl (cy 1, 8, .inl (fun _ => 0))), (k_9, .inl (cy 1, 8, .inl (fun _ => 0)))] := hD
  refine lv_aload_n hx hb dX10_init_15 rfl (lv_at hl 0 rfl) ?_
  refine va_new (ci := 3) (fs := [.int 0, .int 0, .int 0, .int 0, .long 0, .long 0, .int 0, .int 0, .int 0, .null, .null, .null, .null, .null, .null, .null]) (C := RX3) (T := TX3) (N := 16) hx hb hts zi3_ tyX3 tyX3_ok hown z3_ z4_ z5_ hK hP hD hS hA rfl (fun j hj => by rcases (show j = 0 ∨ j = 1 ∨ j = 2 ∨ j = 3 ∨ j = 4 ∨ j = 5 ∨ j = 6 ∨ j = 7 ∨ j = 8 ∨ j = 9 ∨ j = 10 ∨ j = 11 ∨ j = 12 ∨ j = 13 ∨ j = 14 ∨ j = 15 by omega) with rfl | rfl | rfl | rfl | rfl | rfl | rfl | rfl | rfl | rfl | rfl | rfl | rfl | rfl | rfl | rfl <;> rfl) (Nat.le_of_ble_eq_true rfl) (Nat.le_of_ble_eq_true rfl) dX10_init_16 (fun q10 H hP hD hS => ?_)
  have hP : va_P D vwCl [(h, .inr (10, [.ref q1, .null, .null, .null, .null, .null, .int 0, .int 0, .int 0])), (q1, .inr (3, [.int 6, .int 6, .int 1, .int 0, .long 0, .long 0, .int 0, .int 0, .int 0, .ref k_3, .ref k_4, .ref k_5, .ref k_6, .ref k_7, .ref k_8, .ref k_9])), (k_3, .inl (cy 1, 5, .inl (fun _ => 0))), (k_4, .inl (cy 1, 5, .inl (fun _ => 0))), (k_5, .inl (cy 1, 5, .inl (fun _ => 0))), (k_6, .inl (cy 1, 6, .inl (fun _ => 0))), (k_7, .inl (cy 1, 6, .inl (fun _ => 0))), (k_8, .inl (cy 1, 8, .inl (fun _ => 0))), (k_9, .inl (cy 1, 8, .inl (fun _ => 0))), (q10, .inr (3, [.int 0, .int 0, .int 0, .int 0, .long 0, .long 0, .int 0, .int 0, .int 0, .null, .null, .null, .null, .null, .null, .null]))] H := hP
  have hD : va_D A [(h, .inr (10, [.ref q1, .null, .null, .null, .null, .null, .int 0, .int 0, .int 0])), (q1, .inr (3, [.int 6, .int 6, .int 1, .int 0, .long 0, .long 0, .int 0, .int 0, .int 0, .ref k_3, .ref k_4, .ref k_5, .ref k_6, .ref k_7, .ref k_8, .ref k_9])), (k_3, .inl (cy 1, 5, .inl (fun _ => 0))), (k_4, .inl (cy 1, 5, .inl (fun _ => 0))), (k_5, .inl (cy 1, 5, .inl (fun _ => 0))), (k_6, .inl (cy 1, 6, .inl (fun _ => 0))), (k_7, .inl (cy 1, 6, .inl (fun _ => 0))), (k_8, .inl (cy 1, 8, .inl (fun _ => 0))), (k_9, .inl (cy 1, 8, .inl (fun _ => 0))), (q10, .inr (3, [.int 0, .int 0, .int 0, .int 0, .long 0, .long 0, .int 0, .int 0, .int 0, .null, .null, .null, .null, .null, .null, .null]))] := hD
  refine W.widen (k := 9) (n := 75) (Nat.le_of_ble_eq_true rfl) (Nat.le_of_ble_eq_true rfl) ?_
  refine lv_dup hx hb dX10_init_19 rfl ?_
  refine wr_v (wr := [(h, .inr (10, [.ref q1, .null, .null, .null, .null, .null, .int 0, .int 0, .int 0])), (q1, .inr (3, [.int 6, .int 6, .int 1, .int 0, .long 0, .long 0, .int 0, .int 0, .int 0, .ref k_3, .ref k_4, .ref k_5, .ref k_6, .ref k_7, .ref k_8, .ref k_9])), (k_3, .inl (cy 1, 5, .inl (fun _ => 0))), (k_4, .inl (cy 1, 5, .inl (fun _ => 0))), (k_5, .inl (cy 1, 5, .inl (fun _ => 0))), (k_6, .inl (cy 1, 6, .inl (fun _ => 0))), (k_7, .inl (cy 1, 6, .inl (fun _ => 0))), (k_8, .inl (cy 1, 8, .inl (fun _ => 0))), (k_9, .inl (cy 1, 8, .inl (fun _ => 0)))]) (va_runI (As := []) (rest := [.ref q10, .ref h]) ⟨hx, hb, hml, hown, hts⟩ (c_X3_init l D cy q10 _) (cwI 0 hts gX10_init_X3_init rfl rfl rfl z5_ z7_ z8_ rfl (by decide +kernel) ⟨Nat.le_of_ble_eq_true rfl, Nat.le_of_ble_eq_true rfl⟩) (pS hKA (hP.sub (ws' := [(q10, .inr (3, [.int 0, .int 0, .int 0, .int 0, .long 0, .long 0, .int 0, .int 0, .int 0, .null, .null, .null, .null, .null, .null, .null]))]) [9] rfl) (hD.sub (ws' := [(q10, .inr (3, [.int 0, .int 0, .int 0, .int 0, .long 0, .long 0, .int 0, .int 0, .int 0, .null, .null, .null, .null, .null, .null, .null]))]) [9] (by decide) rfl)) rfl rfl hl.1 rfl (lv_room (Nat.le_of_ble_eq_true rfl)) dX10_init_20 ⟨Nat.le_of_ble_eq_true rfl, Nat.le_of_ble_eq_true rfl⟩) hP hD hS hA [9] [0, 1, 2, 3, 4, 5, 6, 7, 8] rfl rfl (by decide +kernel) (by decide +kernel) (fun ur11 H locs hwr11 hP hD hS => ?_)
  obtain ⟨k_12, k_13, k_14, k_15, k_16, k_17, k_18⟩ := ur11
  have hP : va_P D vwCl [(h, .inr (10, [.ref q1, .null, .null, .null, .null, .null, .int 0, .int 0, .int 0])), (q1, .inr (3, [.int 6, .int 6, .int 1, .int 0, .long 0, .long 0, .int 0, .int 0, .int 0, .ref k_3, .ref k_4, .ref k_5, .ref k_6, .ref k_7, .ref k_8, .ref k_9])), (k_3, .inl (cy 1, 5, .inl (fun _ => 0))), (k_4, .inl (cy 1, 5, .inl (fun _ => 0))), (k_5, .inl (cy 1, 5, .inl (fun _ => 0))), (k_6, .inl (cy 1, 6, .inl (fun _ => 0))), (k_7, .inl (cy 1, 6, .inl (fun _ => 0))), (k_8, .inl (cy 1, 8, .inl (fun _ => 0))), (k_9, .inl (cy 1, 8, .inl (fun _ => 0))), (q10, .inr (3, [.int 6, .int 6, .int 1, .int 0, .long 0, .long 0, .int 0, .int 0, .int 0, .ref k_12, .ref k_13, .ref k_14, .ref k_15, .ref k_16, .ref k_17, .ref k_18])), (k_12, .inl (cy 1, 5, .inl (fun _ => 0))), (k_13, .inl (cy 1, 5, .inl (fun _ => 0))), (k_14, .inl (cy 1, 5, .inl (fun _ => 0))), (k_15, .inl (cy 1, 6, .inl (fun _ => 0))), (k_16, .inl (cy 1, 6, .inl (fun _ => 0))), (k_17, .inl (cy 1, 8, .inl (fun _ => 0))), (k_18, .inl (cy 1, 8, .inl (fun _ => 0)))] H := hP
  have hD : va_D A [(h, .inr (10, [.ref q1, .null, .null, .null, .null, .null, .int 0, .int 0, .int 0])), (q1, .inr (3, [.int 6, .int 6, .int 1, .int 0, .long 0, .long 0, .int 0, .int 0, .int 0, .ref k_3, .ref k_4, .ref k_5, .ref k_6, .ref k_7, .ref k_8, .ref k_9])), (k_3, .inl (cy 1, 5, .inl (fun _ => 0))), (k_4, .inl (cy 1, 5, .inl (fun _ => 0))), (k_5, .inl (cy 1, 5, .inl (fun _ => 0))), (k_6, .inl (cy 1, 6, .inl (fun _ => 0))), (k_7, .inl (cy 1, 6, .inl (fun _ => 0))), (k_8, .inl (cy 1, 8, .inl (fun _ => 0))), (k_9, .inl (cy 1, 8, .inl (fun _ => 0))), (q10, .inr (3, [.int 6, .int 6, .int 1, .int 0, .long 0, .long 0, .int 0, .int 0, .int 0, .ref k_12, .ref k_13, .ref k_14, .ref k_15, .ref k_16, .ref k_17, .ref k_18])), (k_12, .inl (cy 1, 5, .inl (fun _ => 0))), (k_13, .inl (cy 1, 5, .inl (fun _ => 0))), (k_14, .inl (cy 1, 5, .inl (fun _ => 0))), (k_15, .inl (cy 1, 6, .inl (fun _ => 0))), (k_16, .inl (cy 1, 6, .inl (fun _ => 0))), (k_17, .inl (cy 1, 8, .inl (fun _ => 0))), (k_18, .inl (cy 1, 8, .inl (fun _ => 0)))] := hD
  refine W.widen (k := 16) (n := 118) (Nat.le_of_ble_eq_true rfl) (Nat.le_of_ble_eq_true rfl) ?_
  refine va_putF (D := D) (ci := 10) (v := .ref q10) (ty := .object "HeardSeen$Garden") (C := RX10) (T := TX10) (N := 9) hx hb hts zi10_ tyX10 tyX10_ok nmX10 hown hK hP hD hS 0 rfl rfl 1 (by decide) z11_ (fun _ h9 => h9) rfl hin rfl (by decide +kernel) rfl rfl (Nat.le_of_ble_eq_true rfl) dX10_init_23 (fun H locs hP hD hS => ?_)
  have hP : va_P D vwCl [(h, .inr (10, [.ref q1, .ref q10, .null, .null, .null, .null, .int 0, .int 0, .int 0])), (q1, .inr (3, [.int 6, .int 6, .int 1, .int 0, .long 0, .long 0, .int 0, .int 0, .int 0, .ref k_3, .ref k_4, .ref k_5, .ref k_6, .ref k_7, .ref k_8, .ref k_9])), (k_3, .inl (cy 1, 5, .inl (fun _ => 0))), (k_4, .inl (cy 1, 5, .inl (fun _ => 0))), (k_5, .inl (cy 1, 5, .inl (fun _ => 0))), (k_6, .inl (cy 1, 6, .inl (fun _ => 0))), (k_7, .inl (cy 1, 6, .inl (fun _ => 0))), (k_8, .inl (cy 1, 8, .inl (fun _ => 0))), (k_9, .inl (cy 1, 8, .inl (fun _ => 0))), (q10, .inr (3, [.int 6, .int 6, .int 1, .int 0, .long 0, .long 0, .int 0, .int 0, .int 0, .ref k_12, .ref k_13, .ref k_14, .ref k_15, .ref k_16, .ref k_17, .ref k_18])), (k_12, .inl (cy 1, 5, .inl (fun _ => 0))), (k_13, .inl (cy 1, 5, .inl (fun _ => 0))), (k_14, .inl (cy 1, 5, .inl (fun _ => 0))), (k_15, .inl (cy 1, 6, .inl (fun _ => 0))), (k_16, .inl (cy 1, 6, .inl (fun _ => 0))), (k_17, .inl (cy 1, 8, .inl (fun _ => 0))), (k_18, .inl (cy 1, 8, .inl (fun _ => 0)))] H := hP
  have hD : va_D A [(h, .inr (10, [.ref q1, .ref q10, .null, .null, .null, .null, .int 0, .int 0, .int 0])), (q1, .inr (3, [.int 6, .int 6, .int 1, .int 0, .long 0, .long 0, .int 0, .int 0, .int 0, .ref k_3, .ref k_4, .ref k_5, .ref k_6, .ref k_7, .ref k_8, .ref k_9])), (k_3, .inl (cy 1, 5, .inl (fun _ => 0))), (k_4, .inl (cy 1, 5, .inl (fun _ => 0))), (k_5, .inl (cy 1, 5, .inl (fun _ => 0))), (k_6, .inl (cy 1, 6, .inl (fun _ => 0))), (k_7, .inl (cy 1, 6, .inl (fun _ => 0))), (k_8, .inl (cy 1, 8, .inl (fun _ => 0))), (k_9, .inl (cy 1, 8, .inl (fun _ => 0))), (q10, .inr (3, [.int 6, .int 6, .int 1, .int 0, .long 0, .long 0, .int 0, .int 0, .int 0, .ref k_12, .ref k_13, .ref k_14, .ref k_15, .ref k_16, .ref k_17, .ref k_18])), (k_12, .inl (cy 1, 5, .inl (fun _ => 0))), (k_13, .inl (cy 1, 5, .inl (fun _ => 0))), (k_14, .inl (cy 1, 5, .inl (fun _ => 0))), (k_15, .inl (cy 1, 6, .inl (fun _ => 0))), (k_16, .inl (cy 1, 6, .inl (fun _ => 0))), (k_17, .inl (cy 1, 8, .inl (fun _ => 0))), (k_18, .inl (cy 1, 8, .inl (fun _ => 0)))] := hD
  refine lv_aload_n hx hb dX10_init_26 rfl (lv_at hl 0 rfl) ?_
  refine lv_iconst (v := 2) hx hb dX10_init_27 (by decide) ?_
  refine my_newq hx hb hown z3_ (hKA.2 (.arrayOver (.object RX3)) (by decide +kernel)) hK hP hD hS hA 3 rfl (by decide) (N' := 2) (by decide +kernel) (by decide +kernel) (Nat.le_of_ble_eq_true rfl) (Nat.le_of_ble_eq_true rfl) dX10_init_28 (fun q19 H hP hD hS => ?_)
  have hP : va_P D vwCl [(h, .inr (10, [.ref q1, .ref q10, .null, .null, .null, .null, .int 0, .int 0, .int 0])), (q1, .inr (3, [.int 6, .int 6, .int 1, .int 0, .long 0, .long 0, .int 0, .int 0, .int 0, .ref k_3, .ref k_4, .ref k_5, .ref k_6, .ref k_7, .ref k_8, .ref k_9])), (k_3, .inl (cy 1, 5, .inl (fun _ => 0))), (k_4, .inl (cy 1, 5, .inl (fun _ => 0))), (k_5, .inl (cy 1, 5, .inl (fun _ => 0))), (k_6, .inl (cy 1, 6, .inl (fun _ => 0))), (k_7, .inl (cy 1, 6, .inl (fun _ => 0))), (k_8, .inl (cy 1, 8, .inl (fun _ => 0))), (k_9, .inl (cy 1, 8, .inl (fun _ => 0))), (q10, .inr (3, [.int 6, .int 6, .int 1, .int 0, .long 0, .long 0, .int 0, .int 0, .int 0, .ref k_12, .ref k_13, .ref k_14, .ref k_15, .ref k_16, .ref k_17, .ref k_18])), (k_12, .inl (cy 1, 5, .inl (fun _ => 0))), (k_13, .inl (cy 1, 5, .inl (fun _ => 0))), (k_14, .inl (cy 1, 5, .inl (fun _ => 0))), (k_15, .inl (cy 1, 6, .inl (fun _ => 0))), (k_16, .inl (cy 1, 6, .inl (fun _ => 0))), (k_17, .inl (cy 1, 8, .inl (fun _ => 0))), (k_18, .inl (cy 1, 8, .inl (fun _ => 0))), (q19, .inl (cy 3, 2, .inr (.inr (.inr (.inr (fun _ => none))))))] H := hP
  have hD : va_D A [(h, .inr (10, [.ref q1, .ref q10, .null, .null, .null, .null, .int 0, .int 0, .int 0])), (q1, .inr (3, [.int 6, .int 6, .int 1, .int 0, .long 0, .long 0, .int 0, .int 0, .int 0, .ref k_3, .ref k_4, .ref k_5, .ref k_6, .ref k_7, .ref k_8, .ref k_9])), (k_3, .inl (cy 1, 5, .inl (fun _ => 0))), (k_4, .inl (cy 1, 5, .inl (fun _ => 0))), (k_5, .inl (cy 1, 5, .inl (fun _ => 0))), (k_6, .inl (cy 1, 6, .inl (fun _ => 0))), (k_7, .inl (cy 1, 6, .inl (fun _ => 0))), (k_8, .inl (cy 1, 8, .inl (fun _ => 0))), (k_9, .inl (cy 1, 8, .inl (fun _ => 0))), (q10, .inr (3, [.int 6, .int 6, .int 1, .int 0, .long 0, .long 0, .int 0, .int 0, .int 0, .ref k_12, .ref k_13, .ref k_14, .ref k_15, .ref k_16, .ref k_17, .ref k_18])), (k_12, .inl (cy 1, 5, .inl (fun _ => 0))), (k_13, .inl (cy 1, 5, .inl (fun _ => 0))), (k_14, .inl (cy 1, 5, .inl (fun _ => 0))), (k_15, .inl (cy 1, 6, .inl (fun _ => 0))), (k_16, .inl (cy 1, 6, .inl (fun _ => 0))), (k_17, .inl (cy 1, 8, .inl (fun _ => 0))), (k_18, .inl (cy 1, 8, .inl (fun _ => 0))), (q19, .inl (cy 3, 2, .inr (.inr (.inr (.inr (fun _ => none))))))] := hD
  refine W.widen (k := 17) (n := 120) (Nat.le_of_ble_eq_true rfl) (Nat.le_of_ble_eq_true rfl) ?_
  refine va_putF (D := D) (ci := 10) (v := .ref q19) (ty := .array (.object "HeardSeen$Garden")) (C := RX10) (T := TX10) (N := 9) hx hb hts zi10_ tyX10 tyX10_ok nmX10 hown hK hP hD hS 0 rfl rfl 2 (by decide) z12_ (fun _ h9 => h9) rfl hin rfl (by decide +kernel) rfl rfl (Nat.le_of_ble_eq_true rfl) dX10_init_31 (fun H locs hP hD hS => ?_)
  have hP : va_P D vwCl [(h, .inr (10, [.ref q1, .ref q10, .ref q19, .null, .null, .null, .int 0, .int 0, .int 0])), (q1, .inr (3, [.int 6, .int 6, .int 1, .int 0, .long 0, .long 0, .int 0, .int 0, .int 0, .ref k_3, .ref k_4, .ref k_5, .ref k_6, .ref k_7, .ref k_8, .ref k_9])), (k_3, .inl (cy 1, 5, .inl (fun _ => 0))), (k_4, .inl (cy 1, 5, .inl (fun _ => 0))), (k_5, .inl (cy 1, 5, .inl (fun _ => 0))), (k_6, .inl (cy 1, 6, .inl (fun _ => 0))), (k_7, .inl (cy 1, 6, .inl (fun _ => 0))), (k_8, .inl (cy 1, 8, .inl (fun _ => 0))), (k_9, .inl (cy 1, 8, .inl (fun _ => 0))), (q10, .inr (3, [.int 6, .int 6, .int 1, .int 0, .long 0, .long 0, .int 0, .int 0, .int 0, .ref k_12, .ref k_13, .ref k_14, .ref k_15, .ref k_16, .ref k_17, .ref k_18])), (k_12, .inl (cy 1, 5, .inl (fun _ => 0))), (k_13, .inl (cy 1, 5, .inl (fun _ => 0))), (k_14, .inl (cy 1, 5, .inl (fun _ => 0))), (k_15, .inl (cy 1, 6, .inl (fun _ => 0))), (k_16, .inl (cy 1, 6, .inl (fun _ => 0))), (k_17, .inl (cy 1, 8, .inl (fun _ => 0))), (k_18, .inl (cy 1, 8, .inl (fun _ => 0))), (q19, .inl (cy 3, 2, .inr (.inr (.inr (.inr (fun _ => none))))))] H := hP
  have hD : va_D A [(h, .inr (10, [.ref q1, .ref q10, .ref q19, .null, .null, .null, .int 0, .int 0, .int 0])), (q1, .inr (3, [.int 6, .int 6, .int 1, .int 0, .long 0, .long 0, .int 0, .int 0, .int 0, .ref k_3, .ref k_4, .ref k_5, .ref k_6, .ref k_7, .ref k_8, .ref k_9])), (k_3, .inl (cy 1, 5, .inl (fun _ => 0))), (k_4, .inl (cy 1, 5, .inl (fun _ => 0))), (k_5, .inl (cy 1, 5, .inl (fun _ => 0))), (k_6, .inl (cy 1, 6, .inl (fun _ => 0))), (k_7, .inl (cy 1, 6, .inl (fun _ => 0))), (k_8, .inl (cy 1, 8, .inl (fun _ => 0))), (k_9, .inl (cy 1, 8, .inl (fun _ => 0))), (q10, .inr (3, [.int 6, .int 6, .int 1, .int 0, .long 0, .long 0, .int 0, .int 0, .int 0, .ref k_12, .ref k_13, .ref k_14, .ref k_15, .ref k_16, .ref k_17, .ref k_18])), (k_12, .inl (cy 1, 5, .inl (fun _ => 0))), (k_13, .inl (cy 1, 5, .inl (fun _ => 0))), (k_14, .inl (cy 1, 5, .inl (fun _ => 0))), (k_15, .inl (cy 1, 6, .inl (fun _ => 0))), (k_16, .inl (cy 1, 6, .inl (fun _ => 0))), (k_17, .inl (cy 1, 8, .inl (fun _ => 0))), (k_18, .inl (cy 1, 8, .inl (fun _ => 0))), (q19, .inl (cy 3, 2, .inr (.inr (.inr (.inr (fun _ => none))))))] := hD
  refine lv_aload_n hx hb dX10_init_34 rfl (lv_at hl 0 rfl) ?_
  refine va_new (ci := 8) (fs := [.null, .int 0, .int 0, .int 0, .int 0, .int 0, .int 0]) (C := RX8) (T := TX8) (N := 7) hx hb hts zi8_ tyX8 tyX8_ok hown z13_ z14_ z15_ hK hP hD hS hA rfl (fun j hj => by rcases (show j = 0 ∨ j = 1 ∨ j = 2 ∨ j = 3 ∨ j = 4 ∨ j = 5 ∨ j = 6 by omega) with rfl | rfl | rfl | rfl | rfl | rfl | rfl <;> rfl) (Nat.le_of_ble_eq_true rfl) (Nat.le_of_ble_eq_true rfl) dX10_init_35 (fun q20 H hP hD hS => ?_)
  have hP : va_P D vwCl [(h, .inr (10, [.ref q1, .ref q10, .ref q19, .null, .null, .null, .int 0, .int 0, .int 0])), (q1, .inr (3, [.int 6, .int 6, .int 1, .int 0, .long 0, .long 0, .int 0, .int 0, .int 0, .ref k_3, .ref k_4, .ref k_5, .ref k_6, .ref k_7, .ref k_8, .ref k_9])), (k_3, .inl (cy 1, 5, .inl (fun _ => 0))), (k_4, .inl (cy 1, 5, .inl (fun _ => 0))), (k_5, .inl (cy 1, 5, .inl (fun _ => 0))), (k_6, .inl (cy 1, 6, .inl (fun _ => 0))), (k_7, .inl (cy 1, 6, .inl (fun _ => 0))), (k_8, .inl (cy 1, 8, .inl (fun _ => 0))), (k_9, .inl (cy 1, 8, .inl (fun _ => 0))), (q10, .inr (3, [.int 6, .int 6, .int 1, .int 0, .long 0, .long 0, .int 0, .int 0, .int 0, .ref k_12, .ref k_13, .ref k_14, .ref k_15, .ref k_16, .ref k_17, .ref k_18])), (k_12, .inl (cy 1, 5, .inl (fun _ => 0))), (k_13, .inl (cy 1, 5, .inl (fun _ => 0))), (k_14, .inl (cy 1, 5, .inl (fun _ => 0))), (k_15, .inl (cy 1, 6, .inl (fun _ => 0))), (k_16, .inl (cy 1, 6, .inl (fun _ => 0))), (k_17, .inl (cy 1, 8, .inl (fun _ => 0))), (k_18, .inl (cy 1, 8, .inl (fun _ => 0))), (q19, .inl (cy 3, 2, .inr (.inr (.inr (.inr (fun _ => none)))))), (q20, .inr (8, [.null, .int 0, .int 0, .int 0, .int 0, .int 0, .int 0]))] H := hP
  have hD : va_D A [(h, .inr (10, [.ref q1, .ref q10, .ref q19, .null, .null, .null, .int 0, .int 0, .int 0])), (q1, .inr (3, [.int 6, .int 6, .int 1, .int 0, .long 0, .long 0, .int 0, .int 0, .int 0, .ref k_3, .ref k_4, .ref k_5, .ref k_6, .ref k_7, .ref k_8, .ref k_9])), (k_3, .inl (cy 1, 5, .inl (fun _ => 0))), (k_4, .inl (cy 1, 5, .inl (fun _ => 0))), (k_5, .inl (cy 1, 5, .inl (fun _ => 0))), (k_6, .inl (cy 1, 6, .inl (fun _ => 0))), (k_7, .inl (cy 1, 6, .inl (fun _ => 0))), (k_8, .inl (cy 1, 8, .inl (fun _ => 0))), (k_9, .inl (cy 1, 8, .inl (fun _ => 0))), (q10, .inr (3, [.int 6, .int 6, .int 1, .int 0, .long 0, .long 0, .int 0, .int 0, .int 0, .ref k_12, .ref k_13, .ref k_14, .ref k_15, .ref k_16, .ref k_17, .ref k_18])), (k_12, .inl (cy 1, 5, .inl (fun _ => 0))), (k_13, .inl (cy 1, 5, .inl (fun _ => 0))), (k_14, .inl (cy 1, 5, .inl (fun _ => 0))), (k_15, .inl (cy 1, 6, .inl (fun _ => 0))), (k_16, .inl (cy 1, 6, .inl (fun _ => 0))), (k_17, .inl (cy 1, 8, .inl (fun _ => 0))), (k_18, .inl (cy 1, 8, .inl (fun _ => 0))), (q19, .inl (cy 3, 2, .inr (.inr (.inr (.inr (fun _ => none)))))), (q20, .inr (8, [.null, .int 0, .int 0, .int 0, .int 0, .int 0, .int 0]))] := hD
  refine W.widen (k := 18) (n := 127) (Nat.le_of_ble_eq_true rfl) (Nat.le_of_ble_eq_true rfl) ?_
  refine lv_dup hx hb dX10_init_38 rfl ?_
  refine wr_v (wr := [(h, .inr (10, [.ref q1, .ref q10, .ref q19, .null, .null, .null, .int 0, .int 0, .int 0])), (q1, .inr (3, [.int 6, .int 6, .int 1, .int 0, .long 0, .long 0, .int 0, .int 0, .int 0, .ref k_3, .ref k_4, .ref k_5, .ref k_6, .ref k_7, .ref k_8, .ref k_9])), (k_3, .inl (cy 1, 5, .inl (fun _ => 0))), (k_4, .inl (cy 1, 5, .inl (fun _ => 0))), (k_5, .inl (cy 1, 5, .inl (fun _ => 0))), (k_6, .inl (cy 1, 6, .inl (fun _ => 0))), (k_7, .inl (cy 1, 6, .inl (fun _ => 0))), (k_8, .inl (cy 1, 8, .inl (fun _ => 0))), (k_9, .inl (cy 1, 8, .inl (fun _ => 0))), (q10, .inr (3, [.int 6, .int 6, .int 1, .int 0, .long 0, .long 0, .int 0, .int 0, .int 0, .ref k_12, .ref k_13, .ref k_14, .ref k_15, .ref k_16, .ref k_17, .ref k_18])), (k_12, .inl (cy 1, 5, .inl (fun _ => 0))), (k_13, .inl (cy 1, 5, .inl (fun _ => 0))), (k_14, .inl (cy 1, 5, .inl (fun _ => 0))), (k_15, .inl (cy 1, 6, .inl (fun _ => 0))), (k_16, .inl (cy 1, 6, .inl (fun _ => 0))), (k_17, .inl (cy 1, 8, .inl (fun _ => 0))), (k_18, .inl (cy 1, 8, .inl (fun _ => 0))), (q19, .inl (cy 3, 2, .inr (.inr (.inr (.inr (fun _ => none))))))]) (va_runIN (As := []) (rest := [.ref q20, .ref h]) ⟨hx, hb, hml, hown, hts⟩ (c_X8_init l D cy q20 _) ⟨(va_cnB 0 hts gX10_init_X8_init_n25 rfl rfl rfl (hKA.2 (.methodLinkNest RX10 25 yX8_init RX10) (by decide +kernel)) z15_ (by decide +kernel) ⟨Nat.le_of_ble_eq_true rfl, Nat.le_of_ble_eq_true rfl⟩), rfl, z17_⟩ (pS hKA (hP.sub (ws' := [(q20, .inr (8, [.null, .int 0, .int 0, .int 0, .int 0, .int 0, .int 0]))]) [18] rfl) (hD.sub (ws' := [(q20, .inr (8, [.null, .int 0, .int 0, .int 0, .int 0, .int 0, .int 0]))]) [18] (by decide) rfl)) rfl rfl hl.1 rfl (lv_room (Nat.le_of_ble_eq_true rfl)) dX10_init_39 ⟨Nat.le_of_ble_eq_true rfl, Nat.le_of_ble_eq_true rfl⟩) hP hD hS hA [18] [0, 1, 2, 3, 4, 5, 6, 7, 8, 9, 10, 11, 12, 13, 14, 15, 16, 17] rfl rfl (by decide +kernel) (by decide +kernel) (fun ur21 H locs hwr21 hP hD hS => ?_)
  obtain ⟨y_22, rfl⟩ : ∃ z, z = ur21 := ⟨_, rfl⟩
  have hP : va_P D vwCl [(h, .inr (10, [.ref q1, .ref q10, .ref q19, .null, .null, .null, .int 0, .int 0, .int 0])), (q1, .inr (3, [.int 6, .int 6, .int 1, .int 0, .long 0, .long 0, .int 0, .int 0, .int 0, .ref k_3, .ref k_4, .ref k_5, .ref k_6, .ref k_7, .ref k_8, .ref k_9])), (k_3, .inl (cy 1, 5, .inl (fun _ => 0))), (k_4, .inl (cy 1, 5, .inl (fun _ => 0))), (k_5, .inl (cy 1, 5, .inl (fun _ => 0))), (k_6, .inl (cy 1, 6, .inl (fun _ => 0))), (k_7, .inl (cy 1, 6, .inl (fun _ => 0))), (k_8, .inl (cy 1, 8, .inl (fun _ => 0))), (k_9, .inl (cy 1, 8, .inl (fun _ => 0))), (q10, .inr (3, [.int 6, .int 6, .int 1, .int 0, .long 0, .long 0, .int 0, .int 0, .int 0, .ref k_12, .ref k_13, .ref k_14, .ref k_15, .ref k_16, .ref k_17, .ref k_18])), (k_12, .inl (cy 1, 5, .inl (fun _ => 0))), (k_13, .inl (cy 1, 5, .inl (fun _ => 0))), (k_14, .inl (cy 1, 5, .inl (fun _ => 0))), (k_15, .inl (cy 1, 6, .inl (fun _ => 0))), (k_16, .inl (cy 1, 6, .inl (fun _ => 0))), (k_17, .inl (cy 1, 8, .inl (fun _ => 0))), (k_18, .inl (cy 1, 8, .inl (fun _ => 0))), (q19, .inl (cy 3, 2, .inr (.inr (.inr (.inr (fun _ => none)))))), (q20, .inr (8, [.ref y_22, .int 0, .int 0, .int 0, .int 0, .int 0, .int 0])), (y_22, .inl (cy 0, 250, .inl (fun _ => 0)))] H := hP
  have hD : va_D A [(h, .inr (10, [.ref q1, .ref q10, .ref q19, .null, .null, .null, .int 0, .int 0, .int 0])), (q1, .inr (3, [.int 6, .int 6, .int 1, .int 0, .long 0, .long 0, .int 0, .int 0, .int 0, .ref k_3, .ref k_4, .ref k_5, .ref k_6, .ref k_7, .ref k_8, .ref k_9])), (k_3, .inl (cy 1, 5, .inl (fun _ => 0))), (k_4, .inl (cy 1, 5, .inl (fun _ => 0))), (k_5, .inl (cy 1, 5, .inl (fun _ => 0))), (k_6, .inl (cy 1, 6, .inl (fun _ => 0))), (k_7, .inl (cy 1, 6, .inl (fun _ => 0))), (k_8, .inl (cy 1, 8, .inl (fun _ => 0))), (k_9, .inl (cy 1, 8, .inl (fun _ => 0))), (q10, .inr (3, [.int 6, .int 6, .int 1, .int 0, .long 0, .long 0, .int 0, .int 0, .int 0, .ref k_12, .ref k_13, .ref k_14, .ref k_15, .ref k_16, .ref k_17, .ref k_18])), (k_12, .inl (cy 1, 5, .inl (fun _ => 0))), (k_13, .inl (cy 1, 5, .inl (fun _ => 0))), (k_14, .inl (cy 1, 5, .inl (fun _ => 0))), (k_15, .inl (cy 1, 6, .inl (fun _ => 0))), (k_16, .inl (cy 1, 6, .inl (fun _ => 0))), (k_17, .inl (cy 1, 8, .inl (fun _ => 0))), (k_18, .inl (cy 1, 8, .inl (fun _ => 0))), (q19, .inl (cy 3, 2, .inr (.inr (.inr (.inr (fun _ => none)))))), (q20, .inr (8, [.ref y_22, .int 0, .int 0, .int 0, .int 0, .int 0, .int 0])), (y_22, .inl (cy 0, 250, .inl (fun _ => 0)))] := hD
  refine W.widen (k := 19) (n := 377) (Nat.le_of_ble_eq_true rfl) (Nat.le_of_ble_eq_true rfl) ?_
  refine va_putF (D := D) (ci := 10) (v := .ref q20) (ty := .object "HeardSeen$Plan") (C := RX10) (T := TX10) (N := 9) hx hb hts zi10_ tyX10 tyX10_ok nmX10 hown hK hP hD hS 0 rfl rfl 3 (by decide) z18_ (fun _ h9 => h9) rfl hin rfl (by decide +kernel) rfl rfl (Nat.le_of_ble_eq_true rfl) dX10_init_42 (fun H locs hP hD hS => ?_)
  have hP : va_P D vwCl [(h, .inr (10, [.ref q1, .ref q10, .ref q19, .ref q20, .null, .null, .int 0, .int 0, .int 0])), (q1, .inr (3, [.int 6, .int 6, .int 1, .int 0, .long 0, .long 0, .int 0, .int 0, .int 0, .ref k_3, .ref k_4, .ref k_5, .ref k_6, .ref k_7, .ref k_8, .ref k_9])), (k_3, .inl (cy 1, 5, .inl (fun _ => 0))), (k_4, .inl (cy 1, 5, .inl (fun _ => 0))), (k_5, .inl (cy 1, 5, .inl (fun _ => 0))), (k_6, .inl (cy 1, 6, .inl (fun _ => 0))), (k_7, .inl (cy 1, 6, .inl (fun _ => 0))), (k_8, .inl (cy 1, 8, .inl (fun _ => 0))), (k_9, .inl (cy 1, 8, .inl (fun _ => 0))), (q10, .inr (3, [.int 6, .int 6, .int 1, .int 0, .long 0, .long 0, .int 0, .int 0, .int 0, .ref k_12, .ref k_13, .ref k_14, .ref k_15, .ref k_16, .ref k_17, .ref k_18])), (k_12, .inl (cy 1, 5, .inl (fun _ => 0))), (k_13, .inl (cy 1, 5, .inl (fun _ => 0))), (k_14, .inl (cy 1, 5, .inl (fun _ => 0))), (k_15, .inl (cy 1, 6, .inl (fun _ => 0))), (k_16, .inl (cy 1, 6, .inl (fun _ => 0))), (k_17, .inl (cy 1, 8, .inl (fun _ => 0))), (k_18, .inl (cy 1, 8, .inl (fun _ => 0))), (q19, .inl (cy 3, 2, .inr (.inr (.inr (.inr (fun _ => none)))))), (q20, .inr (8, [.ref y_22, .int 0, .int 0, .int 0, .int 0, .int 0, .int 0])), (y_22, .inl (cy 0, 250, .inl (fun _ => 0)))] H := hP
  have hD : va_D A [(h, .inr (10, [.ref q1, .ref q10, .ref q19, .ref q20, .null, .null, .int 0, .int 0, .int 0])), (q1, .inr (3, [.int 6, .int 6, .int 1, .int 0, .long 0, .long 0, .int 0, .int 0, .int 0, .ref k_3, .ref k_4, .ref k_5, .ref k_6, .ref k_7, .ref k_8, .ref k_9])), (k_3, .inl (cy 1, 5, .inl (fun _ => 0))), (k_4, .inl (cy 1, 5, .inl (fun _ => 0))), (k_5, .inl (cy 1, 5, .inl (fun _ => 0))), (k_6, .inl (cy 1, 6, .inl (fun _ => 0))), (k_7, .inl (cy 1, 6, .inl (fun _ => 0))), (k_8, .inl (cy 1, 8, .inl (fun _ => 0))), (k_9, .inl (cy 1, 8, .inl (fun _ => 0))), (q10, .inr (3, [.int 6, .int 6, .int 1, .int 0, .long 0, .long 0, .int 0, .int 0, .int 0, .ref k_12, .ref k_13, .ref k_14, .ref k_15, .ref k_16, .ref k_17, .ref k_18])), (k_12, .inl (cy 1, 5, .inl (fun _ => 0))), (k_13, .inl (cy 1, 5, .inl (fun _ => 0))), (k_14, .inl (cy 1, 5, .inl (fun _ => 0))), (k_15, .inl (cy 1, 6, .inl (fun _ => 0))), (k_16, .inl (cy 1, 6, .inl (fun _ => 0))), (k_17, .inl (cy 1, 8, .inl (fun _ => 0))), (k_18, .inl (cy 1, 8, .inl (fun _ => 0))), (q19, .inl (cy 3, 2, .inr (.inr (.inr (.inr (fun _ => none)))))), (q20, .inr (8, [.ref y_22, .int 0, .int 0, .int 0, .int 0, .int 0, .int 0])), (y_22, .inl (cy 0, 250, .inl (fun _ => 0)))] := hD
  refine lv_aload_n hx hb dX10_init_45 rfl (lv_at hl 0 rfl) ?_
  refine va_new (ci := 4) (fs := [.null, .null, .null, .null, .null, .null, .null, .int 0, .long 0]) (C := RX4) (T := TX4) (N := 9) hx hb hts zi4_ tyX4 tyX4_ok hown z19_ z20_ z21_ hK hP hD hS hA rfl (fun j hj => by rcases (show j = 0 ∨ j = 1 ∨ j = 2 ∨ j = 3 ∨ j = 4 ∨ j = 5 ∨ j = 6 ∨ j = 7 ∨ j = 8 by omega) with rfl | rfl | rfl | rfl | rfl | rfl | rfl | rfl | rfl <;> rfl) (Nat.le_of_ble_eq_true rfl) (Nat.le_of_ble_eq_true rfl) dX10_init_46 (fun q23 H hP hD hS => ?_)
  have hP : va_P D vwCl [(h, .inr (10, [.ref q1, .ref q10, .ref q19, .ref q20, .null, .null, .int 0, .int 0, .int 0])), (q1, .inr (3, [.int 6, .int 6, .int 1, .int 0, .long 0, .long 0, .int 0, .int 0, .int 0, .ref k_3, .ref k_4, .ref k_5, .ref k_6, .ref k_7, .ref k_8, .ref k_9])), (k_3, .inl (cy 1, 5, .inl (fun _ => 0))), (k_4, .inl (cy 1, 5, .inl (fun _ => 0))), (k_5, .inl (cy 1, 5, .inl (fun _ => 0))), (k_6, .inl (cy 1, 6, .inl (fun _ => 0))), (k_7, .inl (cy 1, 6, .inl (fun _ => 0))), (k_8, .inl (cy 1, 8, .inl (fun _ => 0))), (k_9, .inl (cy 1, 8, .inl (fun _ => 0))), (q10, .inr (3, [.int 6, .int 6, .int 1, .int 0, .long 0, .long 0, .int 0, .int 0, .int 0, .ref k_12, .ref k_13, .ref k_14, .ref k_15, .ref k_16, .ref k_17, .ref k_18])), (k_12, .inl (cy 1, 5, .inl (fun _ => 0))), (k_13, .inl (cy 1, 5, .inl (fun _ => 0))), (k_14, .inl (cy 1, 5, .inl (fun _ => 0))), (k_15, .inl (cy 1, 6, .inl (fun _ => 0))), (k_16, .inl (cy 1, 6, .inl (fun _ => 0))), (k_17, .inl (cy 1, 8, .inl (fun _ => 0))), (k_18, .inl (cy 1, 8, .inl (fun _ => 0))), (q19, .inl (cy 3, 2, .inr (.inr (.inr (.inr (fun _ => none)))))), (q20, .inr (8, [.ref y_22, .int 0, .int 0, .int 0, .int 0, .int 0, .int 0])), (y_22, .inl (cy 0, 250, .inl (fun _ => 0))), (q23, .inr (4, [.null, .null, .null, .null, .null, .null, .null, .int 0, .long 0]))] H := hP
  have hD : va_D A [(h, .inr (10, [.ref q1, .ref q10, .ref q19, .ref q20, .null, .null, .int 0, .int 0, .int 0])), (q1, .inr (3, [.int 6, .int 6, .int 1, .int 0, .long 0, .long 0, .int 0, .int 0, .int 0, .ref k_3, .ref k_4, .ref k_5, .ref k_6, .ref k_7, .ref k_8, .ref k_9])), (k_3, .inl (cy 1, 5, .inl (fun _ => 0))), (k_4, .inl (cy 1, 5, .inl (fun _ => 0))), (k_5, .inl (cy 1, 5, .inl (fun _ => 0))), (k_6, .inl (cy 1, 6, .inl (fun _ => 0))), (k_7, .inl (cy 1, 6, .inl (fun _ => 0))), (k_8, .inl (cy 1, 8, .inl (fun _ => 0))), (k_9, .inl (cy 1, 8, .inl (fun _ => 0))), (q10, .inr (3, [.int 6, .int 6, .int 1, .int 0, .long 0, .long 0, .int 0, .int 0, .int 0, .ref k_12, .ref k_13, .ref k_14, .ref k_15, .ref k_16, .ref k_17, .ref k_18])), (k_12, .inl (cy 1, 5, .inl (fun _ => 0))), (k_13, .inl (cy 1, 5, .inl (fun _ => 0))), (k_14, .inl (cy 1, 5, .inl (fun _ => 0))), (k_15, .inl (cy 1, 6, .inl (fun _ => 0))), (k_16, .inl (cy 1, 6, .inl (fun _ => 0))), (k_17, .inl (cy 1, 8, .inl (fun _ => 0))), (k_18, .inl (cy 1, 8, .inl (fun _ => 0))), (q19, .inl (cy 3, 2, .inr (.inr (.inr (.inr (fun _ => none)))))), (q20, .inr (8, [.ref y_22, .int 0, .int 0, .int 0, .int 0, .int 0, .int 0])), (y_22, .inl (cy 0, 250, .inl (fun _ => 0))), (q23, .inr (4, [.null, .null, .null, .null, .null, .null, .null, .int 0, .long 0]))] := hD
  refine W.widen (k := 20) (n := 386) (Nat.le_of_ble_eq_true rfl) (Nat.le_of_ble_eq_true rfl) ?_
  refine lv_dup hx hb dX10_init_49 rfl ?_
  refine lv_aload_n hx hb dX10_init_50 rfl (lv_at hl 0 rfl) ?_
  refine va_get (D := D) (ci := 10) (v := .ref q1) (C := RX10) (T := TX10) (N := 9) hx hb hts zi10_ hown hK hP 0 rfl rfl 0 (by decide) z9_ (fun _ h9 => h9) rfl dX10_init_51 ?_
  refine wr_v (wr := [(h, .inr (10, [.ref q1, .ref q10, .ref q19, .ref q20, .null, .null, .int 0, .int 0, .int 0])), (q1, .inr (3, [.int 6, .int 6, .int 1, .int 0, .long 0, .long 0, .int 0, .int 0, .int 0, .ref k_3, .ref k_4, .ref k_5, .ref k_6, .ref k_7, .ref k_8, .ref k_9])), (k_3, .inl (cy 1, 5, .inl (fun _ => 0))), (k_4, .inl (cy 1, 5, .inl (fun _ => 0))), (k_5, .inl (cy 1, 5, .inl (fun _ => 0))), (k_6, .inl (cy 1, 6, .inl (fun _ => 0))), (k_7, .inl (cy 1, 6, .inl (fun _ => 0))), (k_8, .inl (cy 1, 8, .inl (fun _ => 0))), (k_9, .inl (cy 1, 8, .inl (fun _ => 0))), (q10, .inr (3, [.int 6, .int 6, .int 1, .int 0, .long 0, .long 0, .int 0, .int 0, .int 0, .ref k_12, .ref k_13, .ref k_14, .ref k_15, .ref k_16, .ref k_17, .ref k_18])), (k_12, .inl (cy 1, 5, .inl (fun _ => 0))), (k_13, .inl (cy 1, 5, .inl (fun _ => 0))), (k_14, .inl (cy 1, 5, .inl (fun _ => 0))), (k_15, .inl (cy 1, 6, .inl (fun _ => 0))), (k_16, .inl (cy 1, 6, .inl (fun _ => 0))), (k_17, .inl (cy 1, 8, .inl (fun _ => 0))), (k_18, .inl (cy 1, 8, .inl (fun _ => 0))), (q19, .inl (cy 3, 2, .inr (.inr (.inr (.inr (fun _ => none)))))), (q20, .inr (8, [.ref y_22, .int 0, .int 0, .int 0, .int 0, .int 0, .int 0])), (y_22, .inl (cy 0, 250, .inl (fun _ => 0)))]) (va_runI (As := [.ref q1]) (rest := [.ref q23, .ref h]) ⟨hx, hb, hml, hown, hts⟩ (c_X4_init l D cy q23 q1 _) (cwI 1 hts gX10_init_X4_init rfl rfl rfl z21_ z23_ z24_ rfl (by decide +kernel) ⟨Nat.le_of_ble_eq_true rfl, Nat.le_of_ble_eq_true rfl⟩) (pS hKA (hP.sub (ws' := [(q23, .inr (4, [.null, .null, .null, .null, .null, .null, .null, .int 0, .long 0]))]) [20] rfl) (hD.sub (ws' := [(q23, .inr (4, [.null, .null, .null, .null, .null, .null, .null, .int 0, .long 0]))]) [20] (by decide) rfl)) rfl rfl hl.1 rfl (lv_room (Nat.le_of_ble_eq_true rfl)) dX10_init_54 ⟨Nat.le_of_ble_eq_true rfl, Nat.le_of_ble_eq_true rfl⟩) hP hD hS hA [20] [0, 1, 2, 3, 4, 5, 6, 7, 8, 9, 10, 11, 12, 13, 14, 15, 16, 17, 18, 19] rfl rfl (by decide +kernel) (by decide +kernel) (fun ur24 H locs hwr24 hP hD hS => ?_)
  obtain ⟨a_25, a_26, a_27, a_28, a_29, a_30, a_31, a_32, a_33, a_34, a_35⟩ := ur24
  have hP : va_P D vwCl [(h, .inr (10, [.ref q1, .ref q10, .ref q19, .ref q20, .null, .null, .int 0, .int 0, .int 0])), (q1, .inr (3, [.int 6, .int 6, .int 1, .int 0, .long 0, .long 0, .int 0, .int 0, .int 0, .ref k_3, .ref k_4, .ref k_5, .ref k_6, .ref k_7, .ref k_8, .ref k_9])), (k_3, .inl (cy 1, 5, .inl (fun _ => 0))), (k_4, .inl (cy 1, 5, .inl (fun _ => 0))), (k_5, .inl (cy 1, 5, .inl (fun _ => 0))), (k_6, .inl (cy 1, 6, .inl (fun _ => 0))), (k_7, .inl (cy 1, 6, .inl (fun _ => 0))), (k_8, .inl (cy 1, 8, .inl (fun _ => 0))), (k_9, .inl (cy 1, 8, .inl (fun _ => 0))), (q10, .inr (3, [.int 6, .int 6, .int 1, .int 0, .long 0, .long 0, .int 0, .int 0, .int 0, .ref k_12, .ref k_13, .ref k_14, .ref k_15, .ref k_16, .ref k_17, .ref k_18])), (k_12, .inl (cy 1, 5, .inl (fun _ => 0))), (k_13, .inl (cy 1, 5, .inl (fun _ => 0))), (k_14, .inl (cy 1, 5, .inl (fun _ => 0))), (k_15, .inl (cy 1, 6, .inl (fun _ => 0))), (k_16, .inl (cy 1, 6, .inl (fun _ => 0))), (k_17, .inl (cy 1, 8, .inl (fun _ => 0))), (k_18, .inl (cy 1, 8, .inl (fun _ => 0))), (q19, .inl (cy 3, 2, .inr (.inr (.inr (.inr (fun _ => none)))))), (q20, .inr (8, [.ref y_22, .int 0, .int 0, .int 0, .int 0, .int 0, .int 0])), (y_22, .inl (cy 0, 250, .inl (fun _ => 0))), (q23, .inr (4, [.ref q1, .ref a_25, .ref a_26, .ref a_27, .ref a_28, .ref a_29, .ref a_30, .int 0, .long 0])), (a_25, .inr (7, [])), (a_26, .inl (cy 4, 6, .inr (.inr (.inr (.inr (va_up (va_up (va_up (va_up (va_up (va_up (fun _ => none) (0 : Int32).toNatClampNeg (some a_25)) (1 : Int32).toNatClampNeg (some a_31)) (2 : Int32).toNatClampNeg (some a_32)) (3 : Int32).toNatClampNeg (some a_33)) (4 : Int32).toNatClampNeg (some a_34)) (5 : Int32).toNatClampNeg (some a_35))))))), (a_27, .inl (cy 1, 5, .inl (fun _ => 0))), (a_28, .inl (cy 1, 5, .inl (fun _ => 0))), (a_29, .inl (cy 1, 36, .inl (fun _ => 0))), (a_30, .inl (cy 1, 36, .inl (fun _ => 0))), (a_31, .inr (2, [])), (a_32, .inr (1, [])), (a_33, .inr (9, [])), (a_34, .inr (5, [])), (a_35, .inr (0, []))] H := hP
  have hD : va_D A [(h, .inr (10, [.ref q1, .ref q10, .ref q19, .ref q20, .null, .null, .int 0, .int 0, .int 0])), (q1, .inr (3, [.int 6, .int 6, .int 1, .int 0, .long 0, .long 0, .int 0, .int 0, .int 0, .ref k_3, .ref k_4, .ref k_5, .ref k_6, .ref k_7, .ref k_8, .ref k_9])), (k_3, .inl (cy 1, 5, .inl (fun _ => 0))), (k_4, .inl (cy 1, 5, .inl (fun _ => 0))), (k_5, .inl (cy 1, 5, .inl (fun _ => 0))), (k_6, .inl (cy 1, 6, .inl (fun _ => 0))), (k_7, .inl (cy 1, 6, .inl (fun _ => 0))), (k_8, .inl (cy 1, 8, .inl (fun _ => 0))), (k_9, .inl (cy 1, 8, .inl (fun _ => 0))), (q10, .inr (3, [.int 6, .int 6, .int 1, .int 0, .long 0, .long 0, .int 0, .int 0, .int 0, .ref k_12, .ref k_13, .ref k_14, .ref k_15, .ref k_16, .ref k_17, .ref k_18])), (k_12, .inl (cy 1, 5, .inl (fun _ => 0))), (k_13, .inl (cy 1, 5, .inl (fun _ => 0))), (k_14, .inl (cy 1, 5, .inl (fun _ => 0))), (k_15, .inl (cy 1, 6, .inl (fun _ => 0))), (k_16, .inl (cy 1, 6, .inl (fun _ => 0))), (k_17, .inl (cy 1, 8, .inl (fun _ => 0))), (k_18, .inl (cy 1, 8, .inl (fun _ => 0))), (q19, .inl (cy 3, 2, .inr (.inr (.inr (.inr (fun _ => none)))))), (q20, .inr (8, [.ref y_22, .int 0, .int 0, .int 0, .int 0, .int 0, .int 0])), (y_22, .inl (cy 0, 250, .inl (fun _ => 0))), (q23, .inr (4, [.ref q1, .ref a_25, .ref a_26, .ref a_27, .ref a_28, .ref a_29, .ref a_30, .int 0, .long 0])), (a_25, .inr (7, [])), (a_26, .inl (cy 4, 6, .inr (.inr (.inr (.inr (va_up (va_up (va_up (va_up (va_up (va_up (fun _ => none) (0 : Int32).toNatClampNeg (some a_25)) (1 : Int32).toNatClampNeg (some a_31)) (2 : Int32).toNatClampNeg (some a_32)) (3 : Int32).toNatClampNeg (some a_33)) (4 : Int32).toNatClampNeg (some a_34)) (5 : Int32).toNatClampNeg (some a_35))))))), (a_27, .inl (cy 1, 5, .inl (fun _ => 0))), (a_28, .inl (cy 1, 5, .inl (fun _ => 0))), (a_29, .inl (cy 1, 36, .inl (fun _ => 0))), (a_30, .inl (cy 1, 36, .inl (fun _ => 0))), (a_31, .inr (2, [])), (a_32, .inr (1, [])), (a_33, .inr (9, [])), (a_34, .inr (5, [])), (a_35, .inr (0, []))] := hD
  refine W.widen (k := 31) (n := 474) (Nat.le_of_ble_eq_true rfl) (Nat.le_of_ble_eq_true rfl) ?_
  refine va_putF (D := D) (ci := 10) (v := .ref q23) (ty := .object "HeardSeen$Law") (C := RX10) (T := TX10) (N := 9) hx hb hts zi10_ tyX10 tyX10_ok nmX10 hown hK hP hD hS 0 rfl rfl 4 (by decide) z25_ (fun _ h9 => h9) rfl hin rfl (by decide +kernel) rfl rfl (Nat.le_of_ble_eq_true rfl) dX10_init_57 (fun H locs hP hD hS => ?_)
  have hP : va_P D vwCl [(h, .inr (10, [.ref q1, .ref q10, .ref q19, .ref q20, .ref q23, .null, .int 0, .int 0, .int 0])), (q1, .inr (3, [.int 6, .int 6, .int 1, .int 0, .long 0, .long 0, .int 0, .int 0, .int 0, .ref k_3, .ref k_4, .ref k_5, .ref k_6, .ref k_7, .ref k_8, .ref k_9])), (k_3, .inl (cy 1, 5, .inl (fun _ => 0))), (k_4, .inl (cy 1, 5, .inl (fun _ => 0))), (k_5, .inl (cy 1, 5, .inl (fun _ => 0))), (k_6, .inl (cy 1, 6, .inl (fun _ => 0))), (k_7, .inl (cy 1, 6, .inl (fun _ => 0))), (k_8, .inl (cy 1, 8, .inl (fun _ => 0))), (k_9, .inl (cy 1, 8, .inl (fun _ => 0))), (q10, .inr (3, [.int 6, .int 6, .int 1, .int 0, .long 0, .long 0, .int 0, .int 0, .int 0, .ref k_12, .ref k_13, .ref k_14, .ref k_15, .ref k_16, .ref k_17, .ref k_18])), (k_12, .inl (cy 1, 5, .inl (fun _ => 0))), (k_13, .inl (cy 1, 5, .inl (fun _ => 0))), (k_14, .inl (cy 1, 5, .inl (fun _ => 0))), (k_15, .inl (cy 1, 6, .inl (fun _ => 0))), (k_16, .inl (cy 1, 6, .inl (fun _ => 0))), (k_17, .inl (cy 1, 8, .inl (fun _ => 0))), (k_18, .inl (cy 1, 8, .inl (fun _ => 0))), (q19, .inl (cy 3, 2, .inr (.inr (.inr (.inr (fun _ => none)))))), (q20, .inr (8, [.ref y_22, .int 0, .int 0, .int 0, .int 0, .int 0, .int 0])), (y_22, .inl (cy 0, 250, .inl (fun _ => 0))), (q23, .inr (4, [.ref q1, .ref a_25, .ref a_26, .ref a_27, .ref a_28, .ref a_29, .ref a_30, .int 0, .long 0])), (a_25, .inr (7, [])), (a_26, .inl (cy 4, 6, .inr (.inr (.inr (.inr (va_up (va_up (va_up (va_up (va_up (va_up (fun _ => none) (0 : Int32).toNatClampNeg (some a_25)) (1 : Int32).toNatClampNeg (some a_31)) (2 : Int32).toNatClampNeg (some a_32)) (3 : Int32).toNatClampNeg (some a_33)) (4 : Int32).toNatClampNeg (some a_34)) (5 : Int32).toNatClampNeg (some a_35))))))), (a_27, .inl (cy 1, 5, .inl (fun _ => 0))), (a_28, .inl (cy 1, 5, .inl (fun _ => 0))), (a_29, .inl (cy 1, 36, .inl (fun _ => 0))), (a_30, .inl (cy 1, 36, .inl (fun _ => 0))), (a_31, .inr (2, [])), (a_32, .inr (1, [])), (a_33, .inr (9, [])), (a_34, .inr (5, [])), (a_35, .inr (0, []))] H := hP
  have hD : va_D A [(h, .inr (10, [.ref q1, .ref q10, .ref q19, .ref q20, .ref q23, .null, .int 0, .int 0, .int 0])), (q1, .inr (3, [.int 6, .int 6, .int 1, .int 0, .long 0, .long 0, .int 0, .int 0, .int 0, .ref k_3, .ref k_4, .ref k_5, .ref k_6, .ref k_7, .ref k_8, .ref k_9])), (k_3, .inl (cy 1, 5, .inl (fun _ => 0))), (k_4, .inl (cy 1, 5, .inl (fun _ => 0))), (k_5, .inl (cy 1, 5, .inl (fun _ => 0))), (k_6, .inl (cy 1, 6, .inl (fun _ => 0))), (k_7, .inl (cy 1, 6, .inl (fun _ => 0))), (k_8, .inl (cy 1, 8, .inl (fun _ => 0))), (k_9, .inl (cy 1, 8, .inl (fun _ => 0))), (q10, .inr (3, [.int 6, .int 6, .int 1, .int 0, .long 0, .long 0, .int 0, .int 0, .int 0, .ref k_12, .ref k_13, .ref k_14, .ref k_15, .ref k_16, .ref k_17, .ref k_18])), (k_12, .inl (cy 1, 5, .inl (fun _ => 0))), (k_13, .inl (cy 1, 5, .inl (fun _ => 0))), (k_14, .inl (cy 1, 5, .inl (fun _ => 0))), (k_15, .inl (cy 1, 6, .inl (fun _ => 0))), (k_16, .inl (cy 1, 6, .inl (fun _ => 0))), (k_17, .inl (cy 1, 8, .inl (fun _ => 0))), (k_18, .inl (cy 1, 8, .inl (fun _ => 0))), (q19, .inl (cy 3, 2, .inr (.inr (.inr (.inr (fun _ => none)))))), (q20, .inr (8, [.ref y_22, .int 0, .int 0, .int 0, .int 0, .int 0, .int 0])), (y_22, .inl (cy 0, 250, .inl (fun _ => 0))), (q23, .inr (4, [.ref q1, .ref a_25, .ref a_26, .ref a_27, .ref a_28, .ref a_29, .ref a_30, .int 0, .long 0])), (a_25, .inr (7, [])), (a_26, .inl (cy 4, 6, .inr (.inr (.inr (.inr (va_up (va_up (va_up (va_up (va_up (va_up (fun _ => none) (0 : Int32).toNatClampNeg (some a_25)) (1 : Int32).toNatClampNeg (some a_31)) (2 : Int32).toNatClampNeg (some a_32)) (3 : Int32).toNatClampNeg (some a_33)) (4 : Int32).toNatClampNeg (some a_34)) (5 : Int32).toNatClampNeg (some a_35))))))), (a_27, .inl (cy 1, 5, .inl (fun _ => 0))), (a_28, .inl (cy 1, 5, .inl (fun _ => 0))), (a_29, .inl (cy 1, 36, .inl (fun _ => 0))), (a_30, .inl (cy 1, 36, .inl (fun _ => 0))), (a_31, .inr (2, [])), (a_32, .inr (1, [])), (a_33, .inr (9, [])), (a_34, .inr (5, [])), (a_35, .inr (0, []))] := hD
  refine lv_aload_n hx hb dX10_init_60 rfl (lv_at hl 0 rfl) ?_
  refine va_new (ci := 6) (fs := [.null, .null, .null, .null, .null]) (C := RX6) (T := TX6) (N := 5) hx hb hts zi6_ tyX6 tyX6_ok hown z26_ z27_ z28_ hK hP hD hS hA rfl (fun j hj => by rcases (show j = 0 ∨ j = 1 ∨ j = 2 ∨ j = 3 ∨ j = 4 by omega) with rfl | rfl | rfl | rfl | rfl <;> rfl) (Nat.le_of_ble_eq_true rfl) (Nat.le_of_ble_eq_true rfl) dX10_init_61 (fun q36 H hP hD hS => ?_)
  have hP : va_P D vwCl [(h, .inr (10, [.ref q1, .ref q10, .ref q19, .ref q20, .ref q23, .null, .int 0, .int 0, .int 0])), (q1, .inr (3, [.int 6, .int 6, .int 1, .int 0, .long 0, .long 0, .int 0, .int 0, .int 0, .ref k_3, .ref k_4, .ref k_5, .ref k_6, .ref k_7, .ref k_8, .ref k_9])), (k_3, .inl (cy 1, 5, .inl (fun _ => 0))), (k_4, .inl (cy 1, 5, .inl (fun _ => 0))), (k_5, .inl (cy 1, 5, .inl (fun _ => 0))), (k_6, .inl (cy 1, 6, .inl (fun _ => 0))), (k_7, .inl (cy 1, 6, .inl (fun _ => 0))), (k_8, .inl (cy 1, 8, .inl (fun _ => 0))), (k_9, .inl (cy 1, 8, .inl (fun _ => 0))), (q10, .inr (3, [.int 6, .int 6, .int 1, .int 0, .long 0, .long 0, .int 0, .int 0, .int 0, .ref k_12, .ref k_13, .ref k_14, .ref k_15, .ref k_16, .ref k_17, .ref k_18])), (k_12, .inl (cy 1, 5, .inl (fun _ => 0))), (k_13, .inl (cy 1, 5, .inl (fun _ => 0))), (k_14, .inl (cy 1, 5, .inl (fun _ => 0))), (k_15, .inl (cy 1, 6, .inl (fun _ => 0))), (k_16, .inl (cy 1, 6, .inl (fun _ => 0))), (k_17, .inl (cy 1, 8, .inl (fun _ => 0))), (k_18, .inl (cy 1, 8, .inl (fun _ => 0))), (q19, .inl (cy 3, 2, .inr (.inr (.inr (.inr (fun _ => none)))))), (q20, .inr (8, [.ref y_22, .int 0, .int 0, .int 0, .int 0, .int 0, .int 0])), (y_22, .inl (cy 0, 250, .inl (fun _ => 0))), (q23, .inr (4, [.ref q1, .ref a_25, .ref a_26, .ref a_27, .ref a_28, .ref a_29, .ref a_30, .int 0, .long 0])), (a_25, .inr (7, [])), (a_26, .inl (cy 4, 6, .inr (.inr (.inr (.inr (va_up (va_up (va_up (va_up (va_up (va_up (fun _ => none) (0 : Int32).toNatClampNeg (some a_25)) (1 : Int32).toNatClampNeg (some a_31)) (2 : Int32).toNatClampNeg (some a_32)) (3 : Int32).toNatClampNeg (some a_33)) (4 : Int32).toNatClampNeg (some a_34)) (5 : Int32).toNatClampNeg (some a_35))))))), (a_27, .inl (cy 1, 5, .inl (fun _ => 0))), (a_28, .inl (cy 1, 5, .inl (fun _ => 0))), (a_29, .inl (cy 1, 36, .inl (fun _ => 0))), (a_30, .inl (cy 1, 36, .inl (fun _ => 0))), (a_31, .inr (2, [])), (a_32, .inr (1, [])), (a_33, .inr (9, [])), (a_34, .inr (5, [])), (a_35, .inr (0, [])), (q36, .inr (6, [.null, .null, .null, .null, .null]))] H := hP
  have hD : va_D A [(h, .inr (10, [.ref q1, .ref q10, .ref q19, .ref q20, .ref q23, .null, .int 0, .int 0, .int 0])), (q1, .inr (3, [.int 6, .int 6, .int 1, .int 0, .long 0, .long 0, .int 0, .int 0, .int 0, .ref k_3, .ref k_4, .ref k_5, .ref k_6, .ref k_7, .ref k_8, .ref k_9])), (k_3, .inl (cy 1, 5, .inl (fun _ => 0))), (k_4, .inl (cy 1, 5, .inl (fun _ => 0))), (k_5, .inl (cy 1, 5, .inl (fun _ => 0))), (k_6, .inl (cy 1, 6, .inl (fun _ => 0))), (k_7, .inl (cy 1, 6, .inl (fun _ => 0))), (k_8, .inl (cy 1, 8, .inl (fun _ => 0))), (k_9, .inl (cy 1, 8, .inl (fun _ => 0))), (q10, .inr (3, [.int 6, .int 6, .int 1, .int 0, .long 0, .long 0, .int 0, .int 0, .int 0, .ref k_12, .ref k_13, .ref k_14, .ref k_15, .ref k_16, .ref k_17, .ref k_18])), (k_12, .inl (cy 1, 5, .inl (fun _ => 0))), (k_13, .inl (cy 1, 5, .inl (fun _ => 0))), (k_14, .inl (cy 1, 5, .inl (fun _ => 0))), (k_15, .inl (cy 1, 6, .inl (fun _ => 0))), (k_16, .inl (cy 1, 6, .inl (fun _ => 0))), (k_17, .inl (cy 1, 8, .inl (fun _ => 0))), (k_18, .inl (cy 1, 8, .inl (fun _ => 0))), (q19, .inl (cy 3, 2, .inr (.inr (.inr (.inr (fun _ => none)))))), (q20, .inr (8, [.ref y_22, .int 0, .int 0, .int 0, .int 0, .int 0, .int 0])), (y_22, .inl (cy 0, 250, .inl (fun _ => 0))), (q23, .inr (4, [.ref q1, .ref a_25, .ref a_26, .ref a_27, .ref a_28, .ref a_29, .ref a_30, .int 0, .long 0])), (a_25, .inr (7, [])), (a_26, .inl (cy 4, 6, .inr (.inr (.inr (.inr (va_up (va_up (va_up (va_up (va_up (va_up (fun _ => none) (0 : Int32).toNatClampNeg (some a_25)) (1 : Int32).toNatClampNeg (some a_31)) (2 : Int32).toNatClampNeg (some a_32)) (3 : Int32).toNatClampNeg (some a_33)) (4 : Int32).toNatClampNeg (some a_34)) (5 : Int32).toNatClampNeg (some a_35))))))), (a_27, .inl (cy 1, 5, .inl (fun _ => 0))), (a_28, .inl (cy 1, 5, .inl (fun _ => 0))), (a_29, .inl (cy 1, 36, .inl (fun _ => 0))), (a_30, .inl (cy 1, 36, .inl (fun _ => 0))), (a_31, .inr (2, [])), (a_32, .inr (1, [])), (a_33, .inr (9, [])), (a_34, .inr (5, [])), (a_35, .inr (0, [])), (q36, .inr (6, [.null, .null, .null, .null, .null]))] := hD
  refine W.widen (k := 32) (n := 479) (Nat.le_of_ble_eq_true rfl) (Nat.le_of_ble_eq_true rfl) ?_
  refine lv_dup hx hb dX10_init_64 rfl ?_
  refine lv_aload_n hx hb dX10_init_65 rfl (lv_at hl 0 rfl) ?_
  refine va_get (D := D) (ci := 10) (v := .ref q1) (C := RX10) (T := TX10) (N := 9) hx hb hts zi10_ hown hK hP 0 rfl rfl 0 (by decide) z9_ (fun _ h9 => h9) rfl dX10_init_66 ?_
  refine lv_aload_n hx hb dX10_init_69 rfl (lv_at hl 0 rfl) ?_
  refine va_get (D := D) (ci := 10) (v := .ref q23) (C := RX10) (T := TX10) (N := 9) hx hb hts zi10_ hown hK hP 0 rfl rfl 4 (by decide) z25_ (fun _ h9 => h9) rfl dX10_init_70 ?_
  refine wr_v (wr := [(h, .inr (10, [.ref q1, .ref q10, .ref q19, .ref q20, .ref q23, .null, .int 0, .int 0, .int 0])), (q1, .inr (3, [.int 6, .int 6, .int 1, .int 0, .long 0, .long 0, .int 0, .int 0, .int 0, .ref k_3, .ref k_4, .ref k_5, .ref k_6, .ref k_7, .ref k_8, .ref k_9])), (k_3, .inl (cy 1, 5, .inl (fun _ => 0))), (k_4, .inl (cy 1, 5, .inl (fun _ => 0))), (k_5, .inl (cy 1, 5, .inl (fun _ => 0))), (k_6, .inl (cy 1, 6, .inl (fun _ => 0))), (k_7, .inl (cy 1, 6, .inl (fun _ => 0))), (k_8, .inl (cy 1, 8, .inl (fun _ => 0))), (k_9, .inl (cy 1, 8, .inl (fun _ => 0))), (q10, .inr (3, [.int 6, .int 6, .int 1, .int 0, .long 0, .long 0, .int 0, .int 0, .int 0, .ref k_12, .ref k_13, .ref k_14, .ref k_15, .ref k_16, .ref k_17, .ref k_18])), (k_12, .inl (cy 1, 5, .inl (fun _ => 0))), (k_13, .inl (cy 1, 5, .inl (fun _ => 0))), (k_14, .inl (cy 1, 5, .inl (fun _ => 0))), (k_15, .inl (cy 1, 6, .inl (fun _ => 0))), (k_16, .inl (cy 1, 6, .inl (fun _ => 0))), (k_17, .inl (cy 1, 8, .inl (fun _ => 0))), (k_18, .inl (cy 1, 8, .inl (fun _ => 0))), (q19, .inl (cy 3, 2, .inr (.inr (.inr (.inr (fun _ => none)))))), (q20, .inr (8, [.ref y_22, .int 0, .int 0, .int 0, .int 0, .int 0, .int 0])), (y_22, .inl (cy 0, 250, .inl (fun _ => 0))), (q23, .inr (4, [.ref q1, .ref a_25, .ref a_26, .ref a_27, .ref a_28, .ref a_29, .ref a_30, .int 0, .long 0])), (a_25, .inr (7, [])), (a_26, .inl (cy 4, 6, .inr (.inr (.inr (.inr (va_up (va_up (va_up (va_up (va_up (va_up (fun _ => none) (0 : Int32).toNatClampNeg (some a_25)) (1 : Int32).toNatClampNeg (some a_31)) (2 : Int32).toNatClampNeg (some a_32)) (3 : Int32).toNatClampNeg (some a_33)) (4 : Int32).toNatClampNeg (some a_34)) (5 : Int32).toNatClampNeg (some a_35))))))), (a_27, .inl (cy 1, 5, .inl (fun _ => 0))), (a_28, .inl (cy 1, 5, .inl (fun _ => 0))), (a_29, .inl (cy 1, 36, .inl (fun _ => 0))), (a_30, .inl (cy 1, 36, .inl (fun _ => 0))), (a_31, .inr (2, [])), (a_32, .inr (1, [])), (a_33, .inr (9, [])), (a_34, .inr (5, [])), (a_35, .inr (0, []))]) (va_runI (As := [.ref q1, .ref q23]) (rest := [.ref q36, .ref h]) ⟨hx, hb, hml, hown, hts⟩ (c_X6_init l D cy q36 q1 q23 _) (cwI 2 hts gX10_init_X6_init rfl rfl rfl z28_ z30_ z31_ rfl (by decide +kernel) ⟨Nat.le_of_ble_eq_true rfl, Nat.le_of_ble_eq_true rfl⟩) (pS hKA (hP.sub (ws' := [(q36, .inr (6, [.null, .null, .null, .null, .null]))]) [32] rfl) (hD.sub (ws' := [(q36, .inr (6, [.null, .null, .null, .null, .null]))]) [32] (by decide) rfl)) rfl rfl hl.1 rfl (lv_room (Nat.le_of_ble_eq_true rfl)) dX10_init_73 ⟨Nat.le_of_ble_eq_true rfl, Nat.le_of_ble_eq_true rfl⟩) hP hD hS hA [32] [0, 1, 2, 3, 4, 5, 6, 7, 8, 9, 10, 11, 12, 13, 14, 15, 16, 17, 18, 19, 20, 21, 22, 23, 24, 25, 26, 27, 28, 29, 30, 31] rfl rfl (by decide +kernel) (by decide +kernel) (fun ur37 H locs hwr37 hP hD hS => ?_)
  obtain ⟨b_38, b_39, b_40⟩ := ur37
  have hP : va_P D vwCl [(h, .inr (10, [.ref q1, .ref q10, .ref q19, .ref q20, .ref q23, .null, .int 0, .int 0, .int 0])), (q1, .inr (3, [.int 6, .int 6, .int 1, .int 0, .long 0, .long 0, .int 0, .int 0, .int 0, .ref k_3, .ref k_4, .ref k_5, .ref k_6, .ref k_7, .ref k_8, .ref k_9])), (k_3, .inl (cy 1, 5, .inl (fun _ => 0))), (k_4, .inl (cy 1, 5, .inl (fun _ => 0))), (k_5, .inl (cy 1, 5, .inl (fun _ => 0))), (k_6, .inl (cy 1, 6, .inl (fun _ => 0))), (k_7, .inl (cy 1, 6, .inl (fun _ => 0))), (k_8, .inl (cy 1, 8, .inl (fun _ => 0))), (k_9, .inl (cy 1, 8, .inl (fun _ => 0))), (q10, .inr (3, [.int 6, .int 6, .int 1, .int 0, .long 0, .long 0, .int 0, .int 0, .int 0, .ref k_12, .ref k_13, .ref k_14, .ref k_15, .ref k_16, .ref k_17, .ref k_18])), (k_12, .inl (cy 1, 5, .inl (fun _ => 0))), (k_13, .inl (cy 1, 5, .inl (fun _ => 0))), (k_14, .inl (cy 1, 5, .inl (fun _ => 0))), (k_15, .inl (cy 1, 6, .inl (fun _ => 0))), (k_16, .inl (cy 1, 6, .inl (fun _ => 0))), (k_17, .inl (cy 1, 8, .inl (fun _ => 0))), (k_18, .inl (cy 1, 8, .inl (fun _ => 0))), (q19, .inl (cy 3, 2, .inr (.inr (.inr (.inr (fun _ => none)))))), (q20, .inr (8, [.ref y_22, .int 0, .int 0, .int 0, .int 0, .int 0, .int 0])), (y_22, .inl (cy 0, 250, .inl (fun _ => 0))), (q23, .inr (4, [.ref q1, .ref a_25, .ref a_26, .ref a_27, .ref a_28, .ref a_29, .ref a_30, .int 0, .long 0])), (a_25, .inr (7, [])), (a_26, .inl (cy 4, 6, .inr (.inr (.inr (.inr (va_up (va_up (va_up (va_up (va_up (va_up (fun _ => none) (0 : Int32).toNatClampNeg (some a_25)) (1 : Int32).toNatClampNeg (some a_31)) (2 : Int32).toNatClampNeg (some a_32)) (3 : Int32).toNatClampNeg (some a_33)) (4 : Int32).toNatClampNeg (some a_34)) (5 : Int32).toNatClampNeg (some a_35))))))), (a_27, .inl (cy 1, 5, .inl (fun _ => 0))), (a_28, .inl (cy 1, 5, .inl (fun _ => 0))), (a_29, .inl (cy 1, 36, .inl (fun _ => 0))), (a_30, .inl (cy 1, 36, .inl (fun _ => 0))), (a_31, .inr (2, [])), (a_32, .inr (1, [])), (a_33, .inr (9, [])), (a_34, .inr (5, [])), (a_35, .inr (0, [])), (q36, .inr (6, [.ref q1, .ref q23, .ref b_38, .ref b_39, .ref b_40])), (b_38, .inl (cy 1, 36, .inl (fun _ => 0))), (b_39, .inl (cy 1, 1152, .inl (fun _ => 0))), (b_40, .inl (cy 1, 1152, .inl (fun _ => 0)))] H := hP
  have hD : va_D A [(h, .inr (10, [.ref q1, .ref q10, .ref q19, .ref q20, .ref q23, .null, .int 0, .int 0, .int 0])), (q1, .inr (3, [.int 6, .int 6, .int 1, .int 0, .long 0, .long 0, .int 0, .int 0, .int 0, .ref k_3, .ref k_4, .ref k_5, .ref k_6, .ref k_7, .ref k_8, .ref k_9])), (k_3, .inl (cy 1, 5, .inl (fun _ => 0))), (k_4, .inl (cy 1, 5, .inl (fun _ => 0))), (k_5, .inl (cy 1, 5, .inl (fun _ => 0))), (k_6, .inl (cy 1, 6, .inl (fun _ => 0))), (k_7, .inl (cy 1, 6, .inl (fun _ => 0))), (k_8, .inl (cy 1, 8, .inl (fun _ => 0))), (k_9, .inl (cy 1, 8, .inl (fun _ => 0))), (q10, .inr (3, [.int 6, .int 6, .int 1, .int 0, .long 0, .long 0, .int 0, .int 0, .int 0, .ref k_12, .ref k_13, .ref k_14, .ref k_15, .ref k_16, .ref k_17, .ref k_18])), (k_12, .inl (cy 1, 5, .inl (fun _ => 0))), (k_13, .inl (cy 1, 5, .inl (fun _ => 0))), (k_14, .inl (cy 1, 5, .inl (fun _ => 0))), (k_15, .inl (cy 1, 6, .inl (fun _ => 0))), (k_16, .inl (cy 1, 6, .inl (fun _ => 0))), (k_17, .inl (cy 1, 8, .inl (fun _ => 0))), (k_18, .inl (cy 1, 8, .inl (fun _ => 0))), (q19, .inl (cy 3, 2, .inr (.inr (.inr (.inr (fun _ => none)))))), (q20, .inr (8, [.ref y_22, .int 0, .int 0, .int 0, .int 0, .int 0, .int 0])), (y_22, .inl (cy 0, 250, .inl (fun _ => 0))), (q23, .inr (4, [.ref q1, .ref a_25, .ref a_26, .ref a_27, .ref a_28, .ref a_29, .ref a_30, .int 0, .long 0])), (a_25, .inr (7, [])), (a_26, .inl (cy 4, 6, .inr (.inr (.inr (.inr (va_up (va_up (va_up (va_up (va_up (va_up (fun _ => none) (0 : Int32).toNatClampNeg (some a_25)) (1 : Int32).toNatClampNeg (some a_31)) (2 : Int32).toNatClampNeg (some a_32)) (3 : Int32).toNatClampNeg (some a_33)) (4 : Int32).toNatClampNeg (some a_34)) (5 : Int32).toNatClampNeg (some a_35))))))), (a_27, .inl (cy 1, 5, .inl (fun _ => 0))), (a_28, .inl (cy 1, 5, .inl (fun _ => 0))), (a_29, .inl (cy 1, 36, .inl (fun _ => 0))), (a_30, .inl (cy 1, 36, .inl (fun _ => 0))), (a_31, .inr (2, [])), (a_32, .inr (1, [])), (a_33, .inr (9, [])), (a_34, .inr (5, [])), (a_35, .inr (0, [])), (q36, .inr (6, [.ref q1, .ref q23, .ref b_38, .ref b_39, .ref b_40])), (b_38, .inl (cy 1, 36, .inl (fun _ => 0))), (b_39, .inl (cy 1, 1152, .inl (fun _ => 0))), (b_40, .inl (cy 1, 1152, .inl (fun _ => 0)))] := hD
  refine W.widen (k := 35) (n := 2819) (Nat.le_of_ble_eq_true rfl) (Nat.le_of_ble_eq_true rfl) ?_
  refine va_putF (D := D) (ci := 10) (v := .ref q36) (ty := .object "HeardSeen$Paths") (C := RX10) (T := TX10) (N := 9) hx hb hts zi10_ tyX10 tyX10_ok nmX10 hown hK hP hD hS 0 rfl rfl 5 (by decide) z32_ (fun _ h9 => h9) rfl hin rfl (by decide +kernel) rfl rfl (Nat.le_of_ble_eq_true rfl) dX10_init_76 (fun H locs hP hD hS => ?_)
  have hP : va_P D vwCl [(h, .inr (10, [.ref q1, .ref q10, .ref q19, .ref q20, .ref q23, .ref q36, .int 0, .int 0, .int 0])), (q1, .inr (3, [.int 6, .int 6, .int 1, .int 0, .long 0, .long 0, .int 0, .int 0, .int 0, .ref k_3, .ref k_4, .ref k_5, .ref k_6, .ref k_7, .ref k_8, .ref k_9])), (k_3, .inl (cy 1, 5, .inl (fun _ => 0))), (k_4, .inl (cy 1, 5, .inl (fun _ => 0))), (k_5, .inl (cy 1, 5, .inl (fun _ => 0))), (k_6, .inl (cy 1, 6, .inl (fun _ => 0))), (k_7, .inl (cy 1, 6, .inl (fun _ => 0))), (k_8, .inl (cy 1, 8, .inl (fun _ => 0))), (k_9, .inl (cy 1, 8, .inl (fun _ => 0))), (q10, .inr (3, [.int 6, .int 6, .int 1, .int 0, .long 0, .long 0, .int 0, .int 0, .int 0, .ref k_12, .ref k_13, .ref k_14, .ref k_15, .ref k_16, .ref k_17, .ref k_18])), (k_12, .inl (cy 1, 5, .inl (fun _ => 0))), (k_13, .inl (cy 1, 5, .inl (fun _ => 0))), (k_14, .inl (cy 1, 5, .inl (fun _ => 0))), (k_15, .inl (cy 1, 6, .inl (fun _ => 0))), (k_16, .inl (cy 1, 6, .inl (fun _ => 0))), (k_17, .inl (cy 1, 8, .inl (fun _ => 0))), (k_18, .inl (cy 1, 8, .inl (fun _ => 0))), (q19, .inl (cy 3, 2, .inr (.inr (.inr (.inr (fun _ => none)))))), (q20, .inr (8, [.ref y_22, .int 0, .int 0, .int 0, .int 0, .int 0, .int 0])), (y_22, .inl (cy 0, 250, .inl (fun _ => 0))), (q23, .inr (4, [.ref q1, .ref a_25, .ref a_26, .ref a_27, .ref a_28, .ref a_29, .ref a_30, .int 0, .long 0])), (a_25, .inr (7, [])), (a_26, .inl (cy 4, 6, .inr (.inr (.inr (.inr (va_up (va_up (va_up (va_up (va_up (va_up (fun _ => none) (0 : Int32).toNatClampNeg (some a_25)) (1 : Int32).toNatClampNeg (some a_31)) (2 : Int32).toNatClampNeg (some a_32)) (3 : Int32).toNatClampNeg (some a_33)) (4 : Int32).toNatClampNeg (some a_34)) (5 : Int32).toNatClampNeg (some a_35))))))), (a_27, .inl (cy 1, 5, .inl (fun _ => 0))), (a_28, .inl (cy 1, 5, .inl (fun _ => 0))), (a_29, .inl (cy 1, 36, .inl (fun _ => 0))), (a_30, .inl (cy 1, 36, .inl (fun _ => 0))), (a_31, .inr (2, [])), (a_32, .inr (1, [])), (a_33, .inr (9, [])), (a_34, .inr (5, [])), (a_35, .inr (0, [])), (q36, .inr (6, [.ref q1, .ref q23, .ref b_38, .ref b_39, .ref b_40])), (b_38, .inl (cy 1, 36, .inl (fun _ => 0))), (b_39, .inl (cy 1, 1152, .inl (fun _ => 0))), (b_40, .inl (cy 1, 1152, .inl (fun _ => 0)))] H := hP
  have hD : va_D A [(h, .inr (10, [.ref q1, .ref q10, .ref q19, .ref q20, .ref q23, .ref q36, .int 0, .int 0, .int 0])), (q1, .inr (3, [.int 6, .int 6, .int 1, .int 0, .long 0, .long 0, .int 0, .int 0, .int 0, .ref k_3, .ref k_4, .ref k_5, .ref k_6, .ref k_7, .ref k_8, .ref k_9])), (k_3, .inl (cy 1, 5, .inl (fun _ => 0))), (k_4, .inl (cy 1, 5, .inl (fun _ => 0))), (k_5, .inl (cy 1, 5, .inl (fun _ => 0))), (k_6, .inl (cy 1, 6, .inl (fun _ => 0))), (k_7, .inl (cy 1, 6, .inl (fun _ => 0))), (k_8, .inl (cy 1, 8, .inl (fun _ => 0))), (k_9, .inl (cy 1, 8, .inl (fun _ => 0))), (q10, .inr (3, [.int 6, .int 6, .int 1, .int 0, .long 0, .long 0, .int 0, .int 0, .int 0, .ref k_12, .ref k_13, .ref k_14, .ref k_15, .ref k_16, .ref k_17, .ref k_18])), (k_12, .inl (cy 1, 5, .inl (fun _ => 0))), (k_13, .inl (cy 1, 5, .inl (fun _ => 0))), (k_14, .inl (cy 1, 5, .inl (fun _ => 0))), (k_15, .inl (cy 1, 6, .inl (fun _ => 0))), (k_16, .inl (cy 1, 6, .inl (fun _ => 0))), (k_17, .inl (cy 1, 8, .inl (fun _ => 0))), (k_18, .inl (cy 1, 8, .inl (fun _ => 0))), (q19, .inl (cy 3, 2, .inr (.inr (.inr (.inr (fun _ => none)))))), (q20, .inr (8, [.ref y_22, .int 0, .int 0, .int 0, .int 0, .int 0, .int 0])), (y_22, .inl (cy 0, 250, .inl (fun _ => 0))), (q23, .inr (4, [.ref q1, .ref a_25, .ref a_26, .ref a_27, .ref a_28, .ref a_29, .ref a_30, .int 0, .long 0])), (a_25, .inr (7, [])), (a_26, .inl (cy 4, 6, .inr (.inr (.inr (.inr (va_up (va_up (va_up (va_up (va_up (va_up (fun _ => none) (0 : Int32).toNatClampNeg (some a_25)) (1 : Int32).toNatClampNeg (some a_31)) (2 : Int32).toNatClampNeg (some a_32)) (3 : Int32).toNatClampNeg (some a_33)) (4 : Int32).toNatClampNeg (some a_34)) (5 : Int32).toNatClampNeg (some a_35))))))), (a_27, .inl (cy 1, 5, .inl (fun _ => 0))), (a_28, .inl (cy 1, 5, .inl (fun _ => 0))), (a_29, .inl (cy 1, 36, .inl (fun _ => 0))), (a_30, .inl (cy 1, 36, .inl (fun _ => 0))), (a_31, .inr (2, [])), (a_32, .inr (1, [])), (a_33, .inr (9, [])), (a_34, .inr (5, [])), (a_35, .inr (0, [])), (q36, .inr (6, [.ref q1, .ref q23, .ref b_38, .ref b_39, .ref b_40])), (b_38, .inl (cy 1, 36, .inl (fun _ => 0))), (b_39, .inl (cy 1, 1152, .inl (fun _ => 0))), (b_40, .inl (cy 1, 1152, .inl (fun _ => 0)))] := hD
  refine W.widen (k := 35) (n := 2819) (Nat.le_of_ble_eq_true rfl) (Nat.le_of_ble_eq_true rfl) ?_
  have hP9 := hP.sub (ws' := [(h, .inr (10, [.ref q1, .ref q10, .ref q19, .ref q20, .ref q23, .ref q36, .int 0, .int 0, .int 0])), (q1, .inr (3, [.int 6, .int 6, .int 1, .int 0, .long 0, .long 0, .int 0, .int 0, .int 0, .ref k_3, .ref k_4, .ref k_5, .ref k_6, .ref k_7, .ref k_8, .ref k_9])), (k_3, .inl (cy 1, 5, .inl (fun _ => 0))), (k_4, .inl (cy 1, 5, .inl (fun _ => 0))), (k_5, .inl (cy 1, 5, .inl (fun _ => 0))), (k_6, .inl (cy 1, 6, .inl (fun _ => 0))), (k_7, .inl (cy 1, 6, .inl (fun _ => 0))), (k_8, .inl (cy 1, 8, .inl (fun _ => 0))), (k_9, .inl (cy 1, 8, .inl (fun _ => 0))), (q10, .inr (3, [.int 6, .int 6, .int 1, .int 0, .long 0, .long 0, .int 0, .int 0, .int 0, .ref k_12, .ref k_13, .ref k_14, .ref k_15, .ref k_16, .ref k_17, .ref k_18])), (k_12, .inl (cy 1, 5, .inl (fun _ => 0))), (k_13, .inl (cy 1, 5, .inl (fun _ => 0))), (k_14, .inl (cy 1, 5, .inl (fun _ => 0))), (k_15, .inl (cy 1, 6, .inl (fun _ => 0))), (k_16, .inl (cy 1, 6, .inl (fun _ => 0))), (k_17, .inl (cy 1, 8, .inl (fun _ => 0))), (k_18, .inl (cy 1, 8, .inl (fun _ => 0))), (q19, .inl (cy 3, 2, .inr (.inr (.inr (.inr (fun _ => none)))))), (q20, .inr (8, [.ref y_22, .int 0, .int 0, .int 0, .int 0, .int 0, .int 0])), (y_22, .inl (cy 0, 250, .inl (fun _ => 0))), (q23, .inr (4, [.ref q1, .ref a_25, .ref a_26, .ref a_27, .ref a_28, .ref a_29, .ref a_30, .int 0, .long 0])), (a_25, .inr (7, [])), (a_26, .inl (cy 4, 6, .inr (.inr (.inr (.inr (va_up (va_up (va_up (va_up (va_up (va_up (fun _ => none) (0 : Int32).toNatClampNeg (some a_25)) (1 : Int32).toNatClampNeg (some a_31)) (2 : Int32).toNatClampNeg (some a_32)) (3 : Int32).toNatClampNeg (some a_33)) (4 : Int32).toNatClampNeg (some a_34)) (5 : Int32).toNatClampNeg (some a_35))))))), (a_27, .inl (cy 1, 5, .inl (fun _ => 0))), (a_28, .inl (cy 1, 5, .inl (fun _ => 0))), (a_29, .inl (cy 1, 36, .inl (fun _ => 0))), (a_30, .inl (cy 1, 36, .inl (fun _ => 0))), (a_31, .inr (2, [])), (a_32, .inr (1, [])), (a_33, .inr (9, [])), (a_34, .inr (5, [])), (a_35, .inr (0, [])), (q36, .inr (6, [.ref q1, .ref q23, .ref b_38, .ref b_39, .ref b_40])), (b_38, .inl (cy 1, 36, .inl (fun _ => 0))), (b_39, .inl (cy 1, 1152, .inl (fun _ => 0))), (b_40, .inl (cy 1, 1152, .inl (fun _ => 0)))]) [0, 1, 2, 3, 4, 5, 6, 7, 8, 9, 10, 11, 12, 13, 14, 15, 16, 17, 18, 19, 20, 21, 22, 23, 24, 25, 26, 27, 28, 29, 30, 31, 32, 33, 34, 35] rfl
  have hD9 := hD.sub (ws' := [(h, .inr (10, [.ref q1, .ref q10, .ref q19, .ref q20, .ref q23, .ref q36, .int 0, .int 0, .int 0])), (q1, .inr (3, [.int 6, .int 6, .int 1, .int 0, .long 0, .long 0, .int 0, .int 0, .int 0, .ref k_3, .ref k_4, .ref k_5, .ref k_6, .ref k_7, .ref k_8, .ref k_9])), (k_3, .inl (cy 1, 5, .inl (fun _ => 0))), (k_4, .inl (cy 1, 5, .inl (fun _ => 0))), (k_5, .inl (cy 1, 5, .inl (fun _ => 0))), (k_6, .inl (cy 1, 6, .inl (fun _ => 0))), (k_7, .inl (cy 1, 6, .inl (fun _ => 0))), (k_8, .inl (cy 1, 8, .inl (fun _ => 0))), (k_9, .inl (cy 1, 8, .inl (fun _ => 0))), (q10, .inr (3, [.int 6, .int 6, .int 1, .int 0, .long 0, .long 0, .int 0, .int 0, .int 0, .ref k_12, .ref k_13, .ref k_14, .ref k_15, .ref k_16, .ref k_17, .ref k_18])), (k_12, .inl (cy 1, 5, .inl (fun _ => 0))), (k_13, .inl (cy 1, 5, .inl (fun _ => 0))), (k_14, .inl (cy 1, 5, .inl (fun _ => 0))), (k_15, .inl (cy 1, 6, .inl (fun _ => 0))), (k_16, .inl (cy 1, 6, .inl (fun _ => 0))), (k_17, .inl (cy 1, 8, .inl (fun _ => 0))), (k_18, .inl (cy 1, 8, .inl (fun _ => 0))), (q19, .inl (cy 3, 2, .inr (.inr (.inr (.inr (fun _ => none)))))), (q20, .inr (8, [.ref y_22, .int 0, .int 0, .int 0, .int 0, .int 0, .int 0])), (y_22, .inl (cy 0, 250, .inl (fun _ => 0))), (q23, .inr (4, [.ref q1, .ref a_25, .ref a_26, .ref a_27, .ref a_28, .ref a_29, .ref a_30, .int 0, .long 0])), (a_25, .inr (7, [])), (a_26, .inl (cy 4, 6, .inr (.inr (.inr (.inr (va_up (va_up (va_up (va_up (va_up (va_up (fun _ => none) (0 : Int32).toNatClampNeg (some a_25)) (1 : Int32).toNatClampNeg (some a_31)) (2 : Int32).toNatClampNeg (some a_32)) (3 : Int32).toNatClampNeg (some a_33)) (4 : Int32).toNatClampNeg (some a_34)) (5 : Int32).toNatClampNeg (some a_35))))))), (a_27, .inl (cy 1, 5, .inl (fun _ => 0))), (a_28, .inl (cy 1, 5, .inl (fun _ => 0))), (a_29, .inl (cy 1, 36, .inl (fun _ => 0))), (a_30, .inl (cy 1, 36, .inl (fun _ => 0))), (a_31, .inr (2, [])), (a_32, .inr (1, [])), (a_33, .inr (9, [])), (a_34, .inr (5, [])), (a_35, .inr (0, [])), (q36, .inr (6, [.ref q1, .ref q23, .ref b_38, .ref b_39, .ref b_40])), (b_38, .inl (cy 1, 36, .inl (fun _ => 0))), (b_39, .inl (cy 1, 1152, .inl (fun _ => 0))), (b_40, .inl (cy 1, 1152, .inl (fun _ => 0)))]) [0, 1, 2, 3, 4, 5, 6, 7, 8, 9, 10, 11, 12, 13, 14, 15, 16, 17, 18, 19, 20, 21, 22, 23, 24, 25, 26, 27, 28, 29, 30, 31, 32, 33, 34, 35] (by decide) rfl
  exact W.vret hx hb hr (fun t ht hW => ⟨⟨(q1, k_3, k_4, k_5, k_6, k_7, k_8, k_9, q10, k_12, k_13, k_14, k_15, k_16, k_17, k_18, q19, q20, y_22, q23, a_25, a_26, a_27, a_28, a_29, a_30, a_31, a_32, a_33, a_34, a_35, q36, b_38, b_39, b_40), rfl, trivial, by rw [ht]; exact hP9, hD9⟩, hS.F ht⟩) hS.2.2 dX10_init_79
set_option maxHeartbeats 4000000 in
set_option maxRecDepth 100000 in
theorem c_X11_begin (l : Launch) (D : va_G) (cy : Nat → ClassId) (tt : Nat) (f : Nat → Int32) (w h : Int32) (sz : Nat)  : Met l yX11_begin wsX11_begin ({ frames := 0, cells := 0, slots := 0, locals := 0 }) (va_Pc [.ref tt, .int w, .int h] (kPre D cy [(tt, .inl (cy 1, 122, .inl f))] sz)) (va_Qv (fun (u : Nat → Int32) => u 0 = w ∧ u 1 = h ∧ u 2 = 1 ∧ ∀ k, 3 ≤ k → k < 122 → u k = 0) (fun (u : Nat → Int32) t => va_P D vwCl ([(tt, .inl (cy 1, 122, .inl u))]) t.heap ∧ va_D (va_A [(tt, .inl (cy 1, 122, .inl f))] sz) ([(tt, .inl (cy 1, 122, .inl u))])) (va_A [(tt, .inl (cy 1, 122, .inl f))] sz)) 0 0 (va_A [(tt, .inl (cy 1, 122, .inl f))] sz) := by
  refine Met.ofW (cc := cX11_begin) (maxL := 4) (ret := none) (by decide) rfl ?_
  intro p e s m args below meth c s₁ B hml hv
  obtain ⟨rfl, hsz, hP, hKA, hD0⟩ := hv
  have hx := B.exec
  have hb := B.bytes
  have hr := B.returns
  have hts := atoms_spec (ws := wsX11_begin) B.pre
  have hown : s.vm.findClass RX11 = some m.cls := findClass_of_methodNamed B.named
  have hlocks := B.notSynchronized
  subst hsz
  have hK := hKA.1
  have hD := hD0.self (sz := s.heap.size)
  generalize hAe : va_A [(tt, .inl (cy 1, 122, .inl f))] s.heap.size = A at hD ⊢
  have hA : ∀ q : Nat, s.heap.size ≤ q → A q := fun q h => by rw [← hAe]; exact Or.inr h
  have hS : va_S A s.heap s.heap [] := va_S.rf
  have hP : va_P D vwCl [(tt, .inl (cy 1, 122, .inl f))] s.heap := hP
  have hl := lv_entry ([.ref tt, .int w, .int h]) (n := 4) (Nat.le_of_ble_eq_true rfl)
  rw [lg_entry_eq]
  generalize (lg_sl ([.ref tt, .int w, .int h]) ++ List.replicate (4 - (lg_sl ([.ref tt, .int w, .int h])).length) Slot.unset).toArray = ls at hl ⊢
  have hl : lv_has ls 4 [(0, .ref tt), (1, .int w), (2, .int h)] := hl
  refine lv_iconst (v := 0) hx hb dX11_begin_0 (by decide) ?_
  refine lv_istore_n (lv' := [(3, .int 0), (0, .ref tt), (1, .int w), (2, .int h)]) hx hb dX11_begin_1 rfl hl (by decide) rfl (fun ls hl => ?_)
  have lp2 : ∀ (n2 : Nat) (k : Nat) (f : Nat → Int32), k ≤ 122 → (∀ j, j < k → f j = 0) → 122 - k < n2 → ∀ (H : Heap) (locs : List Loc), va_P D vwCl [(tt, .inl (cy 1, 122, .inl f))] H → va_D A [(tt, .inl (cy 1, 122, .inl f))] → va_S A s.heap H locs → ∀ ls : Array Slot, lv_has ls 4 [(0, .ref tt), (1, .int w), (2, .int h), (3, .int (nI k))] → W p l e (headSpec wsX11_begin ({ frames := 0, cells := 0, slots := 0, locals := 0 })).room s m [.ref tt, .int w, .int h].toArray below meth c H locs 0 0 (MQ below (va_Qv (fun (u : Nat → Int32) => u 0 = w ∧ u 1 = h ∧ u 2 = 1 ∧ ∀ k, 3 ≤ k → k < 122 → u k = 0) (fun (u : Nat → Int32) t => va_P D vwCl ([(tt, .inl (cy 1, 122, .inl u))]) t.heap ∧ va_D A ([(tt, .inl (cy 1, 122, .inl u))])) A) [.ref tt, .int w, .int h].toArray s 0 0 A) (F0 m 2 ls []) := by
    intro n2
    induction n2 with
    | zero => intro k f hk hzz hm; exact absurd hm (Nat.not_lt_zero _)
    | succ n2 ih2 =>
      intro k f hk hzz hm2 H locs hP hD hS ls hl
      refine lv_iload_n hx hb dX11_begin_2 rfl (lv_at hl 3 rfl) ?_
      refine lv_bipush (v := 122) hx hb dX11_begin_3 (by decide) ?_
      refine lv_icmp_ge (tgt := 18) hx hb dX11_begin_5 (by decide) (fun c1 => ?_) (fun c1 => ?_)
      · skip
        refine lv_aload_n hx hb dX11_begin_18 rfl (lv_at hl 0 rfl) ?_
        refine lv_iconst (v := 0) hx hb dX11_begin_19 (by decide) ?_
        refine lv_iload_n hx hb dX11_begin_20 rfl (lv_at hl 1 rfl) ?_
        refine my_iast hx hb hK hP hD hS 0 1 rfl rfl (by rw [vp_in_iff]; decide +kernel) (k := 0) (by decide +kernel) dX11_begin_21 (fun H locs hP hD hS => ?_)
        have hP : va_P D vwCl [(tt, .inl (cy 1, 122, .inl (upd f 0 w)))] H := hP
        have hD : va_D A [(tt, .inl (cy 1, 122, .inl (upd f 0 w)))] := hD
        refine lv_aload_n hx hb dX11_begin_22 rfl (lv_at hl 0 rfl) ?_
        refine lv_iconst (v := 1) hx hb dX11_begin_23 (by decide) ?_
        refine lv_iload_n hx hb dX11_begin_24 rfl (lv_at hl 2 rfl) ?_
        refine my_iast hx hb hK hP hD hS 0 1 rfl rfl (by rw [vp_in_iff]; decide +kernel) (k := 1) (by decide +kernel) dX11_begin_25 (fun H locs hP hD hS => ?_)
        have hP : va_P D vwCl [(tt, .inl (cy 1, 122, .inl (upd (upd f 0 w) 1 h)))] H := hP
        have hD : va_D A [(tt, .inl (cy 1, 122, .inl (upd (upd f 0 w) 1 h)))] := hD
        refine lv_aload_n hx hb dX11_begin_26 rfl (lv_at hl 0 rfl) ?_
        refine lv_iconst (v := 2) hx hb dX11_begin_27 (by decide) ?_
        refine lv_iconst (v := 1) hx hb dX11_begin_28 (by decide) ?_
        refine my_iast hx hb hK hP hD hS 0 1 rfl rfl (by rw [vp_in_iff]; decide +kernel) (k := 2) (by decide +kernel) dX11_begin_29 (fun H locs hP hD hS => ?_)
        have hP : va_P D vwCl [(tt, .inl (cy 1, 122, .inl (upd (upd (upd f 0 w) 1 h) 2 1)))] H := hP
        have hD : va_D A [(tt, .inl (cy 1, 122, .inl (upd (upd (upd f 0 w) 1 h) 2 1)))] := hD
        have hP9 := hP.sub (ws' := [(tt, .inl (cy 1, 122, .inl (upd (upd (upd f 0 w) 1 h) 2 1)))]) [0] rfl
        have hD9 := hD.sub (ws' := [(tt, .inl (cy 1, 122, .inl (upd (upd (upd f 0 w) 1 h) 2 1)))]) [0] (by decide) rfl
        exact W.vret hx hb hr (fun t ht hW => ⟨⟨(upd (upd (upd f 0 w) 1 h) 2 1), rfl, ⟨rfl, rfl, rfl, (fun j h3 hj => by have q := nge_of (n := 122) rfl hk (by decide) (by assumption); show upd _ _ _ j = 0; rw [u_ne _ _ (by omega), u_ne _ _ (by omega), u_ne _ _ (by omega)]; exact hzz j (by omega))⟩, by rw [ht]; exact hP9, hD9⟩, hS.F ht⟩) hS.2.2 dX11_begin_30
      · skip
        refine lv_aload_n hx hb dX11_begin_8 rfl (lv_at hl 0 rfl) ?_
        refine lv_iload_n hx hb dX11_begin_9 rfl (lv_at hl 3 rfl) ?_
        refine lv_iconst (v := 0) hx hb dX11_begin_10 (by decide) ?_
        refine my_iast hx hb hK hP hD hS 0 1 rfl rfl (vp_in_nI (nlt_of (n := 122) rfl hk (by decide) (by assumption)) (by decide)) (nI_clamp (by omega)) dX11_begin_11 (fun H locs hP hD hS => ?_)
        have hP : va_P D vwCl [(tt, .inl (cy 1, 122, .inl (upd f k 0)))] H := hP
        have hD : va_D A [(tt, .inl (cy 1, 122, .inl (upd f k 0)))] := hD
        refine lv_iinc (v := nI (k + 1)) (lv' := [(3, .int (nI (k + 1))), (0, .ref tt), (1, .int w), (2, .int h)]) hx hb dX11_begin_12 hl (k := 3) rfl (nI_1 _) (by decide) rfl (fun ls hl => ?_)
        refine lv_goto (tgt := 2) hx hb dX11_begin_15 (by decide) ?_
        exact ih2 (k + 1) (upd f k 0) (nlt_of (n := 122) rfl hk (by decide) (by assumption)) (fun j hj => if q : j = k then (by subst q; exact u_eq _ _ _) else (by rw [u_ne _ _ q]; exact hzz j (by omega))) (by have := nlt_of (n := 122) rfl hk (by decide) (by assumption); omega) _ _ (hP.sub (ws' := [(tt, .inl (cy 1, 122, .inl (upd f k 0)))]) [0] rfl) (hD.sub (ws' := [(tt, .inl (cy 1, 122, .inl (upd f k 0)))]) [0] (by decide) rfl) hS ls (lv_sub hl [1, 2, 3, 0] rfl)
  exact lp2 (122 - 0 + 1) 0 f (by omega) (fun j hj => absurd hj (Nat.not_lt_zero j)) (Nat.lt_succ_self _) _ _ (hP.sub (ws' := [(tt, .inl (cy 1, 122, .inl f))]) [0] rfl) (hD.sub (ws' := [(tt, .inl (cy 1, 122, .inl f))]) [0] (by decide) rfl) hS ls (lv_sub hl [1, 2, 3, 0] rfl)
set_option maxHeartbeats 4000000 in
set_option maxRecDepth 100000 in
theorem m_init (l : Launch) (D : va_G) (cy : Nat → ClassId) (mm : Nat) (sz : Nat)  : Met l yX11_init wsX11_init ({ frames := 1, cells := 10, slots := 3119, locals := 23 }) (va_Pc [.ref mm] (kPre D cy [(mm, .inr (11, [.null, .null, .null, .null, .int 0, .int 0, .null, .null, .null, .int 0, .null, .null, .int 0, .int 0, .int 0, .int 0, .int 0, .null, .int 0]))] sz)) (va_Qv (fun (u : Nat × Nat × Nat × Nat × Nat × Nat × Nat × Nat × Nat × Nat × (Nat → Int32)) => u.2.2.2.2.2.2.2.2.2.2 0 = 6 ∧ u.2.2.2.2.2.2.2.2.2.2 1 = 6 ∧ u.2.2.2.2.2.2.2.2.2.2 2 = 1 ∧ ∀ k, 3 ≤ k → k < 122 → u.2.2.2.2.2.2.2.2.2.2 k = 0) (fun (u : Nat × Nat × Nat × Nat × Nat × Nat × Nat × Nat × Nat × Nat × (Nat → Int32)) t => va_P D vwCl ([(mm, .inr (11, [.ref u.1, .ref u.2.1, .ref u.2.2.1, .ref u.2.2.2.1, .int 0, .int 0, .ref u.2.2.2.2.1, .ref u.2.2.2.2.2.1, .ref u.2.2.2.2.2.2.1, .int 0, .ref u.2.2.2.2.2.2.2.1, .ref u.2.2.2.2.2.2.2.2.1, .int 0, .int 0, .int 0, .int 0, .int 0, .ref u.2.2.2.2.2.2.2.2.2.1, .int 0])), (u.1, .inl (cy 1, 122, .inl u.2.2.2.2.2.2.2.2.2.2)), (u.2.1, .inl (cy 1, 244, .inl (fun _ => 0))), (u.2.2.1, .inl (cy 2, 2, .inl (fun _ => 0))), (u.2.2.2.1, .inl (cy 1, 3, .inl (fun _ => 0))), (u.2.2.2.2.1, .inl (cy 2, 36, .inl (fun _ => 0))), (u.2.2.2.2.2.1, .inl (cy 1, 1152, .inl (fun _ => 0))), (u.2.2.2.2.2.2.1, .inl (cy 1, 1152, .inl (fun _ => 0))), (u.2.2.2.2.2.2.2.1, .inl (cy 1, 36, .inl (fun _ => 0))), (u.2.2.2.2.2.2.2.2.1, .inl (cy 1, 250, .inl (fun _ => 0))), (u.2.2.2.2.2.2.2.2.2.1, .inl (cy 1, 122, .inl (fun _ => 0)))]) t.heap ∧ va_D (va_A [(mm, .inr (11, [.null, .null, .null, .null, .int 0, .int 0, .null, .null, .null, .int 0, .null, .null, .int 0, .int 0, .int 0, .int 0, .int 0, .null, .int 0]))] sz) ([(mm, .inr (11, [.ref u.1, .ref u.2.1, .ref u.2.2.1, .ref u.2.2.2.1, .int 0, .int 0, .ref u.2.2.2.2.1, .ref u.2.2.2.2.2.1, .ref u.2.2.2.2.2.2.1, .int 0, .ref u.2.2.2.2.2.2.2.1, .ref u.2.2.2.2.2.2.2.2.1, .int 0, .int 0, .int 0, .int 0, .int 0, .ref u.2.2.2.2.2.2.2.2.2.1, .int 0])), (u.1, .inl (cy 1, 122, .inl u.2.2.2.2.2.2.2.2.2.2)), (u.2.1, .inl (cy 1, 244, .inl (fun _ => 0))), (u.2.2.1, .inl (cy 2, 2, .inl (fun _ => 0))), (u.2.2.2.1, .inl (cy 1, 3, .inl (fun _ => 0))), (u.2.2.2.2.1, .inl (cy 2, 36, .inl (fun _ => 0))), (u.2.2.2.2.2.1, .inl (cy 1, 1152, .inl (fun _ => 0))), (u.2.2.2.2.2.2.1, .inl (cy 1, 1152, .inl (fun _ => 0))), (u.2.2.2.2.2.2.2.1, .inl (cy 1, 36, .inl (fun _ => 0))), (u.2.2.2.2.2.2.2.2.1, .inl (cy 1, 250, .inl (fun _ => 0))), (u.2.2.2.2.2.2.2.2.2.1, .inl (cy 1, 122, .inl (fun _ => 0)))])) (va_A [(mm, .inr (11, [.null, .null, .null, .null, .int 0, .int 0, .null, .null, .null, .int 0, .null, .null, .int 0, .int 0, .int 0, .int 0, .int 0, .null, .int 0]))] sz)) 10 3119 (va_A [(mm, .inr (11, [.null, .null, .null, .null, .int 0, .int 0, .null, .null, .null, .int 0, .null, .null, .int 0, .int 0, .int 0, .int 0, .int 0, .null, .int 0]))] sz) := by
  refine Met.ofW (cc := cX11_init) (maxL := 1) (ret := none) (by decide) rfl ?_
  intro p e s m args below meth c s₁ B hml hv
  obtain ⟨rfl, hsz, hP, hKA, hD0⟩ := hv
  have hx := B.exec
  have hb := B.bytes
  have hr := B.returns
  have hts := atoms_spec (ws := wsX11_init) B.pre
  have hown : s.vm.findClass RX11 = some m.cls := findClass_of_methodNamed B.named
  have hlocks := B.notSynchronized
  have hin : meth.name = "<init>" := (name_of_methodNamed B.named B.method).1
  subst hsz
  have hK := hKA.1
  have hD := hD0.self (sz := s.heap.size)
  generalize hAe : va_A [(mm, .inr (11, [.null, .null, .null, .null, .int 0, .int 0, .null, .null, .null, .int 0, .null, .null, .int 0, .int 0, .int 0, .int 0, .int 0, .null, .int 0]))] s.heap.size = A at hD ⊢
  have hA : ∀ q : Nat, s.heap.size ≤ q → A q := fun q h => by rw [← hAe]; exact Or.inr h
  have hS : va_S A s.heap s.heap [] := va_S.rf
  have hP : va_P D vwCl [(mm, .inr (11, [.null, .null, .null, .null, .int 0, .int 0, .null, .null, .null, .int 0, .null, .null, .int 0, .int 0, .int 0, .int 0, .int 0, .null, .int 0]))] s.heap := hP
  have hl := lv_entry ([.ref mm]) (n := 1) (Nat.le_of_ble_eq_true rfl)
  rw [lg_entry_eq]
  generalize (lg_sl ([.ref mm]) ++ List.replicate (1 - (lg_sl ([.ref mm])).length) Slot.unset).toArray = ls at hl ⊢
  have hl : lv_has ls 1 [(0, .ref mm)] := hl
  have z0_ := hts (.methodLink RX11 1 objectInit) (by decide +kernel)
  have z1_ := hts (.instanceMethod objectInit) (by decide +kernel)
  have z2_ := hts (.code objectInit ⟨#[0xb1]⟩ 1 none) (by decide +kernel)
  have z3_ := hts (.arrayClass .int) (by decide +kernel)
  have z4_ := hts (.fieldLink RX11 7 "HeardSeenModel" "now" "[I") (by decide +kernel)
  have zi11_ : ∀ w ∈ u_ws RX11 TX11 19, w ∈ wsX11_init := by decide +kernel
  have z6_ := hts (.fieldLink RX11 13 "HeardSeenModel" "kept" "[I") (by decide +kernel)
  have z7_ := hts (.arrayClass .boolean) (by decide +kernel)
  have z8_ := hts (.fieldLink RX11 16 "HeardSeenModel" "isKept" "[Z") (by decide +kernel)
  have z9_ := hts (.fieldLink RX11 20 "HeardSeenModel" "refused" "[I") (by decide +kernel)
  have z10_ := hts (.fieldLink RX11 23 "HeardSeenModel" "stands" "[Z") (by decide +kernel)
  have z11_ := hts (.fieldLink RX11 26 "HeardSeenModel" "far" "[I") (by decide +kernel)
  have z12_ := hts (.fieldLink RX11 29 "HeardSeenModel" "queue" "[I") (by decide +kernel)
  have z13_ := hts (.fieldLink RX11 32 "HeardSeenModel" "meets" "[I") (by decide +kernel)
  have z14_ := hts (.fieldLink RX11 35 "HeardSeenModel" "bytes" "[I") (by decide +kernel)
  have z15_ := hts (.fieldLink RX11 38 "HeardSeenModel" "next" "[I") (by decide +kernel)
  refine lv_aload_n hx hb dX11_init_0 rfl (lv_at hl 0 rfl) ?_
  refine W.objInit hx hb hown z0_ z1_ z2_ rfl (by rw [hml]; exact hl.1) rfl dX11_init_1 (Nat.le_of_ble_eq_true rfl) (Nat.le_of_ble_eq_true rfl) ?_
  refine W.eq (g2 := F0 m 4 ls []) rfl ?_
  refine lv_aload_n hx hb dX11_init_4 rfl (lv_at hl 0 rfl) ?_
  refine lv_bipush (v := 122) hx hb dX11_init_5 (by decide) ?_
  refine my_newa (atype := .int) (ty := .int) (N' := 122) (a0 := (122, .inl (fun _ => 0))) hx hb z3_ rfl hK hP hD hS hA 1 rfl (a0I 122) (by decide) (by decide +kernel) (by decide +kernel) (Nat.le_of_ble_eq_true rfl) (Nat.le_of_ble_eq_true rfl) dX11_init_7 (fun q1 H hP hD hS => ?_)
  have hP : va_P D vwCl [(mm, .inr (11, [.null, .null, .null, .null, .int 0, .int 0, .null, .null, .null, .int 0, .null, .null, .int 0, .int 0, .int 0, .int 0, .int 0, .null, .int 0])), (q1, .inl (cy 1, 122, .inl (fun _ => 0)))] H := hP
  have hD : va_D A [(mm, .inr (11, [.null, .null, .null, .null, .int 0, .int 0, .null, .null, .null, .int 0, .null, .null, .int 0, .int 0, .int 0, .int 0, .int 0, .null, .int 0])), (q1, .inl (cy 1, 122, .inl (fun _ => 0)))] := hD
  refine W.widen (k := 1) (n := 122) (Nat.le_of_ble_eq_true rfl) (Nat.le_of_ble_eq_true rfl) ?_
  refine va_putF (D := D) (ci := 11) (v := .ref q1) (ty := .array .int) (C := RX11) (T := TX11) (N := 19) hx hb hts zi11_ tyX11 tyX11_ok nmX11 hown hK hP hD hS 0 rfl rfl 0 (by decide) z4_ (fun _ h9 => h9) rfl hin rfl (by decide +kernel) rfl rfl (Nat.le_of_ble_eq_true rfl) dX11_init_9 (fun H locs hP hD hS => ?_)
  have hP : va_P D vwCl [(mm, .inr (11, [.ref q1, .null, .null, .null, .int 0, .int 0, .null, .null, .null, .int 0, .null, .null, .int 0, .int 0, .int 0, .int 0, .int 0, .null, .int 0])), (q1, .inl (cy 1, 122, .inl (fun _ => 0)))] H := hP
  have hD : va_D A [(mm, .inr (11, [.ref q1, .null, .null, .null, .int 0, .int 0, .null, .null, .null, .int 0, .null, .null, .int 0, .int 0, .int 0, .int 0, .int 0, .null, .int 0])), (q1, .inl (cy 1, 122, .inl (fun _ => 0)))] := hD
  refine lv_aload_n hx hb dX11_init_12 rfl (lv_at hl 0 rfl) ?_
  refine lv_sipush (v := 244) hx hb dX11_init_13 (by decide) ?_
  refine my_newa (atype := .int) (ty := .int) (N' := 244) (a0 := (244, .inl (fun _ => 0))) hx hb z3_ rfl hK hP hD hS hA 1 rfl (a0I 244) (by decide) (by decide +kernel) (by decide +kernel) (Nat.le_of_ble_eq_true rfl) (Nat.le_of_ble_eq_true rfl) dX11_init_16 (fun q2 H hP hD hS => ?_)
  have hP : va_P D vwCl [(mm, .inr (11, [.ref q1, .null, .null, .null, .int 0, .int 0, .null, .null, .null, .int 0, .null, .null, .int 0, .int 0, .int 0, .int 0, .int 0, .null, .int 0])), (q1, .inl (cy 1, 122, .inl (fun _ => 0))), (q2, .inl (cy 1, 244, .inl (fun _ => 0)))] H := hP
  have hD : va_D A [(mm, .inr (11, [.ref q1, .null, .null, .null, .int 0, .int 0, .null, .null, .null, .int 0, .null, .null, .int 0, .int 0, .int 0, .int 0, .int 0, .null, .int 0])), (q1, .inl (cy 1, 122, .inl (fun _ => 0))), (q2, .inl (cy 1, 244, .inl (fun _ => 0)))] := hD
  refine W.widen (k := 2) (n := 366) (Nat.le_of_ble_eq_true rfl) (Nat.le_of_ble_eq_true rfl) ?_
  refine va_putF (D := D) (ci := 11) (v := .ref q2) (ty := .array .int) (C := RX11) (T := TX11) (N := 19) hx hb hts zi11_ tyX11 tyX11_ok nmX11 hown hK hP hD hS 0 rfl rfl 1 (by decide) z6_ (fun _ h9 => h9) rfl hin rfl (by decide +kernel) rfl rfl (Nat.le_of_ble_eq_true rfl) dX11_init_18 (fun H locs hP hD hS => ?_)
  have hP : va_P D vwCl [(mm, .inr (11, [.ref q1, .ref q2, .null, .null, .int 0, .int 0, .null, .null, .null, .int 0, .null, .null, .int 0, .int 0, .int 0, .int 0, .int 0, .null, .int 0])), (q1, .inl (cy 1, 122, .inl (fun _ => 0))), (q2, .inl (cy 1, 244, .inl (fun _ => 0)))] H := hP
  have hD : va_D A [(mm, .inr (11, [.ref q1, .ref q2, .null, .null, .int 0, .int 0, .null, .null, .null, .int 0, .null, .null, .int 0, .int 0, .int 0, .int 0, .int 0, .null, .int 0])), (q1, .inl (cy 1, 122, .inl (fun _ => 0))), (q2, .inl (cy 1, 244, .inl (fun _ => 0)))] := hD
  refine lv_aload_n hx hb dX11_init_21 rfl (lv_at hl 0 rfl) ?_
  refine lv_iconst (v := 2) hx hb dX11_init_22 (by decide) ?_
  refine my_newa (atype := .boolean) (ty := .boolean) (N' := 2) (a0 := (2, .inl (fun _ => 0))) hx hb z7_ rfl hK hP hD hS hA 2 rfl (a0Z 2) (by decide) (by decide +kernel) (by decide +kernel) (Nat.le_of_ble_eq_true rfl) (Nat.le_of_ble_eq_true rfl) dX11_init_23 (fun q3 H hP hD hS => ?_)
  have hP : va_P D vwCl [(mm, .inr (11, [.ref q1, .ref q2, .null, .null, .int 0, .int 0, .null, .null, .null, .int 0, .null, .null, .int 0, .int 0, .int 0, .int 0, .int 0, .null, .int 0])), (q1, .inl (cy 1, 122, .inl (fun _ => 0))), (q2, .inl (cy 1, 244, .inl (fun _ => 0))), (q3, .inl (cy 2, 2, .inl (fun _ => 0)))] H := hP
  have hD : va_D A [(mm, .inr (11, [.ref q1, .ref q2, .null, .null, .int 0, .int 0, .null, .null, .null, .int 0, .null, .null, .int 0, .int 0, .int 0, .int 0, .int 0, .null, .int 0])), (q1, .inl (cy 1, 122, .inl (fun _ => 0))), (q2, .inl (cy 1, 244, .inl (fun _ => 0))), (q3, .inl (cy 2, 2, .inl (fun _ => 0)))] := hD
  refine W.widen (k := 3) (n := 368) (Nat.le_of_ble_eq_true rfl) (Nat.le_of_ble_eq_true rfl) ?_
  refine va_putF (D := D) (ci := 11) (v := .ref q3) (ty := .array .boolean) (C := RX11) (T := TX11) (N := 19) hx hb hts zi11_ tyX11 tyX11_ok nmX11 hown hK hP hD hS 0 rfl rfl 2 (by decide) z8_ (fun _ h9 => h9) rfl hin rfl (by decide +kernel) rfl rfl (Nat.le_of_ble_eq_true rfl) dX11_init_25 (fun H locs hP hD hS => ?_)
  have hP : va_P D vwCl [(mm, .inr (11, [.ref q1, .ref q2, .ref q3, .null, .int 0, .int 0, .null, .null, .null, .int 0, .null, .null, .int 0, .int 0, .int 0, .int 0, .int 0, .null, .int 0])), (q1, .inl (cy 1, 122, .inl (fun _ => 0))), (q2, .inl (cy 1, 244, .inl (fun _ => 0))), (q3, .inl (cy 2, 2, .inl (fun _ => 0)))] H := hP
  have hD : va_D A [(mm, .inr (11, [.ref q1, .ref q2, .ref q3, .null, .int 0, .int 0, .null, .null, .null, .int 0, .null, .null, .int 0, .int 0, .int 0, .int 0, .int 0, .null, .int 0])), (q1, .inl (cy 1, 122, .inl (fun _ => 0))), (q2, .inl (cy 1, 244, .inl (fun _ => 0))), (q3, .inl (cy 2, 2, .inl (fun _ => 0)))] := hD
  refine lv_aload_n hx hb dX11_init_28 rfl (lv_at hl 0 rfl) ?_
  refine lv_iconst (v := 3) hx hb dX11_init_29 (by decide) ?_
  refine my_newa (atype := .int) (ty := .int) (N' := 3) (a0 := (3, .inl (fun _ => 0))) hx hb z3_ rfl hK hP hD hS hA 1 rfl (a0I 3) (by decide) (by decide +kernel) (by decide +kernel) (Nat.le_of_ble_eq_true rfl) (Nat.le_of_ble_eq_true rfl) dX11_init_30 (fun q4 H hP hD hS => ?_)
  have hP : va_P D vwCl [(mm, .inr (11, [.ref q1, .ref q2, .ref q3, .null, .int 0, .int 0, .null, .null, .null, .int 0, .null, .null, .int 0, .int 0, .int 0, .int 0, .int 0, .null, .int 0])), (q1, .inl (cy 1, 122, .inl (fun _ => 0))), (q2, .inl (cy 1, 244, .inl (fun _ => 0))), (q3, .inl (cy 2, 2, .inl (fun _ => 0))), (q4, .inl (cy 1, 3, .inl (fun _ => 0)))] H := hP
  have hD : va_D A [(mm, .inr (11, [.ref q1, .ref q2, .ref q3, .null, .int 0, .int 0, .null, .null, .null, .int 0, .null, .null, .int 0, .int 0, .int 0, .int 0, .int 0, .null, .int 0])), (q1, .inl (cy 1, 122, .inl (fun _ => 0))), (q2, .inl (cy 1, 244, .inl (fun _ => 0))), (q3, .inl (cy 2, 2, .inl (fun _ => 0))), (q4, .inl (cy 1, 3, .inl (fun _ => 0)))] := hD
  refine W.widen (k := 4) (n := 371) (Nat.le_of_ble_eq_true rfl) (Nat.le_of_ble_eq_true rfl) ?_
  refine va_putF (D := D) (ci := 11) (v := .ref q4) (ty := .array .int) (C := RX11) (T := TX11) (N := 19) hx hb hts zi11_ tyX11 tyX11_ok nmX11 hown hK hP hD hS 0 rfl rfl 3 (by decide) z9_ (fun _ h9 => h9) rfl hin rfl (by decide +kernel) rfl rfl (Nat.le_of_ble_eq_true rfl) dX11_init_32 (fun H locs hP hD hS => ?_)
  have hP : va_P D vwCl [(mm, .inr (11, [.ref q1, .ref q2, .ref q3, .ref q4, .int 0, .int 0, .null, .null, .null, .int 0, .null, .null, .int 0, .int 0, .int 0, .int 0, .int 0, .null, .int 0])), (q1, .inl (cy 1, 122, .inl (fun _ => 0))), (q2, .inl (cy 1, 244, .inl (fun _ => 0))), (q3, .inl (cy 2, 2, .inl (fun _ => 0))), (q4, .inl (cy 1, 3, .inl (fun _ => 0)))] H := hP
  have hD : va_D A [(mm, .inr (11, [.ref q1, .ref q2, .ref q3, .ref q4, .int 0, .int 0, .null, .null, .null, .int 0, .null, .null, .int 0, .int 0, .int 0, .int 0, .int 0, .null, .int 0])), (q1, .inl (cy 1, 122, .inl (fun _ => 0))), (q2, .inl (cy 1, 244, .inl (fun _ => 0))), (q3, .inl (cy 2, 2, .inl (fun _ => 0))), (q4, .inl (cy 1, 3, .inl (fun _ => 0)))] := hD
  refine lv_aload_n hx hb dX11_init_35 rfl (lv_at hl 0 rfl) ?_
  refine lv_bipush (v := 36) hx hb dX11_init_36 (by decide) ?_
  refine my_newa (atype := .boolean) (ty := .boolean) (N' := 36) (a0 := (36, .inl (fun _ => 0))) hx hb z7_ rfl hK hP hD hS hA 2 rfl (a0Z 36) (by decide) (by decide +kernel) (by decide +kernel) (Nat.le_of_ble_eq_true rfl) (Nat.le_of_ble_eq_true rfl) dX11_init_38 (fun q5 H hP hD hS => ?_)
  have hP : va_P D vwCl [(mm, .inr (11, [.ref q1, .ref q2, .ref q3, .ref q4, .int 0, .int 0, .null, .null, .null, .int 0, .null, .null, .int 0, .int 0, .int 0, .int 0, .int 0, .null, .int 0])), (q1, .inl (cy 1, 122, .inl (fun _ => 0))), (q2, .inl (cy 1, 244, .inl (fun _ => 0))), (q3, .inl (cy 2, 2, .inl (fun _ => 0))), (q4, .inl (cy 1, 3, .inl (fun _ => 0))), (q5, .inl (cy 2, 36, .inl (fun _ => 0)))] H := hP
  have hD : va_D A [(mm, .inr (11, [.ref q1, .ref q2, .ref q3, .ref q4, .int 0, .int 0, .null, .null, .null, .int 0, .null, .null, .int 0, .int 0, .int 0, .int 0, .int 0, .null, .int 0])), (q1, .inl (cy 1, 122, .inl (fun _ => 0))), (q2, .inl (cy 1, 244, .inl (fun _ => 0))), (q3, .inl (cy 2, 2, .inl (fun _ => 0))), (q4, .inl (cy 1, 3, .inl (fun _ => 0))), (q5, .inl (cy 2, 36, .inl (fun _ => 0)))] := hD
  refine W.widen (k := 5) (n := 407) (Nat.le_of_ble_eq_true rfl) (Nat.le_of_ble_eq_true rfl) ?_
  refine va_putF (D := D) (ci := 11) (v := .ref q5) (ty := .array .boolean) (C := RX11) (T := TX11) (N := 19) hx hb hts zi11_ tyX11 tyX11_ok nmX11 hown hK hP hD hS 0 rfl rfl 6 (by decide) z10_ (fun _ h9 => h9) rfl hin rfl (by decide +kernel) rfl rfl (Nat.le_of_ble_eq_true rfl) dX11_init_40 (fun H locs hP hD hS => ?_)
  have hP : va_P D vwCl [(mm, .inr (11, [.ref q1, .ref q2, .ref q3, .ref q4, .int 0, .int 0, .ref q5, .null, .null, .int 0, .null, .null, .int 0, .int 0, .int 0, .int 0, .int 0, .null, .int 0])), (q1, .inl (cy 1, 122, .inl (fun _ => 0))), (q2, .inl (cy 1, 244, .inl (fun _ => 0))), (q3, .inl (cy 2, 2, .inl (fun _ => 0))), (q4, .inl (cy 1, 3, .inl (fun _ => 0))), (q5, .inl (cy 2, 36, .inl (fun _ => 0)))] H := hP
  have hD : va_D A [(mm, .inr (11, [.ref q1, .ref q2, .ref q3, .ref q4, .int 0, .int 0, .ref q5, .null, .null, .int 0, .null, .null, .int 0, .int 0, .int 0, .int 0, .int 0, .null, .int 0])), (q1, .inl (cy 1, 122, .inl (fun _ => 0))), (q2, .inl (cy 1, 244, .inl (fun _ => 0))), (q3, .inl (cy 2, 2, .inl (fun _ => 0))), (q4, .inl (cy 1, 3, .inl (fun _ => 0))), (q5, .inl (cy 2, 36, .inl (fun _ => 0)))] := hD
  refine lv_aload_n hx hb dX11_init_43 rfl (lv_at hl 0 rfl) ?_
  refine lv_sipush (v := 1152) hx hb dX11_init_44 (by decide) ?_
  refine my_newa (atype := .int) (ty := .int) (N' := 1152) (a0 := (1152, .inl (fun _ => 0))) hx hb z3_ rfl hK hP hD hS hA 1 rfl (a0I 1152) (by decide) (by decide +kernel) (by decide +kernel) (Nat.le_of_ble_eq_true rfl) (Nat.le_of_ble_eq_true rfl) dX11_init_47 (fun q6 H hP hD hS => ?_)
  have hP : va_P D vwCl [(mm, .inr (11, [.ref q1, .ref q2, .ref q3, .ref q4, .int 0, .int 0, .ref q5, .null, .null, .int 0, .null, .null, .int 0, .int 0, .int 0, .int 0, .int 0, .null, .int 0])), (q1, .inl (cy 1, 122, .inl (fun _ => 0))), (q2, .inl (cy 1, 244, .inl (fun _ => 0))), (q3, .inl (cy 2, 2, .inl (fun _ => 0))), (q4, .inl (cy 1, 3, .inl (fun _ => 0))), (q5, .inl (cy 2, 36, .inl (fun _ => 0))), (q6, .inl (cy 1, 1152, .inl (fun _ => 0)))] H := hP
  have hD : va_D A [(mm, .inr (11, [.ref q1, .ref q2, .ref q3, .ref q4, .int 0, .int 0, .ref q5, .null, .null, .int 0, .null, .null, .int 0, .int 0, .int 0, .int 0, .int 0, .null, .int 0])), (q1, .inl (cy 1, 122, .inl (fun _ => 0))), (q2, .inl (cy 1, 244, .inl (fun _ => 0))), (q3, .inl (cy 2, 2, .inl (fun _ => 0))), (q4, .inl (cy 1, 3, .inl (fun _ => 0))), (q5, .inl (cy 2, 36, .inl (fun _ => 0))), (q6, .inl (cy 1, 1152, .inl (fun _ => 0)))] := hD
  refine W.widen (k := 6) (n := 1559) (Nat.le_of_ble_eq_true rfl) (Nat.le_of_ble_eq_true rfl) ?_
  refine va_putF (D := D) (ci := 11) (v := .ref q6) (ty := .array .int) (C := RX11) (T := TX11) (N := 19) hx hb hts zi11_ tyX11 tyX11_ok nmX11 hown hK hP hD hS 0 rfl rfl 7 (by decide) z11_ (fun _ h9 => h9) rfl hin rfl (by decide +kernel) rfl rfl (Nat.le_of_ble_eq_true rfl) dX11_init_49 (fun H locs hP hD hS => ?_)
  have hP : va_P D vwCl [(mm, .inr (11, [.ref q1, .ref q2, .ref q3, .ref q4, .int 0, .int 0, .ref q5, .ref q6, .null, .int 0, .null, .null, .int 0, .int 0, .int 0, .int 0, .int 0, .null, .int 0])), (q1, .inl (cy 1, 122, .inl (fun _ => 0))), (q2, .inl (cy 1, 244, .inl (fun _ => 0))), (q3, .inl (cy 2, 2, .inl (fun _ => 0))), (q4, .inl (cy 1, 3, .inl (fun _ => 0))), (q5, .inl (cy 2, 36, .inl (fun _ => 0))), (q6, .inl (cy 1, 1152, .inl (fun _ => 0)))] H := hP
  have hD : va_D A [(mm, .inr (11, [.ref q1, .ref q2, .ref q3, .ref q4, .int 0, .int 0, .ref q5, .ref q6, .null, .int 0, .null, .null, .int 0, .int 0, .int 0, .int 0, .int 0, .null, .int 0])), (q1, .inl (cy 1, 122, .inl (fun _ => 0))), (q2, .inl (cy 1, 244, .inl (fun _ => 0))), (q3, .inl (cy 2, 2, .inl (fun _ => 0))), (q4, .inl (cy 1, 3, .inl (fun _ => 0))), (q5, .inl (cy 2, 36, .inl (fun _ => 0))), (q6, .inl (cy 1, 1152, .inl (fun _ => 0)))] := hD
  refine lv_aload_n hx hb dX11_init_52 rfl (lv_at hl 0 rfl) ?_
  refine lv_sipush (v := 1152) hx hb dX11_init_53 (by decide) ?_
  refine my_newa (atype := .int) (ty := .int) (N' := 1152) (a0 := (1152, .inl (fun _ => 0))) hx hb z3_ rfl hK hP hD hS hA 1 rfl (a0I 1152) (by decide) (by decide +kernel) (by decide +kernel) (Nat.le_of_ble_eq_true rfl) (Nat.le_of_ble_eq_true rfl) dX11_init_56 (fun q7 H hP hD hS => ?_)
  have hP : va_P D vwCl [(mm, .inr (11, [.ref q1, .ref q2, .ref q3, .ref q4, .int 0, .int 0, .ref q5, .ref q6, .null, .int 0, .null, .null, .int 0, .int 0, .int 0, .int 0, .int 0, .null, .int 0])), (q1, .inl (cy 1, 122, .inl (fun _ => 0))), (q2, .inl (cy 1, 244, .inl (fun _ => 0))), (q3, .inl (cy 2, 2, .inl (fun _ => 0))), (q4, .inl (cy 1, 3, .inl (fun _ => 0))), (q5, .inl (cy 2, 36, .inl (fun _ => 0))), (q6, .inl (cy 1, 1152, .inl (fun _ => 0))), (q7, .inl (cy 1, 1152, .inl (fun _ => 0)))] H := hP
  have hD : va_D A [(mm, .inr (11, [.ref q1, .ref q2, .ref q3, .ref q4, .int 0, .int 0, .ref q5, .ref q6, .null, .int 0, .null, .null, .int 0, .int 0, .int 0, .int 0, .int 0, .null, .int 0])), (q1, .inl (cy 1, 122, .inl (fun _ => 0))), (q2, .inl (cy 1, 244, .inl (fun _ => 0))), (q3, .inl (cy 2, 2, .inl (fun _ => 0))), (q4, .inl (cy 1, 3, .inl (fun _ => 0))), (q5, .inl (cy 2, 36, .inl (fun _ => 0))), (q6, .inl (cy 1, 1152, .inl (fun _ => 0))), (q7, .inl (cy 1, 1152, .inl (fun _ => 0)))] := hD
  refine W.widen (k := 7) (n := 2711) (Nat.le_of_ble_eq_true rfl) (Nat.le_of_ble_eq_true rfl) ?_
  refine va_putF (D := D) (ci := 11) (v := .ref q7) (ty := .array .int) (C := RX11) (T := TX11) (N := 19) hx hb hts zi11_ tyX11 tyX11_ok nmX11 hown hK hP hD hS 0 rfl rfl 8 (by decide) z12_ (fun _ h9 => h9) rfl hin rfl (by decide +kernel) rfl rfl (Nat.le_of_ble_eq_true rfl) dX11_init_58 (fun H locs hP hD hS => ?_)
  have hP : va_P D vwCl [(mm, .inr (11, [.ref q1, .ref q2, .ref q3, .ref q4, .int 0, .int 0, .ref q5, .ref q6, .ref q7, .int 0, .null, .null, .int 0, .int 0, .int 0, .int 0, .int 0, .null, .int 0])), (q1, .inl (cy 1, 122, .inl (fun _ => 0))), (q2, .inl (cy 1, 244, .inl (fun _ => 0))), (q3, .inl (cy 2, 2, .inl (fun _ => 0))), (q4, .inl (cy 1, 3, .inl (fun _ => 0))), (q5, .inl (cy 2, 36, .inl (fun _ => 0))), (q6, .inl (cy 1, 1152, .inl (fun _ => 0))), (q7, .inl (cy 1, 1152, .inl (fun _ => 0)))] H := hP
  have hD : va_D A [(mm, .inr (11, [.ref q1, .ref q2, .ref q3, .ref q4, .int 0, .int 0, .ref q5, .ref q6, .ref q7, .int 0, .null, .null, .int 0, .int 0, .int 0, .int 0, .int 0, .null, .int 0])), (q1, .inl (cy 1, 122, .inl (fun _ => 0))), (q2, .inl (cy 1, 244, .inl (fun _ => 0))), (q3, .inl (cy 2, 2, .inl (fun _ => 0))), (q4, .inl (cy 1, 3, .inl (fun _ => 0))), (q5, .inl (cy 2, 36, .inl (fun _ => 0))), (q6, .inl (cy 1, 1152, .inl (fun _ => 0))), (q7, .inl (cy 1, 1152, .inl (fun _ => 0)))] := hD
  refine lv_aload_n hx hb dX11_init_61 rfl (lv_at hl 0 rfl) ?_
  refine lv_bipush (v := 36) hx hb dX11_init_62 (by decide) ?_
  refine my_newa (atype := .int) (ty := .int) (N' := 36) (a0 := (36, .inl (fun _ => 0))) hx hb z3_ rfl hK hP hD hS hA 1 rfl (a0I 36) (by decide) (by decide +kernel) (by decide +kernel) (Nat.le_of_ble_eq_true rfl) (Nat.le_of_ble_eq_true rfl) dX11_init_64 (fun q8 H hP hD hS => ?_)
  have hP : va_P D vwCl [(mm, .inr (11, [.ref q1, .ref q2, .ref q3, .ref q4, .int 0, .int 0, .ref q5, .ref q6, .ref q7, .int 0, .null, .null, .int 0, .int 0, .int 0, .int 0, .int 0, .null, .int 0])), (q1, .inl (cy 1, 122, .inl (fun _ => 0))), (q2, .inl (cy 1, 244, .inl (fun _ => 0))), (q3, .inl (cy 2, 2, .inl (fun _ => 0))), (q4, .inl (cy 1, 3, .inl (fun _ => 0))), (q5, .inl (cy 2, 36, .inl (fun _ => 0))), (q6, .inl (cy 1, 1152, .inl (fun _ => 0))), (q7, .inl (cy 1, 1152, .inl (fun _ => 0))), (q8, .inl (cy 1, 36, .inl (fun _ => 0)))] H := hP
  have hD : va_D A [(mm, .inr (11, [.ref q1, .ref q2, .ref q3, .ref q4, .int 0, .int 0, .ref q5, .ref q6, .ref q7, .int 0, .null, .null, .int 0, .int 0, .int 0, .int 0, .int 0, .null, .int 0])), (q1, .inl (cy 1, 122, .inl (fun _ => 0))), (q2, .inl (cy 1, 244, .inl (fun _ => 0))), (q3, .inl (cy 2, 2, .inl (fun _ => 0))), (q4, .inl (cy 1, 3, .inl (fun _ => 0))), (q5, .inl (cy 2, 36, .inl (fun _ => 0))), (q6, .inl (cy 1, 1152, .inl (fun _ => 0))), (q7, .inl (cy 1, 1152, .inl (fun _ => 0))), (q8, .inl (cy 1, 36, .inl (fun _ => 0)))] := hD
  refine W.widen (k := 8) (n := 2747) (Nat.le_of_ble_eq_true rfl) (Nat.le_of_ble_eq_true rfl) ?_
  refine va_putF (D := D) (ci := 11) (v := .ref q8) (ty := .array .int) (C := RX11) (T := TX11) (N := 19) hx hb hts zi11_ tyX11 tyX11_ok nmX11 hown hK hP hD hS 0 rfl rfl 10 (by decide) z13_ (fun _ h9 => h9) rfl hin rfl (by decide +kernel) rfl rfl (Nat.le_of_ble_eq_true rfl) dX11_init_66 (fun H locs hP hD hS => ?_)
  have hP : va_P D vwCl [(mm, .inr (11, [.ref q1, .ref q2, .ref q3, .ref q4, .int 0, .int 0, .ref q5, .ref q6, .ref q7, .int 0, .ref q8, .null, .int 0, .int 0, .int 0, .int 0, .int 0, .null, .int 0])), (q1, .inl (cy 1, 122, .inl (fun _ => 0))), (q2, .inl (cy 1, 244, .inl (fun _ => 0))), (q3, .inl (cy 2, 2, .inl (fun _ => 0))), (q4, .inl (cy 1, 3, .inl (fun _ => 0))), (q5, .inl (cy 2, 36, .inl (fun _ => 0))), (q6, .inl (cy 1, 1152, .inl (fun _ => 0))), (q7, .inl (cy 1, 1152, .inl (fun _ => 0))), (q8, .inl (cy 1, 36, .inl (fun _ => 0)))] H := hP
  have hD : va_D A [(mm, .inr (11, [.ref q1, .ref q2, .ref q3, .ref q4, .int 0, .int 0, .ref q5, .ref q6, .ref q7, .int 0, .ref q8, .null, .int 0, .int 0, .int 0, .int 0, .int 0, .null, .int 0])), (q1, .inl (cy 1, 122, .inl (fun _ => 0))), (q2, .inl (cy 1, 244, .inl (fun _ => 0))), (q3, .inl (cy 2, 2, .inl (fun _ => 0))), (q4, .inl (cy 1, 3, .inl (fun _ => 0))), (q5, .inl (cy 2, 36, .inl (fun _ => 0))), (q6, .inl (cy 1, 1152, .inl (fun _ => 0))), (q7, .inl (cy 1, 1152, .inl (fun _ => 0))), (q8, .inl (cy 1, 36, .inl (fun _ => 0)))] := hD
  refine lv_aload_n hx hb dX11_init_69 rfl (lv_at hl 0 rfl) ?_
  refine lv_sipush (v := 250) hx hb dX11_init_70 (by decide) ?_
  refine my_newa (atype := .int) (ty := .int) (N' := 250) (a0 := (250, .inl (fun _ => 0))) hx hb z3_ rfl hK hP hD hS hA 1 rfl (a0I 250) (by decide) (by decide +kernel) (by decide +kernel) (Nat.le_of_ble_eq_true rfl) (Nat.le_of_ble_eq_true rfl) dX11_init_73 (fun q9 H hP hD hS => ?_)
  have hP : va_P D vwCl [(mm, .inr (11, [.ref q1, .ref q2, .ref q3, .ref q4, .int 0, .int 0, .ref q5, .ref q6, .ref q7, .int 0, .ref q8, .null, .int 0, .int 0, .int 0, .int 0, .int 0, .null, .int 0])), (q1, .inl (cy 1, 122, .inl (fun _ => 0))), (q2, .inl (cy 1, 244, .inl (fun _ => 0))), (q3, .inl (cy 2, 2, .inl (fun _ => 0))), (q4, .inl (cy 1, 3, .inl (fun _ => 0))), (q5, .inl (cy 2, 36, .inl (fun _ => 0))), (q6, .inl (cy 1, 1152, .inl (fun _ => 0))), (q7, .inl (cy 1, 1152, .inl (fun _ => 0))), (q8, .inl (cy 1, 36, .inl (fun _ => 0))), (q9, .inl (cy 1, 250, .inl (fun _ => 0)))] H := hP
  have hD : va_D A [(mm, .inr (11, [.ref q1, .ref q2, .ref q3, .ref q4, .int 0, .int 0, .ref q5, .ref q6, .ref q7, .int 0, .ref q8, .null, .int 0, .int 0, .int 0, .int 0, .int 0, .null, .int 0])), (q1, .inl (cy 1, 122, .inl (fun _ => 0))), (q2, .inl (cy 1, 244, .inl (fun _ => 0))), (q3, .inl (cy 2, 2, .inl (fun _ => 0))), (q4, .inl (cy 1, 3, .inl (fun _ => 0))), (q5, .inl (cy 2, 36, .inl (fun _ => 0))), (q6, .inl (cy 1, 1152, .inl (fun _ => 0))), (q7, .inl (cy 1, 1152, .inl (fun _ => 0))), (q8, .inl (cy 1, 36, .inl (fun _ => 0))), (q9, .inl (cy 1, 250, .inl (fun _ => 0)))] := hD
  refine W.widen (k := 9) (n := 2997) (Nat.le_of_ble_eq_true rfl) (Nat.le_of_ble_eq_true rfl) ?_
  refine va_putF (D := D) (ci := 11) (v := .ref q9) (ty := .array .int) (C := RX11) (T := TX11) (N := 19) hx hb hts zi11_ tyX11 tyX11_ok nmX11 hown hK hP hD hS 0 rfl rfl 11 (by decide) z14_ (fun _ h9 => h9) rfl hin rfl (by decide +kernel) rfl rfl (Nat.le_of_ble_eq_true rfl) dX11_init_75 (fun H locs hP hD hS => ?_)
  have hP : va_P D vwCl [(mm, .inr (11, [.ref q1, .ref q2, .ref q3, .ref q4, .int 0, .int 0, .ref q5, .ref q6, .ref q7, .int 0, .ref q8, .ref q9, .int 0, .int 0, .int 0, .int 0, .int 0, .null, .int 0])), (q1, .inl (cy 1, 122, .inl (fun _ => 0))), (q2, .inl (cy 1, 244, .inl (fun _ => 0))), (q3, .inl (cy 2, 2, .inl (fun _ => 0))), (q4, .inl (cy 1, 3, .inl (fun _ => 0))), (q5, .inl (cy 2, 36, .inl (fun _ => 0))), (q6, .inl (cy 1, 1152, .inl (fun _ => 0))), (q7, .inl (cy 1, 1152, .inl (fun _ => 0))), (q8, .inl (cy 1, 36, .inl (fun _ => 0))), (q9, .inl (cy 1, 250, .inl (fun _ => 0)))] H := hP
  have hD : va_D A [(mm, .inr (11, [.ref q1, .ref q2, .ref q3, .ref q4, .int 0, .int 0, .ref q5, .ref q6, .ref q7, .int 0, .ref q8, .ref q9, .int 0, .int 0, .int 0, .int 0, .int 0, .null, .int 0])), (q1, .inl (cy 1, 122, .inl (fun _ => 0))), (q2, .inl (cy 1, 244, .inl (fun _ => 0))), (q3, .inl (cy 2, 2, .inl (fun _ => 0))), (q4, .inl (cy 1, 3, .inl (fun _ => 0))), (q5, .inl (cy 2, 36, .inl (fun _ => 0))), (q6, .inl (cy 1, 1152, .inl (fun _ => 0))), (q7, .inl (cy 1, 1152, .inl (fun _ => 0))), (q8, .inl (cy 1, 36, .inl (fun _ => 0))), (q9, .inl (cy 1, 250, .inl (fun _ => 0)))] := hD
  refine lv_aload_n hx hb dX11_init_78 rfl (lv_at hl 0 rfl) ?_
  refine lv_bipush (v := 122) hx hb dX11_init_79 (by decide) ?_
  refine my_newa (atype := .int) (ty := .int) (N' := 122) (a0 := (122, .inl (fun _ => 0))) hx hb z3_ rfl hK hP hD hS hA 1 rfl (a0I 122) (by decide) (by decide +kernel) (by decide +kernel) (Nat.le_of_ble_eq_true rfl) (Nat.le_of_ble_eq_true rfl) dX11_init_81 (fun q10 H hP hD hS => ?_)
  have hP : va_P D vwCl [(mm, .inr (11, [.ref q1, .ref q2, .ref q3, .ref q4, .int 0, .int 0, .ref q5, .ref q6, .ref q7, .int 0, .ref q8, .ref q9, .int 0, .int 0, .int 0, .int 0, .int 0, .null, .int 0])), (q1, .inl (cy 1, 122, .inl (fun _ => 0))), (q2, .inl (cy 1, 244, .inl (fun _ => 0))), (q3, .inl (cy 2, 2, .inl (fun _ => 0))), (q4, .inl (cy 1, 3, .inl (fun _ => 0))), (q5, .inl (cy 2, 36, .inl (fun _ => 0))), (q6, .inl (cy 1, 1152, .inl (fun _ => 0))), (q7, .inl (cy 1, 1152, .inl (fun _ => 0))), (q8, .inl (cy 1, 36, .inl (fun _ => 0))), (q9, .inl (cy 1, 250, .inl (fun _ => 0))), (q10, .inl (cy 1, 122, .inl (fun _ => 0)))] H := hP
  have hD : va_D A [(mm, .inr (11, [.ref q1, .ref q2, .ref q3, .ref q4, .int 0, .int 0, .ref q5, .ref q6, .ref q7, .int 0, .ref q8, .ref q9, .int 0, .int 0, .int 0, .int 0, .int 0, .null, .int 0])), (q1, .inl (cy 1, 122, .inl (fun _ => 0))), (q2, .inl (cy 1, 244, .inl (fun _ => 0))), (q3, .inl (cy 2, 2, .inl (fun _ => 0))), (q4, .inl (cy 1, 3, .inl (fun _ => 0))), (q5, .inl (cy 2, 36, .inl (fun _ => 0))), (q6, .inl (cy 1, 1152, .inl (fun _ => 0))), (q7, .inl (cy 1, 1152, .inl (fun _ => 0))), (q8, .inl (cy 1, 36, .inl (fun _ => 0))), (q9, .inl (cy 1, 250, .inl (fun _ => 0))), (q10, .inl (cy 1, 122, .inl (fun _ => 0)))] := hD
  refine W.widen (k := 10) (n := 3119) (Nat.le_of_ble_eq_true rfl) (Nat.le_of_ble_eq_true rfl) ?_
  refine va_putF (D := D) (ci := 11) (v := .ref q10) (ty := .array .int) (C := RX11) (T := TX11) (N := 19) hx hb hts zi11_ tyX11 tyX11_ok nmX11 hown hK hP hD hS 0 rfl rfl 17 (by decide) z15_ (fun _ h9 => h9) rfl hin rfl (by decide +kernel) rfl rfl (Nat.le_of_ble_eq_true rfl) dX11_init_83 (fun H locs hP hD hS => ?_)
  have hP : va_P D vwCl [(mm, .inr (11, [.ref q1, .ref q2, .ref q3, .ref q4, .int 0, .int 0, .ref q5, .ref q6, .ref q7, .int 0, .ref q8, .ref q9, .int 0, .int 0, .int 0, .int 0, .int 0, .ref q10, .int 0])), (q1, .inl (cy 1, 122, .inl (fun _ => 0))), (q2, .inl (cy 1, 244, .inl (fun _ => 0))), (q3, .inl (cy 2, 2, .inl (fun _ => 0))), (q4, .inl (cy 1, 3, .inl (fun _ => 0))), (q5, .inl (cy 2, 36, .inl (fun _ => 0))), (q6, .inl (cy 1, 1152, .inl (fun _ => 0))), (q7, .inl (cy 1, 1152, .inl (fun _ => 0))), (q8, .inl (cy 1, 36, .inl (fun _ => 0))), (q9, .inl (cy 1, 250, .inl (fun _ => 0))), (q10, .inl (cy 1, 122, .inl (fun _ => 0)))] H := hP
  have hD : va_D A [(mm, .inr (11, [.ref q1, .ref q2, .ref q3, .ref q4, .int 0, .int 0, .ref q5, .ref q6, .ref q7, .int 0, .ref q8, .ref q9, .int 0, .int 0, .int 0, .int 0, .int 0, .ref q10, .int 0])), (q1, .inl (cy 1, 122, .inl (fun _ => 0))), (q2, .inl (cy 1, 244, .inl (fun _ => 0))), (q3, .inl (cy 2, 2, .inl (fun _ => 0))), (q4, .inl (cy 1, 3, .inl (fun _ => 0))), (q5, .inl (cy 2, 36, .inl (fun _ => 0))), (q6, .inl (cy 1, 1152, .inl (fun _ => 0))), (q7, .inl (cy 1, 1152, .inl (fun _ => 0))), (q8, .inl (cy 1, 36, .inl (fun _ => 0))), (q9, .inl (cy 1, 250, .inl (fun _ => 0))), (q10, .inl (cy 1, 122, .inl (fun _ => 0)))] := hD
  refine lv_aload_n hx hb dX11_init_86 rfl (lv_at hl 0 rfl) ?_
  refine va_get (D := D) (ci := 11) (v := .ref q1) (C := RX11) (T := TX11) (N := 19) hx hb hts zi11_ hown hK hP 0 rfl rfl 0 (by decide) z4_ (fun _ h9 => h9) rfl dX11_init_87 ?_
  refine lv_bipush (v := 6) hx hb dX11_init_90 (by decide) ?_
  refine lv_bipush (v := 6) hx hb dX11_init_92 (by decide) ?_
  refine wr_v (wr := [(mm, .inr (11, [.ref q1, .ref q2, .ref q3, .ref q4, .int 0, .int 0, .ref q5, .ref q6, .ref q7, .int 0, .ref q8, .ref q9, .int 0, .int 0, .int 0, .int 0, .int 0, .ref q10, .int 0])), (q2, .inl (cy 1, 244, .inl (fun _ => 0))), (q3, .inl (cy 2, 2, .inl (fun _ => 0))), (q4, .inl (cy 1, 3, .inl (fun _ => 0))), (q5, .inl (cy 2, 36, .inl (fun _ => 0))), (q6, .inl (cy 1, 1152, .inl (fun _ => 0))), (q7, .inl (cy 1, 1152, .inl (fun _ => 0))), (q8, .inl (cy 1, 36, .inl (fun _ => 0))), (q9, .inl (cy 1, 250, .inl (fun _ => 0))), (q10, .inl (cy 1, 122, .inl (fun _ => 0)))]) (va_runS (As := [.ref q1, .int 6, .int 6]) (rest := []) ⟨hx, hb, hml, hown, hts⟩ (c_X11_begin l D cy q1 (fun _ => 0) 6 6 _) (va_cwS 3 hts gX11_init_X11_begin rfl rfl rfl (by decide +kernel) ⟨Nat.le_of_ble_eq_true rfl, Nat.le_of_ble_eq_true rfl⟩) (pS hKA (hP.sub (ws' := [(q1, .inl (cy 1, 122, .inl (fun _ => 0)))]) [1] rfl) (hD.sub (ws' := [(q1, .inl (cy 1, 122, .inl (fun _ => 0)))]) [1] (by decide) rfl)) rfl rfl hl.1 rfl (lv_room (Nat.le_of_ble_eq_true rfl)) dX11_init_94 ⟨Nat.le_of_ble_eq_true rfl, Nat.le_of_ble_eq_true rfl⟩) hP hD hS hA [1] [0, 2, 3, 4, 5, 6, 7, 8, 9, 10] rfl rfl (by decide +kernel) (by decide +kernel) (fun ur11 H locs hwr11 hP hD hS => ?_)
  obtain ⟨row12, rfl⟩ : ∃ z, z = ur11 := ⟨_, rfl⟩
  have hP : va_P D vwCl [(mm, .inr (11, [.ref q1, .ref q2, .ref q3, .ref q4, .int 0, .int 0, .ref q5, .ref q6, .ref q7, .int 0, .ref q8, .ref q9, .int 0, .int 0, .int 0, .int 0, .int 0, .ref q10, .int 0])), (q2, .inl (cy 1, 244, .inl (fun _ => 0))), (q3, .inl (cy 2, 2, .inl (fun _ => 0))), (q4, .inl (cy 1, 3, .inl (fun _ => 0))), (q5, .inl (cy 2, 36, .inl (fun _ => 0))), (q6, .inl (cy 1, 1152, .inl (fun _ => 0))), (q7, .inl (cy 1, 1152, .inl (fun _ => 0))), (q8, .inl (cy 1, 36, .inl (fun _ => 0))), (q9, .inl (cy 1, 250, .inl (fun _ => 0))), (q10, .inl (cy 1, 122, .inl (fun _ => 0))), (q1, .inl (cy 1, 122, .inl row12))] H := hP
  have hD : va_D A [(mm, .inr (11, [.ref q1, .ref q2, .ref q3, .ref q4, .int 0, .int 0, .ref q5, .ref q6, .ref q7, .int 0, .ref q8, .ref q9, .int 0, .int 0, .int 0, .int 0, .int 0, .ref q10, .int 0])), (q2, .inl (cy 1, 244, .inl (fun _ => 0))), (q3, .inl (cy 2, 2, .inl (fun _ => 0))), (q4, .inl (cy 1, 3, .inl (fun _ => 0))), (q5, .inl (cy 2, 36, .inl (fun _ => 0))), (q6, .inl (cy 1, 1152, .inl (fun _ => 0))), (q7, .inl (cy 1, 1152, .inl (fun _ => 0))), (q8, .inl (cy 1, 36, .inl (fun _ => 0))), (q9, .inl (cy 1, 250, .inl (fun _ => 0))), (q10, .inl (cy 1, 122, .inl (fun _ => 0))), (q1, .inl (cy 1, 122, .inl row12))] := hD
  refine W.widen (k := 10) (n := 3119) (Nat.le_of_ble_eq_true rfl) (Nat.le_of_ble_eq_true rfl) ?_
  have hP9 := hP.sub (ws' := [(mm, .inr (11, [.ref q1, .ref q2, .ref q3, .ref q4, .int 0, .int 0, .ref q5, .ref q6, .ref q7, .int 0, .ref q8, .ref q9, .int 0, .int 0, .int 0, .int 0, .int 0, .ref q10, .int 0])), (q1, .inl (cy 1, 122, .inl row12)), (q2, .inl (cy 1, 244, .inl (fun _ => 0))), (q3, .inl (cy 2, 2, .inl (fun _ => 0))), (q4, .inl (cy 1, 3, .inl (fun _ => 0))), (q5, .inl (cy 2, 36, .inl (fun _ => 0))), (q6, .inl (cy 1, 1152, .inl (fun _ => 0))), (q7, .inl (cy 1, 1152, .inl (fun _ => 0))), (q8, .inl (cy 1, 36, .inl (fun _ => 0))), (q9, .inl (cy 1, 250, .inl (fun _ => 0))), (q10, .inl (cy 1, 122, .inl (fun _ => 0)))]) [0, 10, 1, 2, 3, 4, 5, 6, 7, 8, 9] rfl
  have hD9 := hD.sub (ws' := [(mm, .inr (11, [.ref q1, .ref q2, .ref q3, .ref q4, .int 0, .int 0, .ref q5, .ref q6, .ref q7, .int 0, .ref q8, .ref q9, .int 0, .int 0, .int 0, .int 0, .int 0, .ref q10, .int 0])), (q1, .inl (cy 1, 122, .inl row12)), (q2, .inl (cy 1, 244, .inl (fun _ => 0))), (q3, .inl (cy 2, 2, .inl (fun _ => 0))), (q4, .inl (cy 1, 3, .inl (fun _ => 0))), (q5, .inl (cy 2, 36, .inl (fun _ => 0))), (q6, .inl (cy 1, 1152, .inl (fun _ => 0))), (q7, .inl (cy 1, 1152, .inl (fun _ => 0))), (q8, .inl (cy 1, 36, .inl (fun _ => 0))), (q9, .inl (cy 1, 250, .inl (fun _ => 0))), (q10, .inl (cy 1, 122, .inl (fun _ => 0)))]) [0, 10, 1, 2, 3, 4, 5, 6, 7, 8, 9] (by decide) rfl
  exact W.vret hx hb hr (fun t ht hW => ⟨⟨(q1, q2, q3, q4, q5, q6, q7, q8, q9, q10, row12), rfl, (by assumption), by rw [ht]; exact hP9, hD9⟩, hS.F ht⟩) hS.2.2 dX11_init_97
