theorem dX11_beside_0 : decode cX11_beside 0 = .ok (.aload_n 0, 1) := by decide +kernel
theorem dX11_beside_1 : decode cX11_beside 1 = .ok (.iload_n 1, 1) := by decide +kernel
set_option maxRecDepth 20000 in
theorem ggX11_beside_X11_xOf : GoodIn wsX11_beside wsX11_xOf := goodIn_r _ [6, 7, 8, 9, 5, 10, 1, 18, 19, 20, 21, 22, 23, 24, 25, 26, 27, 28, 29, 30, 31, 32, 33, 34, 35, 36] (by decide +kernel) (by decide +kernel)
set_option maxRecDepth 20000 in
theorem gX11_beside_X11_xOf : GoodIn wsX11_beside (wsV RX11 110 RX11 yX11_xOf wsX11_xOf) := goodIn_app (goodIn_of _ (by decide +kernel)) ggX11_beside_X11_xOf
theorem dX11_beside_2 : decode cX11_beside 2 = .ok (.invokevirtual 110, 3) := by decide +kernel
theorem dX11_beside_5 : decode cX11_beside 5 = .ok (.iload_n 2, 1) := by decide +kernel
theorem dX11_beside_6 : decode cX11_beside 6 = .ok (.iconst 1, 1) := by decide +kernel
theorem dX11_beside_7 : decode cX11_beside 7 = .ok (.if_icmp .ne 7, 3) := by decide +kernel
theorem dX11_beside_14 : decode cX11_beside 14 = .ok (.iload_n 2, 1) := by decide +kernel
theorem dX11_beside_15 : decode cX11_beside 15 = .ok (.iconst 2, 1) := by decide +kernel
theorem dX11_beside_16 : decode cX11_beside 16 = .ok (.if_icmp .ne 7, 3) := by decide +kernel
theorem dX11_beside_23 : decode cX11_beside 23 = .ok (.iconst 0, 1) := by decide +kernel
theorem dX11_beside_24 : decode cX11_beside 24 = .ok (.iadd, 1) := by decide +kernel
theorem dX11_beside_25 : decode cX11_beside 25 = .ok (.istore_n 3, 1) := by decide +kernel
theorem dX11_beside_26 : decode cX11_beside 26 = .ok (.aload_n 0, 1) := by decide +kernel
theorem dX11_beside_27 : decode cX11_beside 27 = .ok (.iload_n 1, 1) := by decide +kernel
set_option maxRecDepth 20000 in
theorem ggX11_beside_X11_yOf : GoodIn wsX11_beside wsX11_yOf := goodIn_r _ [14, 7, 8, 9, 5, 10, 1, 18, 19, 20, 21, 22, 23, 24, 25, 26, 27, 28, 29, 30, 31, 32, 33, 34, 35, 36] (by decide +kernel) (by decide +kernel)
set_option maxRecDepth 20000 in
theorem gX11_beside_X11_yOf : GoodIn wsX11_beside (wsV RX11 116 RX11 yX11_yOf wsX11_yOf) := goodIn_app (goodIn_of _ (by decide +kernel)) ggX11_beside_X11_yOf
theorem dX11_beside_28 : decode cX11_beside 28 = .ok (.invokevirtual 116, 3) := by decide +kernel
theorem dX11_beside_31 : decode cX11_beside 31 = .ok (.iload_n 2, 1) := by decide +kernel
theorem dX11_beside_32 : decode cX11_beside 32 = .ok (.ifCond .ne 7, 3) := by decide +kernel
theorem dX11_beside_39 : decode cX11_beside 39 = .ok (.iload_n 2, 1) := by decide +kernel
theorem dX11_beside_40 : decode cX11_beside 40 = .ok (.iconst 3, 1) := by decide +kernel
theorem dX11_beside_41 : decode cX11_beside 41 = .ok (.if_icmp .ne 7, 3) := by decide +kernel
theorem dX11_beside_48 : decode cX11_beside 48 = .ok (.iconst 0, 1) := by decide +kernel
theorem dX11_beside_49 : decode cX11_beside 49 = .ok (.iadd, 1) := by decide +kernel
theorem dX11_beside_50 : decode cX11_beside 50 = .ok (.istore 4, 2) := by decide +kernel
theorem dX11_beside_52 : decode cX11_beside 52 = .ok (.iload_n 3, 1) := by decide +kernel
theorem dX11_beside_53 : decode cX11_beside 53 = .ok (.i2l, 1) := by decide +kernel
theorem dX11_beside_54 : decode cX11_beside 54 = .ok (.lconst 0, 1) := by decide +kernel
theorem dX11_beside_55 : decode cX11_beside 55 = .ok (.aload_n 0, 1) := by decide +kernel
set_option maxRecDepth 20000 in
theorem ggX11_beside_X11_wide : GoodIn wsX11_beside wsX11_wide := goodIn_r _ [10, 1, 18, 19, 20, 21, 22, 23, 24, 25, 26, 27, 28, 29, 30, 31, 32, 33, 34, 35, 36] (by decide +kernel) (by decide +kernel)
set_option maxRecDepth 20000 in
theorem gX11_beside_X11_wide : GoodIn wsX11_beside (wsV RX11 107 RX11 yX11_wide wsX11_wide) := goodIn_app (goodIn_of _ (by decide +kernel)) ggX11_beside_X11_wide
theorem dX11_beside_56 : decode cX11_beside 56 = .ok (.invokevirtual 107, 3) := by decide +kernel
theorem dX11_beside_59 : decode cX11_beside 59 = .ok (.iconst 1, 1) := by decide +kernel
theorem dX11_beside_60 : decode cX11_beside 60 = .ok (.isub, 1) := by decide +kernel
theorem dX11_beside_61 : decode cX11_beside 61 = .ok (.i2l, 1) := by decide +kernel
set_option maxRecDepth 20000 in
theorem ggX11_beside_X11_in : GoodIn wsX11_beside wsX11_in := goodIn_r _ [17] (by decide +kernel) (by decide +kernel)
set_option maxRecDepth 20000 in
theorem gX11_beside_X11_in : GoodIn wsX11_beside (va_wsS RX11 49 yX11_in wsX11_in) := goodIn_app (goodIn_of _ (by decide +kernel)) ggX11_beside_X11_in
theorem dX11_beside_62 : decode cX11_beside 62 = .ok (.invokestatic 49, 3) := by decide +kernel
theorem dX11_beside_65 : decode cX11_beside 65 = .ok (.ifCond .eq 34, 3) := by decide +kernel
theorem dX11_beside_99 : decode cX11_beside 99 = .ok (.iconst (-1), 1) := by decide +kernel
theorem dX11_beside_100 : decode cX11_beside 100 = .ok (.ireturn, 1) := by decide +kernel
theorem dX11_beside_68 : decode cX11_beside 68 = .ok (.iload 4, 2) := by decide +kernel
theorem dX11_beside_70 : decode cX11_beside 70 = .ok (.i2l, 1) := by decide +kernel
theorem dX11_beside_71 : decode cX11_beside 71 = .ok (.lconst 0, 1) := by decide +kernel
theorem dX11_beside_72 : decode cX11_beside 72 = .ok (.aload_n 0, 1) := by decide +kernel
theorem dX11_beside_73 : decode cX11_beside 73 = .ok (.getfield 7, 3) := by decide +kernel
theorem dX11_beside_76 : decode cX11_beside 76 = .ok (.iconst 1, 1) := by decide +kernel
theorem dX11_beside_77 : decode cX11_beside 77 = .ok (.iaload, 1) := by decide +kernel
theorem dX11_beside_78 : decode cX11_beside 78 = .ok (.iconst 1, 1) := by decide +kernel
theorem dX11_beside_79 : decode cX11_beside 79 = .ok (.isub, 1) := by decide +kernel
theorem dX11_beside_80 : decode cX11_beside 80 = .ok (.i2l, 1) := by decide +kernel
theorem dX11_beside_81 : decode cX11_beside 81 = .ok (.invokestatic 49, 3) := by decide +kernel
theorem dX11_beside_84 : decode cX11_beside 84 = .ok (.ifCond .eq 15, 3) := by decide +kernel
theorem dX11_beside_87 : decode cX11_beside 87 = .ok (.aload_n 0, 1) := by decide +kernel
theorem dX11_beside_88 : decode cX11_beside 88 = .ok (.invokevirtual 107, 3) := by decide +kernel
theorem dX11_beside_91 : decode cX11_beside 91 = .ok (.iload 4, 2) := by decide +kernel
theorem dX11_beside_93 : decode cX11_beside 93 = .ok (.imul, 1) := by decide +kernel
theorem dX11_beside_94 : decode cX11_beside 94 = .ok (.iload_n 3, 1) := by decide +kernel
theorem dX11_beside_95 : decode cX11_beside 95 = .ok (.iadd, 1) := by decide +kernel
theorem dX11_beside_96 : decode cX11_beside 96 = .ok (.goto 4, 3) := by decide +kernel
theorem dX11_beside_44 : decode cX11_beside 44 = .ok (.iconst 1, 1) := by decide +kernel
theorem dX11_beside_45 : decode cX11_beside 45 = .ok (.goto 4, 3) := by decide +kernel
theorem dX11_beside_35 : decode cX11_beside 35 = .ok (.iconst (-1), 1) := by decide +kernel
theorem dX11_beside_36 : decode cX11_beside 36 = .ok (.goto 13, 3) := by decide +kernel
theorem dX11_beside_19 : decode cX11_beside 19 = .ok (.iconst 1, 1) := by decide +kernel
theorem dX11_beside_20 : decode cX11_beside 20 = .ok (.goto 4, 3) := by decide +kernel
theorem dX11_beside_10 : decode cX11_beside 10 = .ok (.iconst (-1), 1) := by decide +kernel
theorem dX11_beside_11 : decode cX11_beside 11 = .ok (.goto 13, 3) := by decide +kernel
theorem dX11_findFar_0 : decode cX11_findFar 0 = .ok (.iconst 0, 1) := by decide +kernel
theorem dX11_findFar_1 : decode cX11_findFar 1 = .ok (.istore_n 2, 1) := by decide +kernel
theorem dX11_findFar_2 : decode cX11_findFar 2 = .ok (.iload_n 2, 1) := by decide +kernel
theorem dX11_findFar_3 : decode cX11_findFar 3 = .ok (.bipush 36, 2) := by decide +kernel
theorem dX11_findFar_5 : decode cX11_findFar 5 = .ok (.if_icmp .ge 17, 3) := by decide +kernel
theorem dX11_findFar_22 : decode cX11_findFar 22 = .ok (.aload_n 0, 1) := by decide +kernel
theorem dX11_findFar_23 : decode cX11_findFar 23 = .ok (.iconst 0, 1) := by decide +kernel
theorem dX11_findFar_24 : decode cX11_findFar 24 = .ok (.putfield 169, 3) := by decide +kernel
theorem dX11_findFar_27 : decode cX11_findFar 27 = .ok (.aload_n 0, 1) := by decide +kernel
theorem dX11_findFar_28 : decode cX11_findFar 28 = .ok (.getfield 23, 3) := by decide +kernel
theorem dX11_findFar_31 : decode cX11_findFar 31 = .ok (.iload_n 1, 1) := by decide +kernel
theorem dX11_findFar_32 : decode cX11_findFar 32 = .ok (.baload, 1) := by decide +kernel
theorem dX11_findFar_55 : decode cX11_findFar 55 = .ok (.iconst 0, 1) := by decide +kernel
theorem dX11_findFar_56 : decode cX11_findFar 56 = .ok (.istore_n 2, 1) := by decide +kernel
theorem dX11_findFar_57 : decode cX11_findFar 57 = .ok (.iload_n 2, 1) := by decide +kernel
theorem dX11_findFar_58 : decode cX11_findFar 58 = .ok (.aload_n 0, 1) := by decide +kernel
theorem dX11_findFar_59 : decode cX11_findFar 59 = .ok (.getfield 169, 3) := by decide +kernel
theorem dX11_findFar_62 : decode cX11_findFar 62 = .ok (.if_icmp .ge 104, 3) := by decide +kernel
theorem dX11_findFar_166 : decode cX11_findFar 166 = .ok (.return_, 1) := by decide +kernel
theorem dX11_findFar_65 : decode cX11_findFar 65 = .ok (.iconst 0, 1) := by decide +kernel
theorem dX11_findFar_66 : decode cX11_findFar 66 = .ok (.istore_n 3, 1) := by decide +kernel
theorem dX11_findFar_67 : decode cX11_findFar 67 = .ok (.iload_n 3, 1) := by decide +kernel
theorem dX11_findFar_68 : decode cX11_findFar 68 = .ok (.iconst 4, 1) := by decide +kernel
theorem dX11_findFar_69 : decode cX11_findFar 69 = .ok (.if_icmp .ge 91, 3) := by decide +kernel
theorem dX11_findFar_160 : decode cX11_findFar 160 = .ok (.iinc 2 1, 3) := by decide +kernel
theorem dX11_findFar_163 : decode cX11_findFar 163 = .ok (.goto (-106), 3) := by decide +kernel
theorem dX11_findFar_72 : decode cX11_findFar 72 = .ok (.aload_n 0, 1) := by decide +kernel
theorem dX11_findFar_73 : decode cX11_findFar 73 = .ok (.aload_n 0, 1) := by decide +kernel
theorem dX11_findFar_74 : decode cX11_findFar 74 = .ok (.getfield 29, 3) := by decide +kernel
theorem dX11_findFar_77 : decode cX11_findFar 77 = .ok (.iload_n 2, 1) := by decide +kernel
theorem dX11_findFar_78 : decode cX11_findFar 78 = .ok (.iaload, 1) := by decide +kernel
theorem dX11_findFar_79 : decode cX11_findFar 79 = .ok (.iload_n 3, 1) := by decide +kernel
set_option maxRecDepth 20000 in
theorem ggX11_findFar_X11_beside : GoodIn wsX11_findFar wsX11_beside := goodIn_r _ [10, 11, 12, 13, 14, 9, 15, 16, 17, 18, 19, 20, 21, 22, 23, 24, 25, 26, 27, 28, 29, 30, 31, 32, 33, 34, 35, 36, 37, 38, 39, 40, 41, 42, 43, 44, 45] (by decide +kernel) (by decide +kernel)
set_option maxRecDepth 20000 in
theorem gX11_findFar_X11_beside : GoodIn wsX11_findFar (wsV RX11 172 RX11 yX11_beside wsX11_beside) := goodIn_app (goodIn_of _ (by decide +kernel)) ggX11_findFar_X11_beside
theorem dX11_findFar_80 : decode cX11_findFar 80 = .ok (.invokevirtual 172, 3) := by decide +kernel
theorem dX11_findFar_83 : decode cX11_findFar 83 = .ok (.istore 4, 2) := by decide +kernel
theorem dX11_findFar_85 : decode cX11_findFar 85 = .ok (.iload 4, 2) := by decide +kernel
theorem dX11_findFar_87 : decode cX11_findFar 87 = .ok (.iconst (-1), 1) := by decide +kernel
theorem dX11_findFar_88 : decode cX11_findFar 88 = .ok (.if_icmp .eq 66, 3) := by decide +kernel
theorem dX11_findFar_154 : decode cX11_findFar 154 = .ok (.iinc 3 1, 3) := by decide +kernel
theorem dX11_findFar_157 : decode cX11_findFar 157 = .ok (.goto (-90), 3) := by decide +kernel
theorem dX11_findFar_91 : decode cX11_findFar 91 = .ok (.aload_n 0, 1) := by decide +kernel
theorem dX11_findFar_92 : decode cX11_findFar 92 = .ok (.getfield 23, 3) := by decide +kernel
theorem dX11_findFar_95 : decode cX11_findFar 95 = .ok (.iload 4, 2) := by decide +kernel
theorem dX11_findFar_97 : decode cX11_findFar 97 = .ok (.baload, 1) := by decide +kernel
theorem dX11_findFar_98 : decode cX11_findFar 98 = .ok (.ifCond .eq 56, 3) := by decide +kernel
theorem dX11_findFar_101 : decode cX11_findFar 101 = .ok (.aload_n 0, 1) := by decide +kernel
theorem dX11_findFar_102 : decode cX11_findFar 102 = .ok (.getfield 26, 3) := by decide +kernel
theorem dX11_findFar_105 : decode cX11_findFar 105 = .ok (.iload 4, 2) := by decide +kernel
theorem dX11_findFar_107 : decode cX11_findFar 107 = .ok (.iaload, 1) := by decide +kernel
theorem dX11_findFar_108 : decode cX11_findFar 108 = .ok (.ldc 127, 2) := by decide +kernel
theorem dX11_findFar_110 : decode cX11_findFar 110 = .ok (.if_icmp .ne 44, 3) := by decide +kernel
theorem dX11_findFar_113 : decode cX11_findFar 113 = .ok (.aload_n 0, 1) := by decide +kernel
theorem dX11_findFar_114 : decode cX11_findFar 114 = .ok (.getfield 26, 3) := by decide +kernel
theorem dX11_findFar_117 : decode cX11_findFar 117 = .ok (.iload 4, 2) := by decide +kernel
theorem dX11_findFar_119 : decode cX11_findFar 119 = .ok (.aload_n 0, 1) := by decide +kernel
theorem dX11_findFar_120 : decode cX11_findFar 120 = .ok (.getfield 26, 3) := by decide +kernel
theorem dX11_findFar_123 : decode cX11_findFar 123 = .ok (.aload_n 0, 1) := by decide +kernel
theorem dX11_findFar_124 : decode cX11_findFar 124 = .ok (.getfield 29, 3) := by decide +kernel
theorem dX11_findFar_127 : decode cX11_findFar 127 = .ok (.iload_n 2, 1) := by decide +kernel
theorem dX11_findFar_128 : decode cX11_findFar 128 = .ok (.iaload, 1) := by decide +kernel
theorem dX11_findFar_129 : decode cX11_findFar 129 = .ok (.iaload, 1) := by decide +kernel
theorem dX11_findFar_130 : decode cX11_findFar 130 = .ok (.iconst 1, 1) := by decide +kernel
theorem dX11_findFar_131 : decode cX11_findFar 131 = .ok (.iadd, 1) := by decide +kernel
theorem dX11_findFar_132 : decode cX11_findFar 132 = .ok (.iastore, 1) := by decide +kernel
theorem dX11_findFar_133 : decode cX11_findFar 133 = .ok (.aload_n 0, 1) := by decide +kernel
theorem dX11_findFar_134 : decode cX11_findFar 134 = .ok (.getfield 29, 3) := by decide +kernel
theorem dX11_findFar_137 : decode cX11_findFar 137 = .ok (.aload_n 0, 1) := by decide +kernel
theorem dX11_findFar_138 : decode cX11_findFar 138 = .ok (.getfield 169, 3) := by decide +kernel
theorem dX11_findFar_141 : decode cX11_findFar 141 = .ok (.iload 4, 2) := by decide +kernel
theorem dX11_findFar_143 : decode cX11_findFar 143 = .ok (.iastore, 1) := by decide +kernel
theorem dX11_findFar_144 : decode cX11_findFar 144 = .ok (.aload_n 0, 1) := by decide +kernel
theorem dX11_findFar_145 : decode cX11_findFar 145 = .ok (.dup, 1) := by decide +kernel
theorem dX11_findFar_146 : decode cX11_findFar 146 = .ok (.getfield 169, 3) := by decide +kernel
theorem dX11_findFar_149 : decode cX11_findFar 149 = .ok (.iconst 1, 1) := by decide +kernel
theorem dX11_findFar_150 : decode cX11_findFar 150 = .ok (.iadd, 1) := by decide +kernel
theorem dX11_findFar_151 : decode cX11_findFar 151 = .ok (.putfield 169, 3) := by decide +kernel
theorem dX11_findFar_33 : decode cX11_findFar 33 = .ok (.ifCond .eq 22, 3) := by decide +kernel
theorem dX11_findFar_36 : decode cX11_findFar 36 = .ok (.aload_n 0, 1) := by decide +kernel
theorem dX11_findFar_37 : decode cX11_findFar 37 = .ok (.getfield 26, 3) := by decide +kernel
theorem dX11_findFar_40 : decode cX11_findFar 40 = .ok (.iload_n 1, 1) := by decide +kernel
theorem dX11_findFar_41 : decode cX11_findFar 41 = .ok (.iconst 0, 1) := by decide +kernel
theorem dX11_findFar_42 : decode cX11_findFar 42 = .ok (.iastore, 1) := by decide +kernel
theorem dX11_findFar_43 : decode cX11_findFar 43 = .ok (.aload_n 0, 1) := by decide +kernel
theorem dX11_findFar_44 : decode cX11_findFar 44 = .ok (.getfield 29, 3) := by decide +kernel
theorem dX11_findFar_47 : decode cX11_findFar 47 = .ok (.iconst 0, 1) := by decide +kernel
theorem dX11_findFar_48 : decode cX11_findFar 48 = .ok (.iload_n 1, 1) := by decide +kernel
theorem dX11_findFar_49 : decode cX11_findFar 49 = .ok (.iastore, 1) := by decide +kernel
theorem dX11_findFar_50 : decode cX11_findFar 50 = .ok (.aload_n 0, 1) := by decide +kernel
theorem dX11_findFar_51 : decode cX11_findFar 51 = .ok (.iconst 1, 1) := by decide +kernel
theorem dX11_findFar_52 : decode cX11_findFar 52 = .ok (.putfield 169, 3) := by decide +kernel
theorem dX11_findFar_8 : decode cX11_findFar 8 = .ok (.aload_n 0, 1) := by decide +kernel
theorem dX11_findFar_9 : decode cX11_findFar 9 = .ok (.getfield 26, 3) := by decide +kernel
theorem dX11_findFar_12 : decode cX11_findFar 12 = .ok (.iload_n 2, 1) := by decide +kernel
theorem dX11_findFar_13 : decode cX11_findFar 13 = .ok (.ldc 127, 2) := by decide +kernel
theorem dX11_findFar_15 : decode cX11_findFar 15 = .ok (.iastore, 1) := by decide +kernel
theorem dX11_findFar_16 : decode cX11_findFar 16 = .ok (.iinc 2 1, 3) := by decide +kernel
theorem dX11_findFar_19 : decode cX11_findFar 19 = .ok (.goto (-17), 3) := by decide +kernel
set_option maxHeartbeats 4000000 in
set_option maxRecDepth 100000 in
theorem n_X11_beside (l : Launch) (D : va_G) (cy : Nat → ClassId) (mW : Nat) (mH : Nat) (mS : Nat) (mP : Nat) (mm : Nat) (mm_now : Nat) (mm_kept : Nat) (mm_isKept : Nat) (mm_refused : Nat) (mm_lineFrom : Int32) (mm_lineTo : Int32) (mm_stands : Nat) (mm_far : Nat) (mm_queue : Nat) (mm_queued : Int32) (mm_meets : Nat) (mm_bytes : Nat) (bl : Nat) (ta : Nat) (tl : Nat) (mm_token : Int32) (mm_value : Int32) (mm_next : Nat) (tk : Nat) (mm_now_f : Nat → Int32) (pq : Nat) (ps : Nat) (sz : Nat) (hF : mV mm_now_f mW mH mS mP) (hpq : pq < 36) (hps : ps < 4) : Met l yX11_beside wsX11_beside ({ frames := 2, cells := 0, slots := 0, locals := 41 }) (va_Pc [.ref mm, .int (nI pq), .int (nI ps)] (kPre D cy [(mm, .inr (11, [.ref mm_now, .ref mm_kept, .ref mm_isKept, .ref mm_refused, .int mm_lineFrom, .int mm_lineTo, .ref mm_stands, .ref mm_far, .ref mm_queue, .int mm_queued, .ref mm_meets, .ref mm_bytes, .int (nI bl), .int (nI ta), .int (nI tl), .int mm_token, .int mm_value, .ref mm_next, .int (nI tk)])), (mm_now, .inl (cy 1, 122, .inl mm_now_f))] sz)) (va_Qi (fun (r : Int32) (u : Unit) => (r = -1 ∧ bsN mW mH pq ps = none) ∨ ∃ j : Nat, r = nI j ∧ bsN mW mH pq ps = some j) (fun _ _ => True) (fun q : Nat => sz ≤ q)) 0 0 (fun q : Nat => sz ≤ q) := by
  refine Met.ofW (cc := cX11_beside) (maxL := 5) (ret := (some .int)) (by decide) rfl ?_
  intro p e s m args below meth c s₁ B hml hv
  obtain ⟨rfl, hsz, hP, hKA, hD0⟩ := hv
  have hx := B.exec
  have hb := B.bytes
  have hr := B.returns
  have hts := atoms_spec (ws := wsX11_beside) B.pre
  have hown : s.vm.findClass RX11 = some m.cls := findClass_of_methodNamed B.named
  have hlocks := B.notSynchronized
  subst hsz
  have hK := hKA.1
  have hD := hD0
  generalize hAe : (fun q : Nat => s.heap.size ≤ q) = A
  have hA : ∀ q : Nat, s.heap.size ≤ q → A q := fun q h => by rw [← hAe]; exact h
  have hS : va_S A s.heap s.heap [] := va_S.rf
  have hP : va_P D vwCl [(mm, .inr (11, [.ref mm_now, .ref mm_kept, .ref mm_isKept, .ref mm_refused, .int mm_lineFrom, .int mm_lineTo, .ref mm_stands, .ref mm_far, .ref mm_queue, .int mm_queued, .ref mm_meets, .ref mm_bytes, .int (nI bl), .int (nI ta), .int (nI tl), .int mm_token, .int mm_value, .ref mm_next, .int (nI tk)])), (mm_now, .inl (cy 1, 122, .inl mm_now_f))] s.heap := hP
  have hl := lv_entry ([.ref mm, .int (nI pq), .int (nI ps)]) (n := 5) (Nat.le_of_ble_eq_true rfl)
  rw [lg_entry_eq]
  generalize (lg_sl ([.ref mm, .int (nI pq), .int (nI ps)]) ++ List.replicate (5 - (lg_sl ([.ref mm, .int (nI pq), .int (nI ps)])).length) Slot.unset).toArray = ls at hl ⊢
  have hl : lv_has ls 5 [(0, .ref mm), (1, .int (nI pq)), (2, .int (nI ps))] := hl
  refine qW (fun QF hQF => ?_)
  have z0_ := hts (.fieldLink RX11 7 "HeardSeenModel" "now" "[I") (by decide +kernel)
  have zi11_ : ∀ w ∈ u_ws RX11 TX11 19, w ∈ wsX11_beside := by decide +kernel
  obtain ⟨hW2, hW6, hH2, hH6, hSe, hS4, hS6, hP5⟩ := hF.rng
  refine lv_aload_n hx hb dX11_beside_0 rfl (lv_at hl 0 rfl) ?_
  refine lv_iload_n hx hb dX11_beside_1 rfl (lv_at hl 1 rfl) ?_
  refine rd_i (va_runV (As := [.int (nI pq)]) (rest := []) ⟨hx, hb, hml, hown, hts⟩ (n_X11_xOf l D cy mW mH mS mP mm mm_now mm_kept mm_isKept mm_refused mm_lineFrom mm_lineTo mm_stands mm_far mm_queue mm_queued mm_meets mm_bytes bl ta tl mm_token mm_value mm_next tk mm_now_f (nI pq) _ (by first | assumption | omega)) (cwV 1 hts gX11_beside_X11_xOf rfl rfl rfl (by decide +kernel) ⟨Nat.le_of_ble_eq_true rfl, Nat.le_of_ble_eq_true rfl⟩) (pV (ci := 11) (k := 0) hKA (hP.sub (ws' := [(mm, .inr (11, [.ref mm_now, .ref mm_kept, .ref mm_isKept, .ref mm_refused, .int mm_lineFrom, .int mm_lineTo, .ref mm_stands, .ref mm_far, .ref mm_queue, .int mm_queued, .ref mm_meets, .ref mm_bytes, .int (nI bl), .int (nI ta), .int (nI tl), .int mm_token, .int mm_value, .ref mm_next, .int (nI tk)])), (mm_now, .inl (cy 1, 122, .inl mm_now_f))]) [0, 1] rfl) (hD.sub (ws' := [(mm, .inr (11, [.ref mm_now, .ref mm_kept, .ref mm_isKept, .ref mm_refused, .int mm_lineFrom, .int mm_lineTo, .ref mm_stands, .ref mm_far, .ref mm_queue, .int mm_queued, .ref mm_meets, .ref mm_bytes, .int (nI bl), .int (nI ta), .int (nI tl), .int mm_token, .int mm_value, .ref mm_next, .int (nI tk)])), (mm_now, .inl (cy 1, 122, .inl mm_now_f))]) [0, 1] (by decide) rfl) rfl rfl) rfl rfl hl.1 rfl (lv_room (Nat.le_of_ble_eq_true rfl)) dX11_beside_2 ⟨Nat.le_of_ble_eq_true rfl, Nat.le_of_ble_eq_true rfl⟩) hP hS hA (fun r1 H locs hwr1 hP hS => ?_)
  have hwr1 : r1 = (nI pq) - (nI pq) / nI mW * nI mW := hwr1
  subst hwr1
  refine lv_iload_n hx hb dX11_beside_5 rfl (lv_at hl 2 rfl) ?_
  refine lv_iconst (v := 1) hx hb dX11_beside_6 (by decide) ?_
  refine lv_icmp_ne (tgt := 14) hx hb dX11_beside_7 (by decide) (fun c2 => ?_) (fun c2 => ?_)
  · skip
    refine lv_iload_n hx hb dX11_beside_14 rfl (lv_at hl 2 rfl) ?_
    refine lv_iconst (v := 2) hx hb dX11_beside_15 (by decide) ?_
    refine lv_icmp_ne (tgt := 23) hx hb dX11_beside_16 (by decide) (fun c3 => ?_) (fun c3 => ?_)
    · skip
      refine lv_iconst (v := 0) hx hb dX11_beside_23 (by decide) ?_
      refine lv_iadd hx hb dX11_beside_24 ?_
      refine lv_topi (fun x4 ex4 => ?_)
      refine lv_istore_n (lv' := [(3, .int x4), (0, .ref mm), (1, .int (nI pq)), (2, .int (nI ps))]) hx hb dX11_beside_25 rfl hl (by decide) rfl (fun ls hl => ?_)
      refine lv_aload_n hx hb dX11_beside_26 rfl (lv_at hl 1 rfl) ?_
      refine lv_iload_n hx hb dX11_beside_27 rfl (lv_at hl 2 rfl) ?_
      refine rd_i (va_runV (As := [.int (nI pq)]) (rest := []) ⟨hx, hb, hml, hown, hts⟩ (n_X11_yOf l D cy mW mH mS mP mm mm_now mm_kept mm_isKept mm_refused mm_lineFrom mm_lineTo mm_stands mm_far mm_queue mm_queued mm_meets mm_bytes bl ta tl mm_token mm_value mm_next tk mm_now_f (nI pq) _ (by first | assumption | omega)) (cwV 1 hts gX11_beside_X11_yOf rfl rfl rfl (by decide +kernel) ⟨Nat.le_of_ble_eq_true rfl, Nat.le_of_ble_eq_true rfl⟩) (pV (ci := 11) (k := 0) hKA (hP.sub (ws' := [(mm, .inr (11, [.ref mm_now, .ref mm_kept, .ref mm_isKept, .ref mm_refused, .int mm_lineFrom, .int mm_lineTo, .ref mm_stands, .ref mm_far, .ref mm_queue, .int mm_queued, .ref mm_meets, .ref mm_bytes, .int (nI bl), .int (nI ta), .int (nI tl), .int mm_token, .int mm_value, .ref mm_next, .int (nI tk)])), (mm_now, .inl (cy 1, 122, .inl mm_now_f))]) [0, 1] rfl) (hD.sub (ws' := [(mm, .inr (11, [.ref mm_now, .ref mm_kept, .ref mm_isKept, .ref mm_refused, .int mm_lineFrom, .int mm_lineTo, .ref mm_stands, .ref mm_far, .ref mm_queue, .int mm_queued, .ref mm_meets, .ref mm_bytes, .int (nI bl), .int (nI ta), .int (nI tl), .int mm_token, .int mm_value, .ref mm_next, .int (nI tk)])), (mm_now, .inl (cy 1, 122, .inl mm_now_f))]) [0, 1] (by decide) rfl) rfl rfl) rfl rfl hl.1 rfl (lv_room (Nat.le_of_ble_eq_true rfl)) dX11_beside_28 ⟨Nat.le_of_ble_eq_true rfl, Nat.le_of_ble_eq_true rfl⟩) hP hS hA (fun r5 H locs hwr5 hP hS => ?_)
      have hwr5 : r5 = (nI pq) / nI mW := hwr5
      subst hwr5
      refine lv_iload_n hx hb dX11_beside_31 rfl (lv_at hl 3 rfl) ?_
      refine lv_if_ne (tgt := 39) hx hb dX11_beside_32 (by decide) (fun c6 => ?_) (fun c6 => ?_)
      · skip
        refine lv_iload_n hx hb dX11_beside_39 rfl (lv_at hl 3 rfl) ?_
        refine lv_iconst (v := 3) hx hb dX11_beside_40 (by decide) ?_
        refine lv_icmp_ne (tgt := 48) hx hb dX11_beside_41 (by decide) (fun c7 => ?_) (fun c7 => ?_)
        · skip
          refine lv_iconst (v := 0) hx hb dX11_beside_48 (by decide) ?_
          refine lv_iadd hx hb dX11_beside_49 ?_
          refine lv_topi (fun x8 ex8 => ?_)
          refine lv_istore (lv' := [(4, .int x8), (3, .int x4), (0, .ref mm), (1, .int (nI pq)), (2, .int (nI ps))]) hx hb dX11_beside_50 hl (by decide) rfl (fun ls hl => ?_)
          refine lv_iload_n hx hb dX11_beside_52 rfl (lv_at hl 1 rfl) ?_
          refine lv_i2l hx hb dX11_beside_53 rfl ?_
          refine lv_lconst (v := 0) hx hb dX11_beside_54 (by decide) ?_
          refine lv_aload_n hx hb dX11_beside_55 rfl (lv_at hl 2 rfl) ?_
          refine rd_i (va_runV (As := []) (rest := [.long 0, .long x4.toInt64]) ⟨hx, hb, hml, hown, hts⟩ (n_X11_wide l D cy mW mH mS mP mm mm_now mm_kept mm_isKept mm_refused mm_lineFrom mm_lineTo mm_stands mm_far mm_queue mm_queued mm_meets mm_bytes bl ta tl mm_token mm_value mm_next tk mm_now_f _ (by first | assumption | omega)) (cwV 0 hts gX11_beside_X11_wide rfl rfl rfl (by decide +kernel) ⟨Nat.le_of_ble_eq_true rfl, Nat.le_of_ble_eq_true rfl⟩) (pV (ci := 11) (k := 0) hKA (hP.sub (ws' := [(mm, .inr (11, [.ref mm_now, .ref mm_kept, .ref mm_isKept, .ref mm_refused, .int mm_lineFrom, .int mm_lineTo, .ref mm_stands, .ref mm_far, .ref mm_queue, .int mm_queued, .ref mm_meets, .ref mm_bytes, .int (nI bl), .int (nI ta), .int (nI tl), .int mm_token, .int mm_value, .ref mm_next, .int (nI tk)])), (mm_now, .inl (cy 1, 122, .inl mm_now_f))]) [0, 1] rfl) (hD.sub (ws' := [(mm, .inr (11, [.ref mm_now, .ref mm_kept, .ref mm_isKept, .ref mm_refused, .int mm_lineFrom, .int mm_lineTo, .ref mm_stands, .ref mm_far, .ref mm_queue, .int mm_queued, .ref mm_meets, .ref mm_bytes, .int (nI bl), .int (nI ta), .int (nI tl), .int mm_token, .int mm_value, .ref mm_next, .int (nI tk)])), (mm_now, .inl (cy 1, 122, .inl mm_now_f))]) [0, 1] (by decide) rfl) rfl rfl) rfl rfl hl.1 rfl (lv_room (Nat.le_of_ble_eq_true rfl)) dX11_beside_56 ⟨Nat.le_of_ble_eq_true rfl, Nat.le_of_ble_eq_true rfl⟩) hP hS hA (fun r9 H locs hwr9 hP hS => ?_)
          have hwr9 : r9 = nI mW := hwr9
          subst hwr9
          refine lv_iconst (v := 1) hx hb dX11_beside_59 (by decide) ?_
          refine lv_isub hx hb dX11_beside_60 ?_
          refine lv_i2l hx hb dX11_beside_61 rfl ?_
          refine rd_i (va_runS (As := [.long x4.toInt64, .long 0, .long (((nI mW) - 1).toInt64)]) (rest := []) ⟨hx, hb, hml, hown, hts⟩ (n_X11_in l D cy x4.toInt64 (0) (((nI mW) - 1).toInt64) _ ) (va_cwS 3 hts gX11_beside_X11_in rfl rfl rfl (by decide +kernel) ⟨Nat.le_of_ble_eq_true rfl, Nat.le_of_ble_eq_true rfl⟩) (pS hKA pE (dE (A := A))) rfl rfl hl.1 rfl (lv_room (Nat.le_of_ble_eq_true rfl)) dX11_beside_62 ⟨Nat.le_of_ble_eq_true rfl, Nat.le_of_ble_eq_true rfl⟩) hP hS hA (fun r10 H locs hwr10 hP hS => ?_)
          have hwr10 : (r10 = 1 ∧ ((0) ≤ x4.toInt64 ∧ x4.toInt64 ≤ (((nI mW) - 1).toInt64))) ∨ (r10 = 0 ∧ (¬ ((0) ≤ x4.toInt64 ∧ x4.toInt64 ≤ (((nI mW) - 1).toInt64)))) := hwr10
          refine lv_if_eq (tgt := 99) hx hb dX11_beside_65 (by decide) (fun c11 => ?_) (fun c11 => ?_)
          · skip
            have hq12 := z_b0 hwr10 c11
            refine lv_iconst (v := (-1)) hx hb dX11_beside_99 (by decide) ?_
            subst hQF
            exact W.iret (v := (-1)) hx hb hr (fun t ht hW => ⟨⟨(-1), (), rfl, (bes_sp (Eq.trans (by first | exact bes_o1 (W := nI mW) (H := nI mH) (q := nI pq) (s := nI ps) (dx := 0) (((if_neg (by assumption)).trans (if_neg (by assumption))).symm) ex4 (by assumption) | exact bes_o2 (W := nI mW) (H := nI mH) (q := nI pq) (s := nI ps) (dy := 0) (((if_neg (by assumption)).trans (if_neg (by assumption))).symm) ex8 (by assumption)) (besT mW (by omega) mH (by omega) pq hpq ps hps hW2 hH2))), trivial⟩, hS.F ht⟩) hS.2.2 dX11_beside_100
          · skip
            obtain ⟨hp13, hp14⟩ := z_b1 hwr10 c11
            refine lv_iload hx hb dX11_beside_68 (lv_at hl 0 rfl) ?_
            refine lv_i2l hx hb dX11_beside_70 rfl ?_
            refine lv_lconst (v := 0) hx hb dX11_beside_71 (by decide) ?_
            refine lv_aload_n hx hb dX11_beside_72 rfl (lv_at hl 2 rfl) ?_
            refine va_get (D := D) (ci := 11) (v := .ref mm_now) (C := RX11) (T := TX11) (N := 19) hx hb hts zi11_ hown hK hP 0 rfl rfl 0 (by decide) z0_ (fun _ h9 => h9) rfl dX11_beside_73 ?_
            refine lv_iconst (v := 1) hx hb dX11_beside_76 (by decide) ?_
            refine my_iald hx hb hK hP 1 1 rfl rfl (by rw [vp_in_iff]; decide +kernel) (k := 1) (by decide +kernel) dX11_beside_77 ?_
            refine W.eq (g2 := F0 m 78 ls [.int (nI mH), .long 0, .long x8.toInt64]) (congrArg (fun v9 : Int32 => F0 m 78 ls [.int v9, .long 0, .long x8.toInt64]) hF.2.1) ?_
            refine lv_iconst (v := 1) hx hb dX11_beside_78 (by decide) ?_
            refine lv_isub hx hb dX11_beside_79 ?_
            refine lv_i2l hx hb dX11_beside_80 rfl ?_
            refine rd_i (va_runS (As := [.long x8.toInt64, .long 0, .long (((nI mH) - 1).toInt64)]) (rest := []) ⟨hx, hb, hml, hown, hts⟩ (n_X11_in l D cy x8.toInt64 (0) (((nI mH) - 1).toInt64) _ ) (va_cwS 3 hts gX11_beside_X11_in rfl rfl rfl (by decide +kernel) ⟨Nat.le_of_ble_eq_true rfl, Nat.le_of_ble_eq_true rfl⟩) (pS hKA pE (dE (A := A))) rfl rfl hl.1 rfl (lv_room (Nat.le_of_ble_eq_true rfl)) dX11_beside_81 ⟨Nat.le_of_ble_eq_true rfl, Nat.le_of_ble_eq_true rfl⟩) hP hS hA (fun r15 H locs hwr15 hP hS => ?_)
            have hwr15 : (r15 = 1 ∧ ((0) ≤ x8.toInt64 ∧ x8.toInt64 ≤ (((nI mH) - 1).toInt64))) ∨ (r15 = 0 ∧ (¬ ((0) ≤ x8.toInt64 ∧ x8.toInt64 ≤ (((nI mH) - 1).toInt64)))) := hwr15
            refine lv_if_eq (tgt := 99) hx hb dX11_beside_84 (by decide) (fun c16 => ?_) (fun c16 => ?_)
            · skip
              have hq17 := z_b0 hwr15 c16
              refine lv_iconst (v := (-1)) hx hb dX11_beside_99 (by decide) ?_
              subst hQF
              exact W.iret (v := (-1)) hx hb hr (fun t ht hW => ⟨⟨(-1), (), rfl, (bes_sp (Eq.trans (by first | exact bes_o1 (W := nI mW) (H := nI mH) (q := nI pq) (s := nI ps) (dx := 0) (((if_neg (by assumption)).trans (if_neg (by assumption))).symm) ex4 (by assumption) | exact bes_o2 (W := nI mW) (H := nI mH) (q := nI pq) (s := nI ps) (dy := 0) (((if_neg (by assumption)).trans (if_neg (by assumption))).symm) ex8 (by assumption)) (besT mW (by omega) mH (by omega) pq hpq ps hps hW2 hH2))), trivial⟩, hS.F ht⟩) hS.2.2 dX11_beside_100
            · skip
              obtain ⟨hp18, hp19⟩ := z_b1 hwr15 c16
              refine lv_aload_n hx hb dX11_beside_87 rfl (lv_at hl 2 rfl) ?_
              refine rd_i (va_runV (As := []) (rest := []) ⟨hx, hb, hml, hown, hts⟩ (n_X11_wide l D cy mW mH mS mP mm mm_now mm_kept mm_isKept mm_refused mm_lineFrom mm_lineTo mm_stands mm_far mm_queue mm_queued mm_meets mm_bytes bl ta tl mm_token mm_value mm_next tk mm_now_f _ (by first | assumption | omega)) (cwV 0 hts gX11_beside_X11_wide rfl rfl rfl (by decide +kernel) ⟨Nat.le_of_ble_eq_true rfl, Nat.le_of_ble_eq_true rfl⟩) (pV (ci := 11) (k := 0) hKA (hP.sub (ws' := [(mm, .inr (11, [.ref mm_now, .ref mm_kept, .ref mm_isKept, .ref mm_refused, .int mm_lineFrom, .int mm_lineTo, .ref mm_stands, .ref mm_far, .ref mm_queue, .int mm_queued, .ref mm_meets, .ref mm_bytes, .int (nI bl), .int (nI ta), .int (nI tl), .int mm_token, .int mm_value, .ref mm_next, .int (nI tk)])), (mm_now, .inl (cy 1, 122, .inl mm_now_f))]) [0, 1] rfl) (hD.sub (ws' := [(mm, .inr (11, [.ref mm_now, .ref mm_kept, .ref mm_isKept, .ref mm_refused, .int mm_lineFrom, .int mm_lineTo, .ref mm_stands, .ref mm_far, .ref mm_queue, .int mm_queued, .ref mm_meets, .ref mm_bytes, .int (nI bl), .int (nI ta), .int (nI tl), .int mm_token, .int mm_value, .ref mm_next, .int (nI tk)])), (mm_now, .inl (cy 1, 122, .inl mm_now_f))]) [0, 1] (by decide) rfl) rfl rfl) rfl rfl hl.1 rfl (lv_room (Nat.le_of_ble_eq_true rfl)) dX11_beside_88 ⟨Nat.le_of_ble_eq_true rfl, Nat.le_of_ble_eq_true rfl⟩) hP hS hA (fun r20 H locs hwr20 hP hS => ?_)
              have hwr20 : r20 = nI mW := hwr20
              subst hwr20
              refine lv_iload hx hb dX11_beside_91 (lv_at hl 0 rfl) ?_
              refine lv_imul hx hb dX11_beside_93 ?_
              refine lv_iload_n hx hb dX11_beside_94 rfl (lv_at hl 1 rfl) ?_
              refine lv_iadd hx hb dX11_beside_95 ?_
              refine lv_goto (tgt := 100) hx hb dX11_beside_96 (by decide) ?_
              refine lv_topi (fun x21 ex21 => ?_)
              subst hQF
              exact W.iret (v := x21) hx hb hr (fun t ht hW => ⟨⟨x21, (), rfl, (bes_sp (Eq.trans (Eq.trans ex21 (bes_in (W := nI mW) (H := nI mH) (q := nI pq) (s := nI ps) (dx := 0) (dy := 0) (((if_neg (by assumption)).trans (if_neg (by assumption))).symm) (((if_neg (by assumption)).trans (if_neg (by assumption))).symm) ex4 ex8 (by assumption) (by assumption) (by assumption) (by assumption))) (besT mW (by omega) mH (by omega) pq hpq ps hps hW2 hH2))), trivial⟩, hS.F ht⟩) hS.2.2 dX11_beside_100
        · skip
          refine lv_iconst (v := 1) hx hb dX11_beside_44 (by decide) ?_
          refine lv_goto (tgt := 49) hx hb dX11_beside_45 (by decide) ?_
          refine lv_iadd hx hb dX11_beside_49 ?_
          refine lv_topi (fun x22 ex22 => ?_)
          refine lv_istore (lv' := [(4, .int x22), (3, .int x4), (0, .ref mm), (1, .int (nI pq)), (2, .int (nI ps))]) hx hb dX11_beside_50 hl (by decide) rfl (fun ls hl => ?_)
          refine lv_iload_n hx hb dX11_beside_52 rfl (lv_at hl 1 rfl) ?_
          refine lv_i2l hx hb dX11_beside_53 rfl ?_
          refine lv_lconst (v := 0) hx hb dX11_beside_54 (by decide) ?_
          refine lv_aload_n hx hb dX11_beside_55 rfl (lv_at hl 2 rfl) ?_
          refine rd_i (va_runV (As := []) (rest := [.long 0, .long x4.toInt64]) ⟨hx, hb, hml, hown, hts⟩ (n_X11_wide l D cy mW mH mS mP mm mm_now mm_kept mm_isKept mm_refused mm_lineFrom mm_lineTo mm_stands mm_far mm_queue mm_queued mm_meets mm_bytes bl ta tl mm_token mm_value mm_next tk mm_now_f _ (by first | assumption | omega)) (cwV 0 hts gX11_beside_X11_wide rfl rfl rfl (by decide +kernel) ⟨Nat.le_of_ble_eq_true rfl, Nat.le_of_ble_eq_true rfl⟩) (pV (ci := 11) (k := 0) hKA (hP.sub (ws' := [(mm, .inr (11, [.ref mm_now, .ref mm_kept, .ref mm_isKept, .ref mm_refused, .int mm_lineFrom, .int mm_lineTo, .ref mm_stands, .ref mm_far, .ref mm_queue, .int mm_queued, .ref mm_meets, .ref mm_bytes, .int (nI bl), .int (nI ta), .int (nI tl), .int mm_token, .int mm_value, .ref mm_next, .int (nI tk)])), (mm_now, .inl (cy 1, 122, .inl mm_now_f))]) [0, 1] rfl) (hD.sub (ws' := [(mm, .inr (11, [.ref mm_now, .ref mm_kept, .ref mm_isKept, .ref mm_refused, .int mm_lineFrom, .int mm_lineTo, .ref mm_stands, .ref mm_far, .ref mm_queue, .int mm_queued, .ref mm_meets, .ref mm_bytes, .int (nI bl), .int (nI ta), .int (nI tl), .int mm_token, .int mm_value, .ref mm_next, .int (nI tk)])), (mm_now, .inl (cy 1, 122, .inl mm_now_f))]) [0, 1] (by decide) rfl) rfl rfl) rfl rfl hl.1 rfl (lv_room (Nat.le_of_ble_eq_true rfl)) dX11_beside_56 ⟨Nat.le_of_ble_eq_true rfl, Nat.le_of_ble_eq_true rfl⟩) hP hS hA (fun r23 H locs hwr23 hP hS => ?_)
          have hwr23 : r23 = nI mW := hwr23
          subst hwr23
          refine lv_iconst (v := 1) hx hb dX11_beside_59 (by decide) ?_
          refine lv_isub hx hb dX11_beside_60 ?_
          refine lv_i2l hx hb dX11_beside_61 rfl ?_
          refine rd_i (va_runS (As := [.long x4.toInt64, .long 0, .long (((nI mW) - 1).toInt64)]) (rest := []) ⟨hx, hb, hml, hown, hts⟩ (n_X11_in l D cy x4.toInt64 (0) (((nI mW) - 1).toInt64) _ ) (va_cwS 3 hts gX11_beside_X11_in rfl rfl rfl (by decide +kernel) ⟨Nat.le_of_ble_eq_true rfl, Nat.le_of_ble_eq_true rfl⟩) (pS hKA pE (dE (A := A))) rfl rfl hl.1 rfl (lv_room (Nat.le_of_ble_eq_true rfl)) dX11_beside_62 ⟨Nat.le_of_ble_eq_true rfl, Nat.le_of_ble_eq_true rfl⟩) hP hS hA (fun r24 H locs hwr24 hP hS => ?_)
          have hwr24 : (r24 = 1 ∧ ((0) ≤ x4.toInt64 ∧ x4.toInt64 ≤ (((nI mW) - 1).toInt64))) ∨ (r24 = 0 ∧ (¬ ((0) ≤ x4.toInt64 ∧ x4.toInt64 ≤ (((nI mW) - 1).toInt64)))) := hwr24
          refine lv_if_eq (tgt := 99) hx hb dX11_beside_65 (by decide) (fun c25 => ?_) (fun c25 => ?_)
          · skip
            have hq26 := z_b0 hwr24 c25
            refine lv_iconst (v := (-1)) hx hb dX11_beside_99 (by decide) ?_
            subst hQF
            exact W.iret (v := (-1)) hx hb hr (fun t ht hW => ⟨⟨(-1), (), rfl, (bes_sp (Eq.trans (by first | exact bes_o1 (W := nI mW) (H := nI mH) (q := nI pq) (s := nI ps) (dx := 0) (((if_neg (by assumption)).trans (if_neg (by assumption))).symm) ex4 (by assumption) | exact bes_o2 (W := nI mW) (H := nI mH) (q := nI pq) (s := nI ps) (dy := 1) (((if_neg (by assumption)).trans (if_pos (by assumption))).symm) ex22 (by assumption)) (besT mW (by omega) mH (by omega) pq hpq ps hps hW2 hH2))), trivial⟩, hS.F ht⟩) hS.2.2 dX11_beside_100
          · skip
            obtain ⟨hp27, hp28⟩ := z_b1 hwr24 c25
            refine lv_iload hx hb dX11_beside_68 (lv_at hl 0 rfl) ?_
            refine lv_i2l hx hb dX11_beside_70 rfl ?_
            refine lv_lconst (v := 0) hx hb dX11_beside_71 (by decide) ?_
            refine lv_aload_n hx hb dX11_beside_72 rfl (lv_at hl 2 rfl) ?_
            refine va_get (D := D) (ci := 11) (v := .ref mm_now) (C := RX11) (T := TX11) (N := 19) hx hb hts zi11_ hown hK hP 0 rfl rfl 0 (by decide) z0_ (fun _ h9 => h9) rfl dX11_beside_73 ?_
            refine lv_iconst (v := 1) hx hb dX11_beside_76 (by decide) ?_
            refine my_iald hx hb hK hP 1 1 rfl rfl (by rw [vp_in_iff]; decide +kernel) (k := 1) (by decide +kernel) dX11_beside_77 ?_
            refine W.eq (g2 := F0 m 78 ls [.int (nI mH), .long 0, .long x22.toInt64]) (congrArg (fun v9 : Int32 => F0 m 78 ls [.int v9, .long 0, .long x22.toInt64]) hF.2.1) ?_
            refine lv_iconst (v := 1) hx hb dX11_beside_78 (by decide) ?_
            refine lv_isub hx hb dX11_beside_79 ?_
            refine lv_i2l hx hb dX11_beside_80 rfl ?_
            refine rd_i (va_runS (As := [.long x22.toInt64, .long 0, .long (((nI mH) - 1).toInt64)]) (rest := []) ⟨hx, hb, hml, hown, hts⟩ (n_X11_in l D cy x22.toInt64 (0) (((nI mH) - 1).toInt64) _ ) (va_cwS 3 hts gX11_beside_X11_in rfl rfl rfl (by decide +kernel) ⟨Nat.le_of_ble_eq_true rfl, Nat.le_of_ble_eq_true rfl⟩) (pS hKA pE (dE (A := A))) rfl rfl hl.1 rfl (lv_room (Nat.le_of_ble_eq_true rfl)) dX11_beside_81 ⟨Nat.le_of_ble_eq_true rfl, Nat.le_of_ble_eq_true rfl⟩) hP hS hA (fun r29 H locs hwr29 hP hS => ?_)
            have hwr29 : (r29 = 1 ∧ ((0) ≤ x22.toInt64 ∧ x22.toInt64 ≤ (((nI mH) - 1).toInt64))) ∨ (r29 = 0 ∧ (¬ ((0) ≤ x22.toInt64 ∧ x22.toInt64 ≤ (((nI mH) - 1).toInt64)))) := hwr29
            refine lv_if_eq (tgt := 99) hx hb dX11_beside_84 (by decide) (fun c30 => ?_) (fun c30 => ?_)
            · skip
              have hq31 := z_b0 hwr29 c30
              refine lv_iconst (v := (-1)) hx hb dX11_beside_99 (by decide) ?_
              subst hQF
              exact W.iret (v := (-1)) hx hb hr (fun t ht hW => ⟨⟨(-1), (), rfl, (bes_sp (Eq.trans (by first | exact bes_o1 (W := nI mW) (H := nI mH) (q := nI pq) (s := nI ps) (dx := 0) (((if_neg (by assumption)).trans (if_neg (by assumption))).symm) ex4 (by assumption) | exact bes_o2 (W := nI mW) (H := nI mH) (q := nI pq) (s := nI ps) (dy := 1) (((if_neg (by assumption)).trans (if_pos (by assumption))).symm) ex22 (by assumption)) (besT mW (by omega) mH (by omega) pq hpq ps hps hW2 hH2))), trivial⟩, hS.F ht⟩) hS.2.2 dX11_beside_100
            · skip
              obtain ⟨hp32, hp33⟩ := z_b1 hwr29 c30
              refine lv_aload_n hx hb dX11_beside_87 rfl (lv_at hl 2 rfl) ?_
              refine rd_i (va_runV (As := []) (rest := []) ⟨hx, hb, hml, hown, hts⟩ (n_X11_wide l D cy mW mH mS mP mm mm_now mm_kept mm_isKept mm_refused mm_lineFrom mm_lineTo mm_stands mm_far mm_queue mm_queued mm_meets mm_bytes bl ta tl mm_token mm_value mm_next tk mm_now_f _ (by first | assumption | omega)) (cwV 0 hts gX11_beside_X11_wide rfl rfl rfl (by decide +kernel) ⟨Nat.le_of_ble_eq_true rfl, Nat.le_of_ble_eq_true rfl⟩) (pV (ci := 11) (k := 0) hKA (hP.sub (ws' := [(mm, .inr (11, [.ref mm_now, .ref mm_kept, .ref mm_isKept, .ref mm_refused, .int mm_lineFrom, .int mm_lineTo, .ref mm_stands, .ref mm_far, .ref mm_queue, .int mm_queued, .ref mm_meets, .ref mm_bytes, .int (nI bl), .int (nI ta), .int (nI tl), .int mm_token, .int mm_value, .ref mm_next, .int (nI tk)])), (mm_now, .inl (cy 1, 122, .inl mm_now_f))]) [0, 1] rfl) (hD.sub (ws' := [(mm, .inr (11, [.ref mm_now, .ref mm_kept, .ref mm_isKept, .ref mm_refused, .int mm_lineFrom, .int mm_lineTo, .ref mm_stands, .ref mm_far, .ref mm_queue, .int mm_queued, .ref mm_meets, .ref mm_bytes, .int (nI bl), .int (nI ta), .int (nI tl), .int mm_token, .int mm_value, .ref mm_next, .int (nI tk)])), (mm_now, .inl (cy 1, 122, .inl mm_now_f))]) [0, 1] (by decide) rfl) rfl rfl) rfl rfl hl.1 rfl (lv_room (Nat.le_of_ble_eq_true rfl)) dX11_beside_88 ⟨Nat.le_of_ble_eq_true rfl, Nat.le_of_ble_eq_true rfl⟩) hP hS hA (fun r34 H locs hwr34 hP hS => ?_)
              have hwr34 : r34 = nI mW := hwr34
              subst hwr34
              refine lv_iload hx hb dX11_beside_91 (lv_at hl 0 rfl) ?_
              refine lv_imul hx hb dX11_beside_93 ?_
              refine lv_iload_n hx hb dX11_beside_94 rfl (lv_at hl 1 rfl) ?_
              refine lv_iadd hx hb dX11_beside_95 ?_
              refine lv_goto (tgt := 100) hx hb dX11_beside_96 (by decide) ?_
              refine lv_topi (fun x35 ex35 => ?_)
              subst hQF
              exact W.iret (v := x35) hx hb hr (fun t ht hW => ⟨⟨x35, (), rfl, (bes_sp (Eq.trans (Eq.trans ex35 (bes_in (W := nI mW) (H := nI mH) (q := nI pq) (s := nI ps) (dx := 0) (dy := 1) (((if_neg (by assumption)).trans (if_neg (by assumption))).symm) (((if_neg (by assumption)).trans (if_pos (by assumption))).symm) ex4 ex22 (by assumption) (by assumption) (by assumption) (by assumption))) (besT mW (by omega) mH (by omega) pq hpq ps hps hW2 hH2))), trivial⟩, hS.F ht⟩) hS.2.2 dX11_beside_100
      · skip
        refine lv_iconst (v := (-1)) hx hb dX11_beside_35 (by decide) ?_
        refine lv_goto (tgt := 49) hx hb dX11_beside_36 (by decide) ?_
        refine lv_iadd hx hb dX11_beside_49 ?_
        refine lv_topi (fun x36 ex36 => ?_)
        refine lv_istore (lv' := [(4, .int x36), (3, .int x4), (0, .ref mm), (1, .int (nI pq)), (2, .int (nI ps))]) hx hb dX11_beside_50 hl (by decide) rfl (fun ls hl => ?_)
        refine lv_iload_n hx hb dX11_beside_52 rfl (lv_at hl 1 rfl) ?_
        refine lv_i2l hx hb dX11_beside_53 rfl ?_
        refine lv_lconst (v := 0) hx hb dX11_beside_54 (by decide) ?_
        refine lv_aload_n hx hb dX11_beside_55 rfl (lv_at hl 2 rfl) ?_
        refine rd_i (va_runV (As := []) (rest := [.long 0, .long x4.toInt64]) ⟨hx, hb, hml, hown, hts⟩ (n_X11_wide l D cy mW mH mS mP mm mm_now mm_kept mm_isKept mm_refused mm_lineFrom mm_lineTo mm_stands mm_far mm_queue mm_queued mm_meets mm_bytes bl ta tl mm_token mm_value mm_next tk mm_now_f _ (by first | assumption | omega)) (cwV 0 hts gX11_beside_X11_wide rfl rfl rfl (by decide +kernel) ⟨Nat.le_of_ble_eq_true rfl, Nat.le_of_ble_eq_true rfl⟩) (pV (ci := 11) (k := 0) hKA (hP.sub (ws' := [(mm, .inr (11, [.ref mm_now, .ref mm_kept, .ref mm_isKept, .ref mm_refused, .int mm_lineFrom, .int mm_lineTo, .ref mm_stands, .ref mm_far, .ref mm_queue, .int mm_queued, .ref mm_meets, .ref mm_bytes, .int (nI bl), .int (nI ta), .int (nI tl), .int mm_token, .int mm_value, .ref mm_next, .int (nI tk)])), (mm_now, .inl (cy 1, 122, .inl mm_now_f))]) [0, 1] rfl) (hD.sub (ws' := [(mm, .inr (11, [.ref mm_now, .ref mm_kept, .ref mm_isKept, .ref mm_refused, .int mm_lineFrom, .int mm_lineTo, .ref mm_stands, .ref mm_far, .ref mm_queue, .int mm_queued, .ref mm_meets, .ref mm_bytes, .int (nI bl), .int (nI ta), .int (nI tl), .int mm_token, .int mm_value, .ref mm_next, .int (nI tk)])), (mm_now, .inl (cy 1, 122, .inl mm_now_f))]) [0, 1] (by decide) rfl) rfl rfl) rfl rfl hl.1 rfl (lv_room (Nat.le_of_ble_eq_true rfl)) dX11_beside_56 ⟨Nat.le_of_ble_eq_true rfl, Nat.le_of_ble_eq_true rfl⟩) hP hS hA (fun r37 H locs hwr37 hP hS => ?_)
        have hwr37 : r37 = nI mW := hwr37
        subst hwr37
        refine lv_iconst (v := 1) hx hb dX11_beside_59 (by decide) ?_
        refine lv_isub hx hb dX11_beside_60 ?_
        refine lv_i2l hx hb dX11_beside_61 rfl ?_
        refine rd_i (va_runS (As := [.long x4.toInt64, .long 0, .long (((nI mW) - 1).toInt64)]) (rest := []) ⟨hx, hb, hml, hown, hts⟩ (n_X11_in l D cy x4.toInt64 (0) (((nI mW) - 1).toInt64) _ ) (va_cwS 3 hts gX11_beside_X11_in rfl rfl rfl (by decide +kernel) ⟨Nat.le_of_ble_eq_true rfl, Nat.le_of_ble_eq_true rfl⟩) (pS hKA pE (dE (A := A))) rfl rfl hl.1 rfl (lv_room (Nat.le_of_ble_eq_true rfl)) dX11_beside_62 ⟨Nat.le_of_ble_eq_true rfl, Nat.le_of_ble_eq_true rfl⟩) hP hS hA (fun r38 H locs hwr38 hP hS => ?_)
        have hwr38 : (r38 = 1 ∧ ((0) ≤ x4.toInt64 ∧ x4.toInt64 ≤ (((nI mW) - 1).toInt64))) ∨ (r38 = 0 ∧ (¬ ((0) ≤ x4.toInt64 ∧ x4.toInt64 ≤ (((nI mW) - 1).toInt64)))) := hwr38
        refine lv_if_eq (tgt := 99) hx hb dX11_beside_65 (by decide) (fun c39 => ?_) (fun c39 => ?_)
        · skip
          have hq40 := z_b0 hwr38 c39
          refine lv_iconst (v := (-1)) hx hb dX11_beside_99 (by decide) ?_
          subst hQF
          exact W.iret (v := (-1)) hx hb hr (fun t ht hW => ⟨⟨(-1), (), rfl, (bes_sp (Eq.trans (by first | exact bes_o1 (W := nI mW) (H := nI mH) (q := nI pq) (s := nI ps) (dx := 0) (((if_neg (by assumption)).trans (if_neg (by assumption))).symm) ex4 (by assumption) | exact bes_o2 (W := nI mW) (H := nI mH) (q := nI pq) (s := nI ps) (dy := (-1)) ((if_pos (by assumption)).symm) ex36 (by assumption)) (besT mW (by omega) mH (by omega) pq hpq ps hps hW2 hH2))), trivial⟩, hS.F ht⟩) hS.2.2 dX11_beside_100
        · skip
          obtain ⟨hp41, hp42⟩ := z_b1 hwr38 c39
          refine lv_iload hx hb dX11_beside_68 (lv_at hl 0 rfl) ?_
          refine lv_i2l hx hb dX11_beside_70 rfl ?_
          refine lv_lconst (v := 0) hx hb dX11_beside_71 (by decide) ?_
          refine lv_aload_n hx hb dX11_beside_72 rfl (lv_at hl 2 rfl) ?_
          refine va_get (D := D) (ci := 11) (v := .ref mm_now) (C := RX11) (T := TX11) (N := 19) hx hb hts zi11_ hown hK hP 0 rfl rfl 0 (by decide) z0_ (fun _ h9 => h9) rfl dX11_beside_73 ?_
          refine lv_iconst (v := 1) hx hb dX11_beside_76 (by decide) ?_
          refine my_iald hx hb hK hP 1 1 rfl rfl (by rw [vp_in_iff]; decide +kernel) (k := 1) (by decide +kernel) dX11_beside_77 ?_
          refine W.eq (g2 := F0 m 78 ls [.int (nI mH), .long 0, .long x36.toInt64]) (congrArg (fun v9 : Int32 => F0 m 78 ls [.int v9, .long 0, .long x36.toInt64]) hF.2.1) ?_
          refine lv_iconst (v := 1) hx hb dX11_beside_78 (by decide) ?_
          refine lv_isub hx hb dX11_beside_79 ?_
          refine lv_i2l hx hb dX11_beside_80 rfl ?_
          refine rd_i (va_runS (As := [.long x36.toInt64, .long 0, .long (((nI mH) - 1).toInt64)]) (rest := []) ⟨hx, hb, hml, hown, hts⟩ (n_X11_in l D cy x36.toInt64 (0) (((nI mH) - 1).toInt64) _ ) (va_cwS 3 hts gX11_beside_X11_in rfl rfl rfl (by decide +kernel) ⟨Nat.le_of_ble_eq_true rfl, Nat.le_of_ble_eq_true rfl⟩) (pS hKA pE (dE (A := A))) rfl rfl hl.1 rfl (lv_room (Nat.le_of_ble_eq_true rfl)) dX11_beside_81 ⟨Nat.le_of_ble_eq_true rfl, Nat.le_of_ble_eq_true rfl⟩) hP hS hA (fun r43 H locs hwr43 hP hS => ?_)
          have hwr43 : (r43 = 1 ∧ ((0) ≤ x36.toInt64 ∧ x36.toInt64 ≤ (((nI mH) - 1).toInt64))) ∨ (r43 = 0 ∧ (¬ ((0) ≤ x36.toInt64 ∧ x36.toInt64 ≤ (((nI mH) - 1).toInt64)))) := hwr43
          refine lv_if_eq (tgt := 99) hx hb dX11_beside_84 (by decide) (fun c44 => ?_) (fun c44 => ?_)
          · skip
            have hq45 := z_b0 hwr43 c44
            refine lv_iconst (v := (-1)) hx hb dX11_beside_99 (by decide) ?_
            subst hQF
            exact W.iret (v := (-1)) hx hb hr (fun t ht hW => ⟨⟨(-1), (), rfl, (bes_sp (Eq.trans (by first | exact bes_o1 (W := nI mW) (H := nI mH) (q := nI pq) (s := nI ps) (dx := 0) (((if_neg (by assumption)).trans (if_neg (by assumption))).symm) ex4 (by assumption) | exact bes_o2 (W := nI mW) (H := nI mH) (q := nI pq) (s := nI ps) (dy := (-1)) ((if_pos (by assumption)).symm) ex36 (by assumption)) (besT mW (by omega) mH (by omega) pq hpq ps hps hW2 hH2))), trivial⟩, hS.F ht⟩) hS.2.2 dX11_beside_100
          · skip
            obtain ⟨hp46, hp47⟩ := z_b1 hwr43 c44
            refine lv_aload_n hx hb dX11_beside_87 rfl (lv_at hl 2 rfl) ?_
            refine rd_i (va_runV (As := []) (rest := []) ⟨hx, hb, hml, hown, hts⟩ (n_X11_wide l D cy mW mH mS mP mm mm_now mm_kept mm_isKept mm_refused mm_lineFrom mm_lineTo mm_stands mm_far mm_queue mm_queued mm_meets mm_bytes bl ta tl mm_token mm_value mm_next tk mm_now_f _ (by first | assumption | omega)) (cwV 0 hts gX11_beside_X11_wide rfl rfl rfl (by decide +kernel) ⟨Nat.le_of_ble_eq_true rfl, Nat.le_of_ble_eq_true rfl⟩) (pV (ci := 11) (k := 0) hKA (hP.sub (ws' := [(mm, .inr (11, [.ref mm_now, .ref mm_kept, .ref mm_isKept, .ref mm_refused, .int mm_lineFrom, .int mm_lineTo, .ref mm_stands, .ref mm_far, .ref mm_queue, .int mm_queued, .ref mm_meets, .ref mm_bytes, .int (nI bl), .int (nI ta), .int (nI tl), .int mm_token, .int mm_value, .ref mm_next, .int (nI tk)])), (mm_now, .inl (cy 1, 122, .inl mm_now_f))]) [0, 1] rfl) (hD.sub (ws' := [(mm, .inr (11, [.ref mm_now, .ref mm_kept, .ref mm_isKept, .ref mm_refused, .int mm_lineFrom, .int mm_lineTo, .ref mm_stands, .ref mm_far, .ref mm_queue, .int mm_queued, .ref mm_meets, .ref mm_bytes, .int (nI bl), .int (nI ta), .int (nI tl), .int mm_token, .int mm_value, .ref mm_next, .int (nI tk)])), (mm_now, .inl (cy 1, 122, .inl mm_now_f))]) [0, 1] (by decide) rfl) rfl rfl) rfl rfl hl.1 rfl (lv_room (Nat.le_of_ble_eq_true rfl)) dX11_beside_88 ⟨Nat.le_of_ble_eq_true rfl, Nat.le_of_ble_eq_true rfl⟩) hP hS hA (fun r48 H locs hwr48 hP hS => ?_)
            have hwr48 : r48 = nI mW := hwr48
            subst hwr48
            refine lv_iload hx hb dX11_beside_91 (lv_at hl 0 rfl) ?_
            refine lv_imul hx hb dX11_beside_93 ?_
            refine lv_iload_n hx hb dX11_beside_94 rfl (lv_at hl 1 rfl) ?_
            refine lv_iadd hx hb dX11_beside_95 ?_
            refine lv_goto (tgt := 100) hx hb dX11_beside_96 (by decide) ?_
            refine lv_topi (fun x49 ex49 => ?_)
            subst hQF
            exact W.iret (v := x49) hx hb hr (fun t ht hW => ⟨⟨x49, (), rfl, (bes_sp (Eq.trans (Eq.trans ex49 (bes_in (W := nI mW) (H := nI mH) (q := nI pq) (s := nI ps) (dx := 0) (dy := (-1)) (((if_neg (by assumption)).trans (if_neg (by assumption))).symm) ((if_pos (by assumption)).symm) ex4 ex36 (by assumption) (by assumption) (by assumption) (by assumption))) (besT mW (by omega) mH (by omega) pq hpq ps hps hW2 hH2))), trivial⟩, hS.F ht⟩) hS.2.2 dX11_beside_100
    · skip
      refine lv_iconst (v := 1) hx hb dX11_beside_19 (by decide) ?_
      refine lv_goto (tgt := 24) hx hb dX11_beside_20 (by decide) ?_
      refine lv_iadd hx hb dX11_beside_24 ?_
      refine lv_topi (fun x50 ex50 => ?_)
      refine lv_istore_n (lv' := [(3, .int x50), (0, .ref mm), (1, .int (nI pq)), (2, .int (nI ps))]) hx hb dX11_beside_25 rfl hl (by decide) rfl (fun ls hl => ?_)
      refine lv_aload_n hx hb dX11_beside_26 rfl (lv_at hl 1 rfl) ?_
      refine lv_iload_n hx hb dX11_beside_27 rfl (lv_at hl 2 rfl) ?_
      refine rd_i (va_runV (As := [.int (nI pq)]) (rest := []) ⟨hx, hb, hml, hown, hts⟩ (n_X11_yOf l D cy mW mH mS mP mm mm_now mm_kept mm_isKept mm_refused mm_lineFrom mm_lineTo mm_stands mm_far mm_queue mm_queued mm_meets mm_bytes bl ta tl mm_token mm_value mm_next tk mm_now_f (nI pq) _ (by first | assumption | omega)) (cwV 1 hts gX11_beside_X11_yOf rfl rfl rfl (by decide +kernel) ⟨Nat.le_of_ble_eq_true rfl, Nat.le_of_ble_eq_true rfl⟩) (pV (ci := 11) (k := 0) hKA (hP.sub (ws' := [(mm, .inr (11, [.ref mm_now, .ref mm_kept, .ref mm_isKept, .ref mm_refused, .int mm_lineFrom, .int mm_lineTo, .ref mm_stands, .ref mm_far, .ref mm_queue, .int mm_queued, .ref mm_meets, .ref mm_bytes, .int (nI bl), .int (nI ta), .int (nI tl), .int mm_token, .int mm_value, .ref mm_next, .int (nI tk)])), (mm_now, .inl (cy 1, 122, .inl mm_now_f))]) [0, 1] rfl) (hD.sub (ws' := [(mm, .inr (11, [.ref mm_now, .ref mm_kept, .ref mm_isKept, .ref mm_refused, .int mm_lineFrom, .int mm_lineTo, .ref mm_stands, .ref mm_far, .ref mm_queue, .int mm_queued, .ref mm_meets, .ref mm_bytes, .int (nI bl), .int (nI ta), .int (nI tl), .int mm_token, .int mm_value, .ref mm_next, .int (nI tk)])), (mm_now, .inl (cy 1, 122, .inl mm_now_f))]) [0, 1] (by decide) rfl) rfl rfl) rfl rfl hl.1 rfl (lv_room (Nat.le_of_ble_eq_true rfl)) dX11_beside_28 ⟨Nat.le_of_ble_eq_true rfl, Nat.le_of_ble_eq_true rfl⟩) hP hS hA (fun r51 H locs hwr51 hP hS => ?_)
      have hwr51 : r51 = (nI pq) / nI mW := hwr51
      subst hwr51
      refine lv_iload_n hx hb dX11_beside_31 rfl (lv_at hl 3 rfl) ?_
      refine lv_if_ne (tgt := 39) hx hb dX11_beside_32 (by decide) (fun c52 => ?_) (fun c52 => ?_)
      · skip
        refine lv_iload_n hx hb dX11_beside_39 rfl (lv_at hl 3 rfl) ?_
        refine lv_iconst (v := 3) hx hb dX11_beside_40 (by decide) ?_
        refine lv_icmp_ne (tgt := 48) hx hb dX11_beside_41 (by decide) (fun c53 => ?_) (fun c53 => ?_)
        · skip
          refine lv_iconst (v := 0) hx hb dX11_beside_48 (by decide) ?_
          refine lv_iadd hx hb dX11_beside_49 ?_
          refine lv_topi (fun x54 ex54 => ?_)
          refine lv_istore (lv' := [(4, .int x54), (3, .int x50), (0, .ref mm), (1, .int (nI pq)), (2, .int (nI ps))]) hx hb dX11_beside_50 hl (by decide) rfl (fun ls hl => ?_)
          refine lv_iload_n hx hb dX11_beside_52 rfl (lv_at hl 1 rfl) ?_
          refine lv_i2l hx hb dX11_beside_53 rfl ?_
          refine lv_lconst (v := 0) hx hb dX11_beside_54 (by decide) ?_
          refine lv_aload_n hx hb dX11_beside_55 rfl (lv_at hl 2 rfl) ?_
          refine rd_i (va_runV (As := []) (rest := [.long 0, .long x50.toInt64]) ⟨hx, hb, hml, hown, hts⟩ (n_X11_wide l D cy mW mH mS mP mm mm_now mm_kept mm_isKept mm_refused mm_lineFrom mm_lineTo mm_stands mm_far mm_queue mm_queued mm_meets mm_bytes bl ta tl mm_token mm_value mm_next tk mm_now_f _ (by first | assumption | omega)) (cwV 0 hts gX11_beside_X11_wide rfl rfl rfl (by decide +kernel) ⟨Nat.le_of_ble_eq_true rfl, Nat.le_of_ble_eq_true rfl⟩) (pV (ci := 11) (k := 0) hKA (hP.sub (ws' := [(mm, .inr (11, [.ref mm_now, .ref mm_kept, .ref mm_isKept, .ref mm_refused, .int mm_lineFrom, .int mm_lineTo, .ref mm_stands, .ref mm_far, .ref mm_queue, .int mm_queued, .ref mm_meets, .ref mm_bytes, .int (nI bl), .int (nI ta), .int (nI tl), .int mm_token, .int mm_value, .ref mm_next, .int (nI tk)])), (mm_now, .inl (cy 1, 122, .inl mm_now_f))]) [0, 1] rfl) (hD.sub (ws' := [(mm, .inr (11, [.ref mm_now, .ref mm_kept, .ref mm_isKept, .ref mm_refused, .int mm_lineFrom, .int mm_lineTo, .ref mm_stands, .ref mm_far, .ref mm_queue, .int mm_queued, .ref mm_meets, .ref mm_bytes, .int (nI bl), .int (nI ta), .int (nI tl), .int mm_token, .int mm_value, .ref mm_next, .int (nI tk)])), (mm_now, .inl (cy 1, 122, .inl mm_now_f))]) [0, 1] (by decide) rfl) rfl rfl) rfl rfl hl.1 rfl (lv_room (Nat.le_of_ble_eq_true rfl)) dX11_beside_56 ⟨Nat.le_of_ble_eq_true rfl, Nat.le_of_ble_eq_true rfl⟩) hP hS hA (fun r55 H locs hwr55 hP hS => ?_)
          have hwr55 : r55 = nI mW := hwr55
          subst hwr55
          refine lv_iconst (v := 1) hx hb dX11_beside_59 (by decide) ?_
          refine lv_isub hx hb dX11_beside_60 ?_
          refine lv_i2l hx hb dX11_beside_61 rfl ?_
          refine rd_i (va_runS (As := [.long x50.toInt64, .long 0, .long (((nI mW) - 1).toInt64)]) (rest := []) ⟨hx, hb, hml, hown, hts⟩ (n_X11_in l D cy x50.toInt64 (0) (((nI mW) - 1).toInt64) _ ) (va_cwS 3 hts gX11_beside_X11_in rfl rfl rfl (by decide +kernel) ⟨Nat.le_of_ble_eq_true rfl, Nat.le_of_ble_eq_true rfl⟩) (pS hKA pE (dE (A := A))) rfl rfl hl.1 rfl (lv_room (Nat.le_of_ble_eq_true rfl)) dX11_beside_62 ⟨Nat.le_of_ble_eq_true rfl, Nat.le_of_ble_eq_true rfl⟩) hP hS hA (fun r56 H locs hwr56 hP hS => ?_)
          have hwr56 : (r56 = 1 ∧ ((0) ≤ x50.toInt64 ∧ x50.toInt64 ≤ (((nI mW) - 1).toInt64))) ∨ (r56 = 0 ∧ (¬ ((0) ≤ x50.toInt64 ∧ x50.toInt64 ≤ (((nI mW) - 1).toInt64)))) := hwr56
          refine lv_if_eq (tgt := 99) hx hb dX11_beside_65 (by decide) (fun c57 => ?_) (fun c57 => ?_)
          · skip
            have hq58 := z_b0 hwr56 c57
            refine lv_iconst (v := (-1)) hx hb dX11_beside_99 (by decide) ?_
            subst hQF
            exact W.iret (v := (-1)) hx hb hr (fun t ht hW => ⟨⟨(-1), (), rfl, (bes_sp (Eq.trans (by first | exact bes_o1 (W := nI mW) (H := nI mH) (q := nI pq) (s := nI ps) (dx := 1) (((if_neg (by assumption)).trans (if_pos (by assumption))).symm) ex50 (by assumption) | exact bes_o2 (W := nI mW) (H := nI mH) (q := nI pq) (s := nI ps) (dy := 0) (((if_neg (by assumption)).trans (if_neg (by assumption))).symm) ex54 (by assumption)) (besT mW (by omega) mH (by omega) pq hpq ps hps hW2 hH2))), trivial⟩, hS.F ht⟩) hS.2.2 dX11_beside_100
          · skip
            obtain ⟨hp59, hp60⟩ := z_b1 hwr56 c57
            refine lv_iload hx hb dX11_beside_68 (lv_at hl 0 rfl) ?_
            refine lv_i2l hx hb dX11_beside_70 rfl ?_
            refine lv_lconst (v := 0) hx hb dX11_beside_71 (by decide) ?_
            refine lv_aload_n hx hb dX11_beside_72 rfl (lv_at hl 2 rfl) ?_
            refine va_get (D := D) (ci := 11) (v := .ref mm_now) (C := RX11) (T := TX11) (N := 19) hx hb hts zi11_ hown hK hP 0 rfl rfl 0 (by decide) z0_ (fun _ h9 => h9) rfl dX11_beside_73 ?_
            refine lv_iconst (v := 1) hx hb dX11_beside_76 (by decide) ?_
            refine my_iald hx hb hK hP 1 1 rfl rfl (by rw [vp_in_iff]; decide +kernel) (k := 1) (by decide +kernel) dX11_beside_77 ?_
            refine W.eq (g2 := F0 m 78 ls [.int (nI mH), .long 0, .long x54.toInt64]) (congrArg (fun v9 : Int32 => F0 m 78 ls [.int v9, .long 0, .long x54.toInt64]) hF.2.1) ?_
            refine lv_iconst (v := 1) hx hb dX11_beside_78 (by decide) ?_
            refine lv_isub hx hb dX11_beside_79 ?_
            refine lv_i2l hx hb dX11_beside_80 rfl ?_
            refine rd_i (va_runS (As := [.long x54.toInt64, .long 0, .long (((nI mH) - 1).toInt64)]) (rest := []) ⟨hx, hb, hml, hown, hts⟩ (n_X11_in l D cy x54.toInt64 (0) (((nI mH) - 1).toInt64) _ ) (va_cwS 3 hts gX11_beside_X11_in rfl rfl rfl (by decide +kernel) ⟨Nat.le_of_ble_eq_true rfl, Nat.le_of_ble_eq_true rfl⟩) (pS hKA pE (dE (A := A))) rfl rfl hl.1 rfl (lv_room (Nat.le_of_ble_eq_true rfl)) dX11_beside_81 ⟨Nat.le_of_ble_eq_true rfl, Nat.le_of_ble_eq_true rfl⟩) hP hS hA (fun r61 H locs hwr61 hP hS => ?_)
            have hwr61 : (r61 = 1 ∧ ((0) ≤ x54.toInt64 ∧ x54.toInt64 ≤ (((nI mH) - 1).toInt64))) ∨ (r61 = 0 ∧ (¬ ((0) ≤ x54.toInt64 ∧ x54.toInt64 ≤ (((nI mH) - 1).toInt64)))) := hwr61
            refine lv_if_eq (tgt := 99) hx hb dX11_beside_84 (by decide) (fun c62 => ?_) (fun c62 => ?_)
            · skip
              have hq63 := z_b0 hwr61 c62
              refine lv_iconst (v := (-1)) hx hb dX11_beside_99 (by decide) ?_
              subst hQF
              exact W.iret (v := (-1)) hx hb hr (fun t ht hW => ⟨⟨(-1), (), rfl, (bes_sp (Eq.trans (by first | exact bes_o1 (W := nI mW) (H := nI mH) (q := nI pq) (s := nI ps) (dx := 1) (((if_neg (by assumption)).trans (if_pos (by assumption))).symm) ex50 (by assumption) | exact bes_o2 (W := nI mW) (H := nI mH) (q := nI pq) (s := nI ps) (dy := 0) (((if_neg (by assumption)).trans (if_neg (by assumption))).symm) ex54 (by assumption)) (besT mW (by omega) mH (by omega) pq hpq ps hps hW2 hH2))), trivial⟩, hS.F ht⟩) hS.2.2 dX11_beside_100
            · skip
              obtain ⟨hp64, hp65⟩ := z_b1 hwr61 c62
              refine lv_aload_n hx hb dX11_beside_87 rfl (lv_at hl 2 rfl) ?_
              refine rd_i (va_runV (As := []) (rest := []) ⟨hx, hb, hml, hown, hts⟩ (n_X11_wide l D cy mW mH mS mP mm mm_now mm_kept mm_isKept mm_refused mm_lineFrom mm_lineTo mm_stands mm_far mm_queue mm_queued mm_meets mm_bytes bl ta tl mm_token mm_value mm_next tk mm_now_f _ (by first | assumption | omega)) (cwV 0 hts gX11_beside_X11_wide rfl rfl rfl (by decide +kernel) ⟨Nat.le_of_ble_eq_true rfl, Nat.le_of_ble_eq_true rfl⟩) (pV (ci := 11) (k := 0) hKA (hP.sub (ws' := [(mm, .inr (11, [.ref mm_now, .ref mm_kept, .ref mm_isKept, .ref mm_refused, .int mm_lineFrom, .int mm_lineTo, .ref mm_stands, .ref mm_far, .ref mm_queue, .int mm_queued, .ref mm_meets, .ref mm_bytes, .int (nI bl), .int (nI ta), .int (nI tl), .int mm_token, .int mm_value, .ref mm_next, .int (nI tk)])), (mm_now, .inl (cy 1, 122, .inl mm_now_f))]) [0, 1] rfl) (hD.sub (ws' := [(mm, .inr (11, [.ref mm_now, .ref mm_kept, .ref mm_isKept, .ref mm_refused, .int mm_lineFrom, .int mm_lineTo, .ref mm_stands, .ref mm_far, .ref mm_queue, .int mm_queued, .ref mm_meets, .ref mm_bytes, .int (nI bl), .int (nI ta), .int (nI tl), .int mm_token, .int mm_value, .ref mm_next, .int (nI tk)])), (mm_now, .inl (cy 1, 122, .inl mm_now_f))]) [0, 1] (by decide) rfl) rfl rfl) rfl rfl hl.1 rfl (lv_room (Nat.le_of_ble_eq_true rfl)) dX11_beside_88 ⟨Nat.le_of_ble_eq_true rfl, Nat.le_of_ble_eq_true rfl⟩) hP hS hA (fun r66 H locs hwr66 hP hS => ?_)
              have hwr66 : r66 = nI mW := hwr66
              subst hwr66
              refine lv_iload hx hb dX11_beside_91 (lv_at hl 0 rfl) ?_
              refine lv_imul hx hb dX11_beside_93 ?_
              refine lv_iload_n hx hb dX11_beside_94 rfl (lv_at hl 1 rfl) ?_
              refine lv_iadd hx hb dX11_beside_95 ?_
              refine lv_goto (tgt := 100) hx hb dX11_beside_96 (by decide) ?_
              refine lv_topi (fun x67 ex67 => ?_)
              subst hQF
              exact W.iret (v := x67) hx hb hr (fun t ht hW => ⟨⟨x67, (), rfl, (bes_sp (Eq.trans (Eq.trans ex67 (bes_in (W := nI mW) (H := nI mH) (q := nI pq) (s := nI ps) (dx := 1) (dy := 0) (((if_neg (by assumption)).trans (if_pos (by assumption))).symm) (((if_neg (by assumption)).trans (if_neg (by assumption))).symm) ex50 ex54 (by assumption) (by assumption) (by assumption) (by assumption))) (besT mW (by omega) mH (by omega) pq hpq ps hps hW2 hH2))), trivial⟩, hS.F ht⟩) hS.2.2 dX11_beside_100
        · skip
          refine lv_iconst (v := 1) hx hb dX11_beside_44 (by decide) ?_
          refine lv_goto (tgt := 49) hx hb dX11_beside_45 (by decide) ?_
          refine lv_iadd hx hb dX11_beside_49 ?_
          refine lv_topi (fun x68 ex68 => ?_)
          refine lv_istore (lv' := [(4, .int x68), (3, .int x50), (0, .ref mm), (1, .int (nI pq)), (2, .int (nI ps))]) hx hb dX11_beside_50 hl (by decide) rfl (fun ls hl => ?_)
          refine lv_iload_n hx hb dX11_beside_52 rfl (lv_at hl 1 rfl) ?_
          refine lv_i2l hx hb dX11_beside_53 rfl ?_
          refine lv_lconst (v := 0) hx hb dX11_beside_54 (by decide) ?_
          refine lv_aload_n hx hb dX11_beside_55 rfl (lv_at hl 2 rfl) ?_
          refine rd_i (va_runV (As := []) (rest := [.long 0, .long x50.toInt64]) ⟨hx, hb, hml, hown, hts⟩ (n_X11_wide l D cy mW mH mS mP mm mm_now mm_kept mm_isKept mm_refused mm_lineFrom mm_lineTo mm_stands mm_far mm_queue mm_queued mm_meets mm_bytes bl ta tl mm_token mm_value mm_next tk mm_now_f _ (by first | assumption | omega)) (cwV 0 hts gX11_beside_X11_wide rfl rfl rfl (by decide +kernel) ⟨Nat.le_of_ble_eq_true rfl, Nat.le_of_ble_eq_true rfl⟩) (pV (ci := 11) (k := 0) hKA (hP.sub (ws' := [(mm, .inr (11, [.ref mm_now, .ref mm_kept, .ref mm_isKept, .ref mm_refused, .int mm_lineFrom, .int mm_lineTo, .ref mm_stands, .ref mm_far, .ref mm_queue, .int mm_queued, .ref mm_meets, .ref mm_bytes, .int (nI bl), .int (nI ta), .int (nI tl), .int mm_token, .int mm_value, .ref mm_next, .int (nI tk)])), (mm_now, .inl (cy 1, 122, .inl mm_now_f))]) [0, 1] rfl) (hD.sub (ws' := [(mm, .inr (11, [.ref mm_now, .ref mm_kept, .ref mm_isKept, .ref mm_refused, .int mm_lineFrom, .int mm_lineTo, .ref mm_stands, .ref mm_far, .ref mm_queue, .int mm_queued, .ref mm_meets, .ref mm_bytes, .int (nI bl), .int (nI ta), .int (nI tl), .int mm_token, .int mm_value, .ref mm_next, .int (nI tk)])), (mm_now, .inl (cy 1, 122, .inl mm_now_f))]) [0, 1] (by decide) rfl) rfl rfl) rfl rfl hl.1 rfl (lv_room (Nat.le_of_ble_eq_true rfl)) dX11_beside_56 ⟨Nat.le_of_ble_eq_true rfl, Nat.le_of_ble_eq_true rfl⟩) hP hS hA (fun r69 H locs hwr69 hP hS => ?_)
          have hwr69 : r69 = nI mW := hwr69
          subst hwr69
          refine lv_iconst (v := 1) hx hb dX11_beside_59 (by decide) ?_
          refine lv_isub hx hb dX11_beside_60 ?_
          refine lv_i2l hx hb dX11_beside_61 rfl ?_
          refine rd_i (va_runS (As := [.long x50.toInt64, .long 0, .long (((nI mW) - 1).toInt64)]) (rest := []) ⟨hx, hb, hml, hown, hts⟩ (n_X11_in l D cy x50.toInt64 (0) (((nI mW) - 1).toInt64) _ ) (va_cwS 3 hts gX11_beside_X11_in rfl rfl rfl (by decide +kernel) ⟨Nat.le_of_ble_eq_true rfl, Nat.le_of_ble_eq_true rfl⟩) (pS hKA pE (dE (A := A))) rfl rfl hl.1 rfl (lv_room (Nat.le_of_ble_eq_true rfl)) dX11_beside_62 ⟨Nat.le_of_ble_eq_true rfl, Nat.le_of_ble_eq_true rfl⟩) hP hS hA (fun r70 H locs hwr70 hP hS => ?_)
          have hwr70 : (r70 = 1 ∧ ((0) ≤ x50.toInt64 ∧ x50.toInt64 ≤ (((nI mW) - 1).toInt64))) ∨ (r70 = 0 ∧ (¬ ((0) ≤ x50.toInt64 ∧ x50.toInt64 ≤ (((nI mW) - 1).toInt64)))) := hwr70
          refine lv_if_eq (tgt := 99) hx hb dX11_beside_65 (by decide) (fun c71 => ?_) (fun c71 => ?_)
          · skip
            have hq72 := z_b0 hwr70 c71
            refine lv_iconst (v := (-1)) hx hb dX11_beside_99 (by decide) ?_
            subst hQF
            exact W.iret (v := (-1)) hx hb hr (fun t ht hW => ⟨⟨(-1), (), rfl, (bes_sp (Eq.trans (by first | exact bes_o1 (W := nI mW) (H := nI mH) (q := nI pq) (s := nI ps) (dx := 1) (((if_neg (by assumption)).trans (if_pos (by assumption))).symm) ex50 (by assumption) | exact bes_o2 (W := nI mW) (H := nI mH) (q := nI pq) (s := nI ps) (dy := 1) (((if_neg (by assumption)).trans (if_pos (by assumption))).symm) ex68 (by assumption)) (besT mW (by omega) mH (by omega) pq hpq ps hps hW2 hH2))), trivial⟩, hS.F ht⟩) hS.2.2 dX11_beside_100
          · skip
            obtain ⟨hp73, hp74⟩ := z_b1 hwr70 c71
            refine lv_iload hx hb dX11_beside_68 (lv_at hl 0 rfl) ?_
            refine lv_i2l hx hb dX11_beside_70 rfl ?_
            refine lv_lconst (v := 0) hx hb dX11_beside_71 (by decide) ?_
            refine lv_aload_n hx hb dX11_beside_72 rfl (lv_at hl 2 rfl) ?_
            refine va_get (D := D) (ci := 11) (v := .ref mm_now) (C := RX11) (T := TX11) (N := 19) hx hb hts zi11_ hown hK hP 0 rfl rfl 0 (by decide) z0_ (fun _ h9 => h9) rfl dX11_beside_73 ?_
            refine lv_iconst (v := 1) hx hb dX11_beside_76 (by decide) ?_
            refine my_iald hx hb hK hP 1 1 rfl rfl (by rw [vp_in_iff]; decide +kernel) (k := 1) (by decide +kernel) dX11_beside_77 ?_
            refine W.eq (g2 := F0 m 78 ls [.int (nI mH), .long 0, .long x68.toInt64]) (congrArg (fun v9 : Int32 => F0 m 78 ls [.int v9, .long 0, .long x68.toInt64]) hF.2.1) ?_
            refine lv_iconst (v := 1) hx hb dX11_beside_78 (by decide) ?_
            refine lv_isub hx hb dX11_beside_79 ?_
            refine lv_i2l hx hb dX11_beside_80 rfl ?_
            refine rd_i (va_runS (As := [.long x68.toInt64, .long 0, .long (((nI mH) - 1).toInt64)]) (rest := []) ⟨hx, hb, hml, hown, hts⟩ (n_X11_in l D cy x68.toInt64 (0) (((nI mH) - 1).toInt64) _ ) (va_cwS 3 hts gX11_beside_X11_in rfl rfl rfl (by decide +kernel) ⟨Nat.le_of_ble_eq_true rfl, Nat.le_of_ble_eq_true rfl⟩) (pS hKA pE (dE (A := A))) rfl rfl hl.1 rfl (lv_room (Nat.le_of_ble_eq_true rfl)) dX11_beside_81 ⟨Nat.le_of_ble_eq_true rfl, Nat.le_of_ble_eq_true rfl⟩) hP hS hA (fun r75 H locs hwr75 hP hS => ?_)
            have hwr75 : (r75 = 1 ∧ ((0) ≤ x68.toInt64 ∧ x68.toInt64 ≤ (((nI mH) - 1).toInt64))) ∨ (r75 = 0 ∧ (¬ ((0) ≤ x68.toInt64 ∧ x68.toInt64 ≤ (((nI mH) - 1).toInt64)))) := hwr75
            refine lv_if_eq (tgt := 99) hx hb dX11_beside_84 (by decide) (fun c76 => ?_) (fun c76 => ?_)
            · skip
              have hq77 := z_b0 hwr75 c76
              refine lv_iconst (v := (-1)) hx hb dX11_beside_99 (by decide) ?_
              subst hQF
              exact W.iret (v := (-1)) hx hb hr (fun t ht hW => ⟨⟨(-1), (), rfl, (bes_sp (Eq.trans (by first | exact bes_o1 (W := nI mW) (H := nI mH) (q := nI pq) (s := nI ps) (dx := 1) (((if_neg (by assumption)).trans (if_pos (by assumption))).symm) ex50 (by assumption) | exact bes_o2 (W := nI mW) (H := nI mH) (q := nI pq) (s := nI ps) (dy := 1) (((if_neg (by assumption)).trans (if_pos (by assumption))).symm) ex68 (by assumption)) (besT mW (by omega) mH (by omega) pq hpq ps hps hW2 hH2))), trivial⟩, hS.F ht⟩) hS.2.2 dX11_beside_100
            · skip
              obtain ⟨hp78, hp79⟩ := z_b1 hwr75 c76
              refine lv_aload_n hx hb dX11_beside_87 rfl (lv_at hl 2 rfl) ?_
              refine rd_i (va_runV (As := []) (rest := []) ⟨hx, hb, hml, hown, hts⟩ (n_X11_wide l D cy mW mH mS mP mm mm_now mm_kept mm_isKept mm_refused mm_lineFrom mm_lineTo mm_stands mm_far mm_queue mm_queued mm_meets mm_bytes bl ta tl mm_token mm_value mm_next tk mm_now_f _ (by first | assumption | omega)) (cwV 0 hts gX11_beside_X11_wide rfl rfl rfl (by decide +kernel) ⟨Nat.le_of_ble_eq_true rfl, Nat.le_of_ble_eq_true rfl⟩) (pV (ci := 11) (k := 0) hKA (hP.sub (ws' := [(mm, .inr (11, [.ref mm_now, .ref mm_kept, .ref mm_isKept, .ref mm_refused, .int mm_lineFrom, .int mm_lineTo, .ref mm_stands, .ref mm_far, .ref mm_queue, .int mm_queued, .ref mm_meets, .ref mm_bytes, .int (nI bl), .int (nI ta), .int (nI tl), .int mm_token, .int mm_value, .ref mm_next, .int (nI tk)])), (mm_now, .inl (cy 1, 122, .inl mm_now_f))]) [0, 1] rfl) (hD.sub (ws' := [(mm, .inr (11, [.ref mm_now, .ref mm_kept, .ref mm_isKept, .ref mm_refused, .int mm_lineFrom, .int mm_lineTo, .ref mm_stands, .ref mm_far, .ref mm_queue, .int mm_queued, .ref mm_meets, .ref mm_bytes, .int (nI bl), .int (nI ta), .int (nI tl), .int mm_token, .int mm_value, .ref mm_next, .int (nI tk)])), (mm_now, .inl (cy 1, 122, .inl mm_now_f))]) [0, 1] (by decide) rfl) rfl rfl) rfl rfl hl.1 rfl (lv_room (Nat.le_of_ble_eq_true rfl)) dX11_beside_88 ⟨Nat.le_of_ble_eq_true rfl, Nat.le_of_ble_eq_true rfl⟩) hP hS hA (fun r80 H locs hwr80 hP hS => ?_)
              have hwr80 : r80 = nI mW := hwr80
              subst hwr80
              refine lv_iload hx hb dX11_beside_91 (lv_at hl 0 rfl) ?_
              refine lv_imul hx hb dX11_beside_93 ?_
              refine lv_iload_n hx hb dX11_beside_94 rfl (lv_at hl 1 rfl) ?_
              refine lv_iadd hx hb dX11_beside_95 ?_
              refine lv_goto (tgt := 100) hx hb dX11_beside_96 (by decide) ?_
              refine lv_topi (fun x81 ex81 => ?_)
              subst hQF
              exact W.iret (v := x81) hx hb hr (fun t ht hW => ⟨⟨x81, (), rfl, (bes_sp (Eq.trans (Eq.trans ex81 (bes_in (W := nI mW) (H := nI mH) (q := nI pq) (s := nI ps) (dx := 1) (dy := 1) (((if_neg (by assumption)).trans (if_pos (by assumption))).symm) (((if_neg (by assumption)).trans (if_pos (by assumption))).symm) ex50 ex68 (by assumption) (by assumption) (by assumption) (by assumption))) (besT mW (by omega) mH (by omega) pq hpq ps hps hW2 hH2))), trivial⟩, hS.F ht⟩) hS.2.2 dX11_beside_100
      · skip
        refine lv_iconst (v := (-1)) hx hb dX11_beside_35 (by decide) ?_
        refine lv_goto (tgt := 49) hx hb dX11_beside_36 (by decide) ?_
        refine lv_iadd hx hb dX11_beside_49 ?_
        refine lv_topi (fun x82 ex82 => ?_)
        refine lv_istore (lv' := [(4, .int x82), (3, .int x50), (0, .ref mm), (1, .int (nI pq)), (2, .int (nI ps))]) hx hb dX11_beside_50 hl (by decide) rfl (fun ls hl => ?_)
        refine lv_iload_n hx hb dX11_beside_52 rfl (lv_at hl 1 rfl) ?_
        refine lv_i2l hx hb dX11_beside_53 rfl ?_
        refine lv_lconst (v := 0) hx hb dX11_beside_54 (by decide) ?_
        refine lv_aload_n hx hb dX11_beside_55 rfl (lv_at hl 2 rfl) ?_
        refine rd_i (va_runV (As := []) (rest := [.long 0, .long x50.toInt64]) ⟨hx, hb, hml, hown, hts⟩ (n_X11_wide l D cy mW mH mS mP mm mm_now mm_kept mm_isKept mm_refused mm_lineFrom mm_lineTo mm_stands mm_far mm_queue mm_queued mm_meets mm_bytes bl ta tl mm_token mm_value mm_next tk mm_now_f _ (by first | assumption | omega)) (cwV 0 hts gX11_beside_X11_wide rfl rfl rfl (by decide +kernel) ⟨Nat.le_of_ble_eq_true rfl, Nat.le_of_ble_eq_true rfl⟩) (pV (ci := 11) (k := 0) hKA (hP.sub (ws' := [(mm, .inr (11, [.ref mm_now, .ref mm_kept, .ref mm_isKept, .ref mm_refused, .int mm_lineFrom, .int mm_lineTo, .ref mm_stands, .ref mm_far, .ref mm_queue, .int mm_queued, .ref mm_meets, .ref mm_bytes, .int (nI bl), .int (nI ta), .int (nI tl), .int mm_token, .int mm_value, .ref mm_next, .int (nI tk)])), (mm_now, .inl (cy 1, 122, .inl mm_now_f))]) [0, 1] rfl) (hD.sub (ws' := [(mm, .inr (11, [.ref mm_now, .ref mm_kept, .ref mm_isKept, .ref mm_refused, .int mm_lineFrom, .int mm_lineTo, .ref mm_stands, .ref mm_far, .ref mm_queue, .int mm_queued, .ref mm_meets, .ref mm_bytes, .int (nI bl), .int (nI ta), .int (nI tl), .int mm_token, .int mm_value, .ref mm_next, .int (nI tk)])), (mm_now, .inl (cy 1, 122, .inl mm_now_f))]) [0, 1] (by decide) rfl) rfl rfl) rfl rfl hl.1 rfl (lv_room (Nat.le_of_ble_eq_true rfl)) dX11_beside_56 ⟨Nat.le_of_ble_eq_true rfl, Nat.le_of_ble_eq_true rfl⟩) hP hS hA (fun r83 H locs hwr83 hP hS => ?_)
        have hwr83 : r83 = nI mW := hwr83
        subst hwr83
        refine lv_iconst (v := 1) hx hb dX11_beside_59 (by decide) ?_
        refine lv_isub hx hb dX11_beside_60 ?_
        refine lv_i2l hx hb dX11_beside_61 rfl ?_
        refine rd_i (va_runS (As := [.long x50.toInt64, .long 0, .long (((nI mW) - 1).toInt64)]) (rest := []) ⟨hx, hb, hml, hown, hts⟩ (n_X11_in l D cy x50.toInt64 (0) (((nI mW) - 1).toInt64) _ ) (va_cwS 3 hts gX11_beside_X11_in rfl rfl rfl (by decide +kernel) ⟨Nat.le_of_ble_eq_true rfl, Nat.le_of_ble_eq_true rfl⟩) (pS hKA pE (dE (A := A))) rfl rfl hl.1 rfl (lv_room (Nat.le_of_ble_eq_true rfl)) dX11_beside_62 ⟨Nat.le_of_ble_eq_true rfl, Nat.le_of_ble_eq_true rfl⟩) hP hS hA (fun r84 H locs hwr84 hP hS => ?_)
        have hwr84 : (r84 = 1 ∧ ((0) ≤ x50.toInt64 ∧ x50.toInt64 ≤ (((nI mW) - 1).toInt64))) ∨ (r84 = 0 ∧ (¬ ((0) ≤ x50.toInt64 ∧ x50.toInt64 ≤ (((nI mW) - 1).toInt64)))) := hwr84
        refine lv_if_eq (tgt := 99) hx hb dX11_beside_65 (by decide) (fun c85 => ?_) (fun c85 => ?_)
        · skip
          have hq86 := z_b0 hwr84 c85
          refine lv_iconst (v := (-1)) hx hb dX11_beside_99 (by decide) ?_
          subst hQF
          exact W.iret (v := (-1)) hx hb hr (fun t ht hW => ⟨⟨(-1), (), rfl, (bes_sp (Eq.trans (by first | exact bes_o1 (W := nI mW) (H := nI mH) (q := nI pq) (s := nI ps) (dx := 1) (((if_neg (by assumption)).trans (if_pos (by assumption))).symm) ex50 (by assumption) | exact bes_o2 (W := nI mW) (H := nI mH) (q := nI pq) (s := nI ps) (dy := (-1)) ((if_pos (by assumption)).symm) ex82 (by assumption)) (besT mW (by omega) mH (by omega) pq hpq ps hps hW2 hH2))), trivial⟩, hS.F ht⟩) hS.2.2 dX11_beside_100
        · skip
          obtain ⟨hp87, hp88⟩ := z_b1 hwr84 c85
          refine lv_iload hx hb dX11_beside_68 (lv_at hl 0 rfl) ?_
          refine lv_i2l hx hb dX11_beside_70 rfl ?_
          refine lv_lconst (v := 0) hx hb dX11_beside_71 (by decide) ?_
          refine lv_aload_n hx hb dX11_beside_72 rfl (lv_at hl 2 rfl) ?_
          refine va_get (D := D) (ci := 11) (v := .ref mm_now) (C := RX11) (T := TX11) (N := 19) hx hb hts zi11_ hown hK hP 0 rfl rfl 0 (by decide) z0_ (fun _ h9 => h9) rfl dX11_beside_73 ?_
          refine lv_iconst (v := 1) hx hb dX11_beside_76 (by decide) ?_
          refine my_iald hx hb hK hP 1 1 rfl rfl (by rw [vp_in_iff]; decide +kernel) (k := 1) (by decide +kernel) dX11_beside_77 ?_
          refine W.eq (g2 := F0 m 78 ls [.int (nI mH), .long 0, .long x82.toInt64]) (congrArg (fun v9 : Int32 => F0 m 78 ls [.int v9, .long 0, .long x82.toInt64]) hF.2.1) ?_
          refine lv_iconst (v := 1) hx hb dX11_beside_78 (by decide) ?_
          refine lv_isub hx hb dX11_beside_79 ?_
          refine lv_i2l hx hb dX11_beside_80 rfl ?_
          refine rd_i (va_runS (As := [.long x82.toInt64, .long 0, .long (((nI mH) - 1).toInt64)]) (rest := []) ⟨hx, hb, hml, hown, hts⟩ (n_X11_in l D cy x82.toInt64 (0) (((nI mH) - 1).toInt64) _ ) (va_cwS 3 hts gX11_beside_X11_in rfl rfl rfl (by decide +kernel) ⟨Nat.le_of_ble_eq_true rfl, Nat.le_of_ble_eq_true rfl⟩) (pS hKA pE (dE (A := A))) rfl rfl hl.1 rfl (lv_room (Nat.le_of_ble_eq_true rfl)) dX11_beside_81 ⟨Nat.le_of_ble_eq_true rfl, Nat.le_of_ble_eq_true rfl⟩) hP hS hA (fun r89 H locs hwr89 hP hS => ?_)
          have hwr89 : (r89 = 1 ∧ ((0) ≤ x82.toInt64 ∧ x82.toInt64 ≤ (((nI mH) - 1).toInt64))) ∨ (r89 = 0 ∧ (¬ ((0) ≤ x82.toInt64 ∧ x82.toInt64 ≤ (((nI mH) - 1).toInt64)))) := hwr89
          refine lv_if_eq (tgt := 99) hx hb dX11_beside_84 (by decide) (fun c90 => ?_) (fun c90 => ?_)
          · skip
            have hq91 := z_b0 hwr89 c90
            refine lv_iconst (v := (-1)) hx hb dX11_beside_99 (by decide) ?_
            subst hQF
            exact W.iret (v := (-1)) hx hb hr (fun t ht hW => ⟨⟨(-1), (), rfl, (bes_sp (Eq.trans (by first | exact bes_o1 (W := nI mW) (H := nI mH) (q := nI pq) (s := nI ps) (dx := 1) (((if_neg (by assumption)).trans (if_pos (by assumption))).symm) ex50 (by assumption) | exact bes_o2 (W := nI mW) (H := nI mH) (q := nI pq) (s := nI ps) (dy := (-1)) ((if_pos (by assumption)).symm) ex82 (by assumption)) (besT mW (by omega) mH (by omega) pq hpq ps hps hW2 hH2))), trivial⟩, hS.F ht⟩) hS.2.2 dX11_beside_100
          · skip
            obtain ⟨hp92, hp93⟩ := z_b1 hwr89 c90
            refine lv_aload_n hx hb dX11_beside_87 rfl (lv_at hl 2 rfl) ?_
            refine rd_i (va_runV (As := []) (rest := []) ⟨hx, hb, hml, hown, hts⟩ (n_X11_wide l D cy mW mH mS mP mm mm_now mm_kept mm_isKept mm_refused mm_lineFrom mm_lineTo mm_stands mm_far mm_queue mm_queued mm_meets mm_bytes bl ta tl mm_token mm_value mm_next tk mm_now_f _ (by first | assumption | omega)) (cwV 0 hts gX11_beside_X11_wide rfl rfl rfl (by decide +kernel) ⟨Nat.le_of_ble_eq_true rfl, Nat.le_of_ble_eq_true rfl⟩) (pV (ci := 11) (k := 0) hKA (hP.sub (ws' := [(mm, .inr (11, [.ref mm_now, .ref mm_kept, .ref mm_isKept, .ref mm_refused, .int mm_lineFrom, .int mm_lineTo, .ref mm_stands, .ref mm_far, .ref mm_queue, .int mm_queued, .ref mm_meets, .ref mm_bytes, .int (nI bl), .int (nI ta), .int (nI tl), .int mm_token, .int mm_value, .ref mm_next, .int (nI tk)])), (mm_now, .inl (cy 1, 122, .inl mm_now_f))]) [0, 1] rfl) (hD.sub (ws' := [(mm, .inr (11, [.ref mm_now, .ref mm_kept, .ref mm_isKept, .ref mm_refused, .int mm_lineFrom, .int mm_lineTo, .ref mm_stands, .ref mm_far, .ref mm_queue, .int mm_queued, .ref mm_meets, .ref mm_bytes, .int (nI bl), .int (nI ta), .int (nI tl), .int mm_token, .int mm_value, .ref mm_next, .int (nI tk)])), (mm_now, .inl (cy 1, 122, .inl mm_now_f))]) [0, 1] (by decide) rfl) rfl rfl) rfl rfl hl.1 rfl (lv_room (Nat.le_of_ble_eq_true rfl)) dX11_beside_88 ⟨Nat.le_of_ble_eq_true rfl, Nat.le_of_ble_eq_true rfl⟩) hP hS hA (fun r94 H locs hwr94 hP hS => ?_)
            have hwr94 : r94 = nI mW := hwr94
            subst hwr94
            refine lv_iload hx hb dX11_beside_91 (lv_at hl 0 rfl) ?_
            refine lv_imul hx hb dX11_beside_93 ?_
            refine lv_iload_n hx hb dX11_beside_94 rfl (lv_at hl 1 rfl) ?_
            refine lv_iadd hx hb dX11_beside_95 ?_
            refine lv_goto (tgt := 100) hx hb dX11_beside_96 (by decide) ?_
            refine lv_topi (fun x95 ex95 => ?_)
            subst hQF
            exact W.iret (v := x95) hx hb hr (fun t ht hW => ⟨⟨x95, (), rfl, (bes_sp (Eq.trans (Eq.trans ex95 (bes_in (W := nI mW) (H := nI mH) (q := nI pq) (s := nI ps) (dx := 1) (dy := (-1)) (((if_neg (by assumption)).trans (if_pos (by assumption))).symm) ((if_pos (by assumption)).symm) ex50 ex82 (by assumption) (by assumption) (by assumption) (by assumption))) (besT mW (by omega) mH (by omega) pq hpq ps hps hW2 hH2))), trivial⟩, hS.F ht⟩) hS.2.2 dX11_beside_100
  · skip
    refine lv_iconst (v := (-1)) hx hb dX11_beside_10 (by decide) ?_
    refine lv_goto (tgt := 24) hx hb dX11_beside_11 (by decide) ?_
    refine lv_iadd hx hb dX11_beside_24 ?_
    refine lv_topi (fun x96 ex96 => ?_)
    refine lv_istore_n (lv' := [(3, .int x96), (0, .ref mm), (1, .int (nI pq)), (2, .int (nI ps))]) hx hb dX11_beside_25 rfl hl (by decide) rfl (fun ls hl => ?_)
    refine lv_aload_n hx hb dX11_beside_26 rfl (lv_at hl 1 rfl) ?_
    refine lv_iload_n hx hb dX11_beside_27 rfl (lv_at hl 2 rfl) ?_
    refine rd_i (va_runV (As := [.int (nI pq)]) (rest := []) ⟨hx, hb, hml, hown, hts⟩ (n_X11_yOf l D cy mW mH mS mP mm mm_now mm_kept mm_isKept mm_refused mm_lineFrom mm_lineTo mm_stands mm_far mm_queue mm_queued mm_meets mm_bytes bl ta tl mm_token mm_value mm_next tk mm_now_f (nI pq) _ (by first | assumption | omega)) (cwV 1 hts gX11_beside_X11_yOf rfl rfl rfl (by decide +kernel) ⟨Nat.le_of_ble_eq_true rfl, Nat.le_of_ble_eq_true rfl⟩) (pV (ci := 11) (k := 0) hKA (hP.sub (ws' := [(mm, .inr (11, [.ref mm_now, .ref mm_kept, .ref mm_isKept, .ref mm_refused, .int mm_lineFrom, .int mm_lineTo, .ref mm_stands, .ref mm_far, .ref mm_queue, .int mm_queued, .ref mm_meets, .ref mm_bytes, .int (nI bl), .int (nI ta), .int (nI tl), .int mm_token, .int mm_value, .ref mm_next, .int (nI tk)])), (mm_now, .inl (cy 1, 122, .inl mm_now_f))]) [0, 1] rfl) (hD.sub (ws' := [(mm, .inr (11, [.ref mm_now, .ref mm_kept, .ref mm_isKept, .ref mm_refused, .int mm_lineFrom, .int mm_lineTo, .ref mm_stands, .ref mm_far, .ref mm_queue, .int mm_queued, .ref mm_meets, .ref mm_bytes, .int (nI bl), .int (nI ta), .int (nI tl), .int mm_token, .int mm_value, .ref mm_next, .int (nI tk)])), (mm_now, .inl (cy 1, 122, .inl mm_now_f))]) [0, 1] (by decide) rfl) rfl rfl) rfl rfl hl.1 rfl (lv_room (Nat.le_of_ble_eq_true rfl)) dX11_beside_28 ⟨Nat.le_of_ble_eq_true rfl, Nat.le_of_ble_eq_true rfl⟩) hP hS hA (fun r97 H locs hwr97 hP hS => ?_)
    have hwr97 : r97 = (nI pq) / nI mW := hwr97
    subst hwr97
    refine lv_iload_n hx hb dX11_beside_31 rfl (lv_at hl 3 rfl) ?_
    refine lv_if_ne (tgt := 39) hx hb dX11_beside_32 (by decide) (fun c98 => ?_) (fun c98 => ?_)
    · skip
      refine lv_iload_n hx hb dX11_beside_39 rfl (lv_at hl 3 rfl) ?_
      refine lv_iconst (v := 3) hx hb dX11_beside_40 (by decide) ?_
      refine lv_icmp_ne (tgt := 48) hx hb dX11_beside_41 (by decide) (fun c99 => ?_) (fun c99 => ?_)
      · skip
        refine lv_iconst (v := 0) hx hb dX11_beside_48 (by decide) ?_
        refine lv_iadd hx hb dX11_beside_49 ?_
        refine lv_topi (fun x100 ex100 => ?_)
        refine lv_istore (lv' := [(4, .int x100), (3, .int x96), (0, .ref mm), (1, .int (nI pq)), (2, .int (nI ps))]) hx hb dX11_beside_50 hl (by decide) rfl (fun ls hl => ?_)
        refine lv_iload_n hx hb dX11_beside_52 rfl (lv_at hl 1 rfl) ?_
        refine lv_i2l hx hb dX11_beside_53 rfl ?_
        refine lv_lconst (v := 0) hx hb dX11_beside_54 (by decide) ?_
        refine lv_aload_n hx hb dX11_beside_55 rfl (lv_at hl 2 rfl) ?_
        refine rd_i (va_runV (As := []) (rest := [.long 0, .long x96.toInt64]) ⟨hx, hb, hml, hown, hts⟩ (n_X11_wide l D cy mW mH mS mP mm mm_now mm_kept mm_isKept mm_refused mm_lineFrom mm_lineTo mm_stands mm_far mm_queue mm_queued mm_meets mm_bytes bl ta tl mm_token mm_value mm_next tk mm_now_f _ (by first | assumption | omega)) (cwV 0 hts gX11_beside_X11_wide rfl rfl rfl (by decide +kernel) ⟨Nat.le_of_ble_eq_true rfl, Nat.le_of_ble_eq_true rfl⟩) (pV (ci := 11) (k := 0) hKA (hP.sub (ws' := [(mm, .inr (11, [.ref mm_now, .ref mm_kept, .ref mm_isKept, .ref mm_refused, .int mm_lineFrom, .int mm_lineTo, .ref mm_stands, .ref mm_far, .ref mm_queue, .int mm_queued, .ref mm_meets, .ref mm_bytes, .int (nI bl), .int (nI ta), .int (nI tl), .int mm_token, .int mm_value, .ref mm_next, .int (nI tk)])), (mm_now, .inl (cy 1, 122, .inl mm_now_f))]) [0, 1] rfl) (hD.sub (ws' := [(mm, .inr (11, [.ref mm_now, .ref mm_kept, .ref mm_isKept, .ref mm_refused, .int mm_lineFrom, .int mm_lineTo, .ref mm_stands, .ref mm_far, .ref mm_queue, .int mm_queued, .ref mm_meets, .ref mm_bytes, .int (nI bl), .int (nI ta), .int (nI tl), .int mm_token, .int mm_value, .ref mm_next, .int (nI tk)])), (mm_now, .inl (cy 1, 122, .inl mm_now_f))]) [0, 1] (by decide) rfl) rfl rfl) rfl rfl hl.1 rfl (lv_room (Nat.le_of_ble_eq_true rfl)) dX11_beside_56 ⟨Nat.le_of_ble_eq_true rfl, Nat.le_of_ble_eq_true rfl⟩) hP hS hA (fun r101 H locs hwr101 hP hS => ?_)
        have hwr101 : r101 = nI mW := hwr101
        subst hwr101
        refine lv_iconst (v := 1) hx hb dX11_beside_59 (by decide) ?_
        refine lv_isub hx hb dX11_beside_60 ?_
        refine lv_i2l hx hb dX11_beside_61 rfl ?_
        refine rd_i (va_runS (As := [.long x96.toInt64, .long 0, .long (((nI mW) - 1).toInt64)]) (rest := []) ⟨hx, hb, hml, hown, hts⟩ (n_X11_in l D cy x96.toInt64 (0) (((nI mW) - 1).toInt64) _ ) (va_cwS 3 hts gX11_beside_X11_in rfl rfl rfl (by decide +kernel) ⟨Nat.le_of_ble_eq_true rfl, Nat.le_of_ble_eq_true rfl⟩) (pS hKA pE (dE (A := A))) rfl rfl hl.1 rfl (lv_room (Nat.le_of_ble_eq_true rfl)) dX11_beside_62 ⟨Nat.le_of_ble_eq_true rfl, Nat.le_of_ble_eq_true rfl⟩) hP hS hA (fun r102 H locs hwr102 hP hS => ?_)
        have hwr102 : (r102 = 1 ∧ ((0) ≤ x96.toInt64 ∧ x96.toInt64 ≤ (((nI mW) - 1).toInt64))) ∨ (r102 = 0 ∧ (¬ ((0) ≤ x96.toInt64 ∧ x96.toInt64 ≤ (((nI mW) - 1).toInt64)))) := hwr102
        refine lv_if_eq (tgt := 99) hx hb dX11_beside_65 (by decide) (fun c103 => ?_) (fun c103 => ?_)
        · skip
          have hq104 := z_b0 hwr102 c103
          refine lv_iconst (v := (-1)) hx hb dX11_beside_99 (by decide) ?_
          subst hQF
          exact W.iret (v := (-1)) hx hb hr (fun t ht hW => ⟨⟨(-1), (), rfl, (bes_sp (Eq.trans (by first | exact bes_o1 (W := nI mW) (H := nI mH) (q := nI pq) (s := nI ps) (dx := (-1)) ((if_pos (by assumption)).symm) ex96 (by assumption) | exact bes_o2 (W := nI mW) (H := nI mH) (q := nI pq) (s := nI ps) (dy := 0) (((if_neg (by assumption)).trans (if_neg (by assumption))).symm) ex100 (by assumption)) (besT mW (by omega) mH (by omega) pq hpq ps hps hW2 hH2))), trivial⟩, hS.F ht⟩) hS.2.2 dX11_beside_100
        · skip
          obtain ⟨hp105, hp106⟩ := z_b1 hwr102 c103
          refine lv_iload hx hb dX11_beside_68 (lv_at hl 0 rfl) ?_
          refine lv_i2l hx hb dX11_beside_70 rfl ?_
          refine lv_lconst (v := 0) hx hb dX11_beside_71 (by decide) ?_
          refine lv_aload_n hx hb dX11_beside_72 rfl (lv_at hl 2 rfl) ?_
          refine va_get (D := D) (ci := 11) (v := .ref mm_now) (C := RX11) (T := TX11) (N := 19) hx hb hts zi11_ hown hK hP 0 rfl rfl 0 (by decide) z0_ (fun _ h9 => h9) rfl dX11_beside_73 ?_
          refine lv_iconst (v := 1) hx hb dX11_beside_76 (by decide) ?_
          refine my_iald hx hb hK hP 1 1 rfl rfl (by rw [vp_in_iff]; decide +kernel) (k := 1) (by decide +kernel) dX11_beside_77 ?_
          refine W.eq (g2 := F0 m 78 ls [.int (nI mH), .long 0, .long x100.toInt64]) (congrArg (fun v9 : Int32 => F0 m 78 ls [.int v9, .long 0, .long x100.toInt64]) hF.2.1) ?_
          refine lv_iconst (v := 1) hx hb dX11_beside_78 (by decide) ?_
          refine lv_isub hx hb dX11_beside_79 ?_
          refine lv_i2l hx hb dX11_beside_80 rfl ?_
          refine rd_i (va_runS (As := [.long x100.toInt64, .long 0, .long (((nI mH) - 1).toInt64)]) (rest := []) ⟨hx, hb, hml, hown, hts⟩ (n_X11_in l D cy x100.toInt64 (0) (((nI mH) - 1).toInt64) _ ) (va_cwS 3 hts gX11_beside_X11_in rfl rfl rfl (by decide +kernel) ⟨Nat.le_of_ble_eq_true rfl, Nat.le_of_ble_eq_true rfl⟩) (pS hKA pE (dE (A := A))) rfl rfl hl.1 rfl (lv_room (Nat.le_of_ble_eq_true rfl)) dX11_beside_81 ⟨Nat.le_of_ble_eq_true rfl, Nat.le_of_ble_eq_true rfl⟩) hP hS hA (fun r107 H locs hwr107 hP hS => ?_)
          have hwr107 : (r107 = 1 ∧ ((0) ≤ x100.toInt64 ∧ x100.toInt64 ≤ (((nI mH) - 1).toInt64))) ∨ (r107 = 0 ∧ (¬ ((0) ≤ x100.toInt64 ∧ x100.toInt64 ≤ (((nI mH) - 1).toInt64)))) := hwr107
          refine lv_if_eq (tgt := 99) hx hb dX11_beside_84 (by decide) (fun c108 => ?_) (fun c108 => ?_)
          · skip
            have hq109 := z_b0 hwr107 c108
            refine lv_iconst (v := (-1)) hx hb dX11_beside_99 (by decide) ?_
            subst hQF
            exact W.iret (v := (-1)) hx hb hr (fun t ht hW => ⟨⟨(-1), (), rfl, (bes_sp (Eq.trans (by first | exact bes_o1 (W := nI mW) (H := nI mH) (q := nI pq) (s := nI ps) (dx := (-1)) ((if_pos (by assumption)).symm) ex96 (by assumption) | exact bes_o2 (W := nI mW) (H := nI mH) (q := nI pq) (s := nI ps) (dy := 0) (((if_neg (by assumption)).trans (if_neg (by assumption))).symm) ex100 (by assumption)) (besT mW (by omega) mH (by omega) pq hpq ps hps hW2 hH2))), trivial⟩, hS.F ht⟩) hS.2.2 dX11_beside_100
          · skip
            obtain ⟨hp110, hp111⟩ := z_b1 hwr107 c108
            refine lv_aload_n hx hb dX11_beside_87 rfl (lv_at hl 2 rfl) ?_
            refine rd_i (va_runV (As := []) (rest := []) ⟨hx, hb, hml, hown, hts⟩ (n_X11_wide l D cy mW mH mS mP mm mm_now mm_kept mm_isKept mm_refused mm_lineFrom mm_lineTo mm_stands mm_far mm_queue mm_queued mm_meets mm_bytes bl ta tl mm_token mm_value mm_next tk mm_now_f _ (by first | assumption | omega)) (cwV 0 hts gX11_beside_X11_wide rfl rfl rfl (by decide +kernel) ⟨Nat.le_of_ble_eq_true rfl, Nat.le_of_ble_eq_true rfl⟩) (pV (ci := 11) (k := 0) hKA (hP.sub (ws' := [(mm, .inr (11, [.ref mm_now, .ref mm_kept, .ref mm_isKept, .ref mm_refused, .int mm_lineFrom, .int mm_lineTo, .ref mm_stands, .ref mm_far, .ref mm_queue, .int mm_queued, .ref mm_meets, .ref mm_bytes, .int (nI bl), .int (nI ta), .int (nI tl), .int mm_token, .int mm_value, .ref mm_next, .int (nI tk)])), (mm_now, .inl (cy 1, 122, .inl mm_now_f))]) [0, 1] rfl) (hD.sub (ws' := [(mm, .inr (11, [.ref mm_now, .ref mm_kept, .ref mm_isKept, .ref mm_refused, .int mm_lineFrom, .int mm_lineTo, .ref mm_stands, .ref mm_far, .ref mm_queue, .int mm_queued, .ref mm_meets, .ref mm_bytes, .int (nI bl), .int (nI ta), .int (nI tl), .int mm_token, .int mm_value, .ref mm_next, .int (nI tk)])), (mm_now, .inl (cy 1, 122, .inl mm_now_f))]) [0, 1] (by decide) rfl) rfl rfl) rfl rfl hl.1 rfl (lv_room (Nat.le_of_ble_eq_true rfl)) dX11_beside_88 ⟨Nat.le_of_ble_eq_true rfl, Nat.le_of_ble_eq_true rfl⟩) hP hS hA (fun r112 H locs hwr112 hP hS => ?_)
            have hwr112 : r112 = nI mW := hwr112
            subst hwr112
            refine lv_iload hx hb dX11_beside_91 (lv_at hl 0 rfl) ?_
            refine lv_imul hx hb dX11_beside_93 ?_
            refine lv_iload_n hx hb dX11_beside_94 rfl (lv_at hl 1 rfl) ?_
            refine lv_iadd hx hb dX11_beside_95 ?_
            refine lv_goto (tgt := 100) hx hb dX11_beside_96 (by decide) ?_
            refine lv_topi (fun x113 ex113 => ?_)
            subst hQF
            exact W.iret (v := x113) hx hb hr (fun t ht hW => ⟨⟨x113, (), rfl, (bes_sp (Eq.trans (Eq.trans ex113 (bes_in (W := nI mW) (H := nI mH) (q := nI pq) (s := nI ps) (dx := (-1)) (dy := 0) ((if_pos (by assumption)).symm) (((if_neg (by assumption)).trans (if_neg (by assumption))).symm) ex96 ex100 (by assumption) (by assumption) (by assumption) (by assumption))) (besT mW (by omega) mH (by omega) pq hpq ps hps hW2 hH2))), trivial⟩, hS.F ht⟩) hS.2.2 dX11_beside_100
      · skip
        refine lv_iconst (v := 1) hx hb dX11_beside_44 (by decide) ?_
        refine lv_goto (tgt := 49) hx hb dX11_beside_45 (by decide) ?_
        refine lv_iadd hx hb dX11_beside_49 ?_
        refine lv_topi (fun x114 ex114 => ?_)
        refine lv_istore (lv' := [(4, .int x114), (3, .int x96), (0, .ref mm), (1, .int (nI pq)), (2, .int (nI ps))]) hx hb dX11_beside_50 hl (by decide) rfl (fun ls hl => ?_)
        refine lv_iload_n hx hb dX11_beside_52 rfl (lv_at hl 1 rfl) ?_
        refine lv_i2l hx hb dX11_beside_53 rfl ?_
        refine lv_lconst (v := 0) hx hb dX11_beside_54 (by decide) ?_
        refine lv_aload_n hx hb dX11_beside_55 rfl (lv_at hl 2 rfl) ?_
        refine rd_i (va_runV (As := []) (rest := [.long 0, .long x96.toInt64]) ⟨hx, hb, hml, hown, hts⟩ (n_X11_wide l D cy mW mH mS mP mm mm_now mm_kept mm_isKept mm_refused mm_lineFrom mm_lineTo mm_stands mm_far mm_queue mm_queued mm_meets mm_bytes bl ta tl mm_token mm_value mm_next tk mm_now_f _ (by first | assumption | omega)) (cwV 0 hts gX11_beside_X11_wide rfl rfl rfl (by decide +kernel) ⟨Nat.le_of_ble_eq_true rfl, Nat.le_of_ble_eq_true rfl⟩) (pV (ci := 11) (k := 0) hKA (hP.sub (ws' := [(mm, .inr (11, [.ref mm_now, .ref mm_kept, .ref mm_isKept, .ref mm_refused, .int mm_lineFrom, .int mm_lineTo, .ref mm_stands, .ref mm_far, .ref mm_queue, .int mm_queued, .ref mm_meets, .ref mm_bytes, .int (nI bl), .int (nI ta), .int (nI tl), .int mm_token, .int mm_value, .ref mm_next, .int (nI tk)])), (mm_now, .inl (cy 1, 122, .inl mm_now_f))]) [0, 1] rfl) (hD.sub (ws' := [(mm, .inr (11, [.ref mm_now, .ref mm_kept, .ref mm_isKept, .ref mm_refused, .int mm_lineFrom, .int mm_lineTo, .ref mm_stands, .ref mm_far, .ref mm_queue, .int mm_queued, .ref mm_meets, .ref mm_bytes, .int (nI bl), .int (nI ta), .int (nI tl), .int mm_token, .int mm_value, .ref mm_next, .int (nI tk)])), (mm_now, .inl (cy 1, 122, .inl mm_now_f))]) [0, 1] (by decide) rfl) rfl rfl) rfl rfl hl.1 rfl (lv_room (Nat.le_of_ble_eq_true rfl)) dX11_beside_56 ⟨Nat.le_of_ble_eq_true rfl, Nat.le_of_ble_eq_true rfl⟩) hP hS hA (fun r115 H locs hwr115 hP hS => ?_)
        have hwr115 : r115 = nI mW := hwr115
        subst hwr115
        refine lv_iconst (v := 1) hx hb dX11_beside_59 (by decide) ?_
        refine lv_isub hx hb dX11_beside_60 ?_
        refine lv_i2l hx hb dX11_beside_61 rfl ?_
        refine rd_i (va_runS (As := [.long x96.toInt64, .long 0, .long (((nI mW) - 1).toInt64)]) (rest := []) ⟨hx, hb, hml, hown, hts⟩ (n_X11_in l D cy x96.toInt64 (0) (((nI mW) - 1).toInt64) _ ) (va_cwS 3 hts gX11_beside_X11_in rfl rfl rfl (by decide +kernel) ⟨Nat.le_of_ble_eq_true rfl, Nat.le_of_ble_eq_true rfl⟩) (pS hKA pE (dE (A := A))) rfl rfl hl.1 rfl (lv_room (Nat.le_of_ble_eq_true rfl)) dX11_beside_62 ⟨Nat.le_of_ble_eq_true rfl, Nat.le_of_ble_eq_true rfl⟩) hP hS hA (fun r116 H locs hwr116 hP hS => ?_)
        have hwr116 : (r116 = 1 ∧ ((0) ≤ x96.toInt64 ∧ x96.toInt64 ≤ (((nI mW) - 1).toInt64))) ∨ (r116 = 0 ∧ (¬ ((0) ≤ x96.toInt64 ∧ x96.toInt64 ≤ (((nI mW) - 1).toInt64)))) := hwr116
        refine lv_if_eq (tgt := 99) hx hb dX11_beside_65 (by decide) (fun c117 => ?_) (fun c117 => ?_)
        · skip
          have hq118 := z_b0 hwr116 c117
          refine lv_iconst (v := (-1)) hx hb dX11_beside_99 (by decide) ?_
          subst hQF
          exact W.iret (v := (-1)) hx hb hr (fun t ht hW => ⟨⟨(-1), (), rfl, (bes_sp (Eq.trans (by first | exact bes_o1 (W := nI mW) (H := nI mH) (q := nI pq) (s := nI ps) (dx := (-1)) ((if_pos (by assumption)).symm) ex96 (by assumption) | exact bes_o2 (W := nI mW) (H := nI mH) (q := nI pq) (s := nI ps) (dy := 1) (((if_neg (by assumption)).trans (if_pos (by assumption))).symm) ex114 (by assumption)) (besT mW (by omega) mH (by omega) pq hpq ps hps hW2 hH2))), trivial⟩, hS.F ht⟩) hS.2.2 dX11_beside_100
        · skip
          obtain ⟨hp119, hp120⟩ := z_b1 hwr116 c117
          refine lv_iload hx hb dX11_beside_68 (lv_at hl 0 rfl) ?_
          refine lv_i2l hx hb dX11_beside_70 rfl ?_
          refine lv_lconst (v := 0) hx hb dX11_beside_71 (by decide) ?_
          refine lv_aload_n hx hb dX11_beside_72 rfl (lv_at hl 2 rfl) ?_
          refine va_get (D := D) (ci := 11) (v := .ref mm_now) (C := RX11) (T := TX11) (N := 19) hx hb hts zi11_ hown hK hP 0 rfl rfl 0 (by decide) z0_ (fun _ h9 => h9) rfl dX11_beside_73 ?_
          refine lv_iconst (v := 1) hx hb dX11_beside_76 (by decide) ?_
          refine my_iald hx hb hK hP 1 1 rfl rfl (by rw [vp_in_iff]; decide +kernel) (k := 1) (by decide +kernel) dX11_beside_77 ?_
          refine W.eq (g2 := F0 m 78 ls [.int (nI mH), .long 0, .long x114.toInt64]) (congrArg (fun v9 : Int32 => F0 m 78 ls [.int v9, .long 0, .long x114.toInt64]) hF.2.1) ?_
          refine lv_iconst (v := 1) hx hb dX11_beside_78 (by decide) ?_
          refine lv_isub hx hb dX11_beside_79 ?_
          refine lv_i2l hx hb dX11_beside_80 rfl ?_
          refine rd_i (va_runS (As := [.long x114.toInt64, .long 0, .long (((nI mH) - 1).toInt64)]) (rest := []) ⟨hx, hb, hml, hown, hts⟩ (n_X11_in l D cy x114.toInt64 (0) (((nI mH) - 1).toInt64) _ ) (va_cwS 3 hts gX11_beside_X11_in rfl rfl rfl (by decide +kernel) ⟨Nat.le_of_ble_eq_true rfl, Nat.le_of_ble_eq_true rfl⟩) (pS hKA pE (dE (A := A))) rfl rfl hl.1 rfl (lv_room (Nat.le_of_ble_eq_true rfl)) dX11_beside_81 ⟨Nat.le_of_ble_eq_true rfl, Nat.le_of_ble_eq_true rfl⟩) hP hS hA (fun r121 H locs hwr121 hP hS => ?_)
          have hwr121 : (r121 = 1 ∧ ((0) ≤ x114.toInt64 ∧ x114.toInt64 ≤ (((nI mH) - 1).toInt64))) ∨ (r121 = 0 ∧ (¬ ((0) ≤ x114.toInt64 ∧ x114.toInt64 ≤ (((nI mH) - 1).toInt64)))) := hwr121
          refine lv_if_eq (tgt := 99) hx hb dX11_beside_84 (by decide) (fun c122 => ?_) (fun c122 => ?_)
          · skip
            have hq123 := z_b0 hwr121 c122
            refine lv_iconst (v := (-1)) hx hb dX11_beside_99 (by decide) ?_
            subst hQF
            exact W.iret (v := (-1)) hx hb hr (fun t ht hW => ⟨⟨(-1), (), rfl, (bes_sp (Eq.trans (by first | exact bes_o1 (W := nI mW) (H := nI mH) (q := nI pq) (s := nI ps) (dx := (-1)) ((if_pos (by assumption)).symm) ex96 (by assumption) | exact bes_o2 (W := nI mW) (H := nI mH) (q := nI pq) (s := nI ps) (dy := 1) (((if_neg (by assumption)).trans (if_pos (by assumption))).symm) ex114 (by assumption)) (besT mW (by omega) mH (by omega) pq hpq ps hps hW2 hH2))), trivial⟩, hS.F ht⟩) hS.2.2 dX11_beside_100
          · skip
            obtain ⟨hp124, hp125⟩ := z_b1 hwr121 c122
            refine lv_aload_n hx hb dX11_beside_87 rfl (lv_at hl 2 rfl) ?_
            refine rd_i (va_runV (As := []) (rest := []) ⟨hx, hb, hml, hown, hts⟩ (n_X11_wide l D cy mW mH mS mP mm mm_now mm_kept mm_isKept mm_refused mm_lineFrom mm_lineTo mm_stands mm_far mm_queue mm_queued mm_meets mm_bytes bl ta tl mm_token mm_value mm_next tk mm_now_f _ (by first | assumption | omega)) (cwV 0 hts gX11_beside_X11_wide rfl rfl rfl (by decide +kernel) ⟨Nat.le_of_ble_eq_true rfl, Nat.le_of_ble_eq_true rfl⟩) (pV (ci := 11) (k := 0) hKA (hP.sub (ws' := [(mm, .inr (11, [.ref mm_now, .ref mm_kept, .ref mm_isKept, .ref mm_refused, .int mm_lineFrom, .int mm_lineTo, .ref mm_stands, .ref mm_far, .ref mm_queue, .int mm_queued, .ref mm_meets, .ref mm_bytes, .int (nI bl), .int (nI ta), .int (nI tl), .int mm_token, .int mm_value, .ref mm_next, .int (nI tk)])), (mm_now, .inl (cy 1, 122, .inl mm_now_f))]) [0, 1] rfl) (hD.sub (ws' := [(mm, .inr (11, [.ref mm_now, .ref mm_kept, .ref mm_isKept, .ref mm_refused, .int mm_lineFrom, .int mm_lineTo, .ref mm_stands, .ref mm_far, .ref mm_queue, .int mm_queued, .ref mm_meets, .ref mm_bytes, .int (nI bl), .int (nI ta), .int (nI tl), .int mm_token, .int mm_value, .ref mm_next, .int (nI tk)])), (mm_now, .inl (cy 1, 122, .inl mm_now_f))]) [0, 1] (by decide) rfl) rfl rfl) rfl rfl hl.1 rfl (lv_room (Nat.le_of_ble_eq_true rfl)) dX11_beside_88 ⟨Nat.le_of_ble_eq_true rfl, Nat.le_of_ble_eq_true rfl⟩) hP hS hA (fun r126 H locs hwr126 hP hS => ?_)
            have hwr126 : r126 = nI mW := hwr126
            subst hwr126
            refine lv_iload hx hb dX11_beside_91 (lv_at hl 0 rfl) ?_
            refine lv_imul hx hb dX11_beside_93 ?_
            refine lv_iload_n hx hb dX11_beside_94 rfl (lv_at hl 1 rfl) ?_
            refine lv_iadd hx hb dX11_beside_95 ?_
            refine lv_goto (tgt := 100) hx hb dX11_beside_96 (by decide) ?_
            refine lv_topi (fun x127 ex127 => ?_)
            subst hQF
            exact W.iret (v := x127) hx hb hr (fun t ht hW => ⟨⟨x127, (), rfl, (bes_sp (Eq.trans (Eq.trans ex127 (bes_in (W := nI mW) (H := nI mH) (q := nI pq) (s := nI ps) (dx := (-1)) (dy := 1) ((if_pos (by assumption)).symm) (((if_neg (by assumption)).trans (if_pos (by assumption))).symm) ex96 ex114 (by assumption) (by assumption) (by assumption) (by assumption))) (besT mW (by omega) mH (by omega) pq hpq ps hps hW2 hH2))), trivial⟩, hS.F ht⟩) hS.2.2 dX11_beside_100
    · skip
      refine lv_iconst (v := (-1)) hx hb dX11_beside_35 (by decide) ?_
      refine lv_goto (tgt := 49) hx hb dX11_beside_36 (by decide) ?_
      refine lv_iadd hx hb dX11_beside_49 ?_
      refine lv_topi (fun x128 ex128 => ?_)
      refine lv_istore (lv' := [(4, .int x128), (3, .int x96), (0, .ref mm), (1, .int (nI pq)), (2, .int (nI ps))]) hx hb dX11_beside_50 hl (by decide) rfl (fun ls hl => ?_)
      refine lv_iload_n hx hb dX11_beside_52 rfl (lv_at hl 1 rfl) ?_
      refine lv_i2l hx hb dX11_beside_53 rfl ?_
      refine lv_lconst (v := 0) hx hb dX11_beside_54 (by decide) ?_
      refine lv_aload_n hx hb dX11_beside_55 rfl (lv_at hl 2 rfl) ?_
      refine rd_i (va_runV (As := []) (rest := [.long 0, .long x96.toInt64]) ⟨hx, hb, hml, hown, hts⟩ (n_X11_wide l D cy mW mH mS mP mm mm_now mm_kept mm_isKept mm_refused mm_lineFrom mm_lineTo mm_stands mm_far mm_queue mm_queued mm_meets mm_bytes bl ta tl mm_token mm_value mm_next tk mm_now_f _ (by first | assumption | omega)) (cwV 0 hts gX11_beside_X11_wide rfl rfl rfl (by decide +kernel) ⟨Nat.le_of_ble_eq_true rfl, Nat.le_of_ble_eq_true rfl⟩) (pV (ci := 11) (k := 0) hKA (hP.sub (ws' := [(mm, .inr (11, [.ref mm_now, .ref mm_kept, .ref mm_isKept, .ref mm_refused, .int mm_lineFrom, .int mm_lineTo, .ref mm_stands, .ref mm_far, .ref mm_queue, .int mm_queued, .ref mm_meets, .ref mm_bytes, .int (nI bl), .int (nI ta), .int (nI tl), .int mm_token, .int mm_value, .ref mm_next, .int (nI tk)])), (mm_now, .inl (cy 1, 122, .inl mm_now_f))]) [0, 1] rfl) (hD.sub (ws' := [(mm, .inr (11, [.ref mm_now, .ref mm_kept, .ref mm_isKept, .ref mm_refused, .int mm_lineFrom, .int mm_lineTo, .ref mm_stands, .ref mm_far, .ref mm_queue, .int mm_queued, .ref mm_meets, .ref mm_bytes, .int (nI bl), .int (nI ta), .int (nI tl), .int mm_token, .int mm_value, .ref mm_next, .int (nI tk)])), (mm_now, .inl (cy 1, 122, .inl mm_now_f))]) [0, 1] (by decide) rfl) rfl rfl) rfl rfl hl.1 rfl (lv_room (Nat.le_of_ble_eq_true rfl)) dX11_beside_56 ⟨Nat.le_of_ble_eq_true rfl, Nat.le_of_ble_eq_true rfl⟩) hP hS hA (fun r129 H locs hwr129 hP hS => ?_)
      have hwr129 : r129 = nI mW := hwr129
      subst hwr129
      refine lv_iconst (v := 1) hx hb dX11_beside_59 (by decide) ?_
      refine lv_isub hx hb dX11_beside_60 ?_
      refine lv_i2l hx hb dX11_beside_61 rfl ?_
      refine rd_i (va_runS (As := [.long x96.toInt64, .long 0, .long (((nI mW) - 1).toInt64)]) (rest := []) ⟨hx, hb, hml, hown, hts⟩ (n_X11_in l D cy x96.toInt64 (0) (((nI mW) - 1).toInt64) _ ) (va_cwS 3 hts gX11_beside_X11_in rfl rfl rfl (by decide +kernel) ⟨Nat.le_of_ble_eq_true rfl, Nat.le_of_ble_eq_true rfl⟩) (pS hKA pE (dE (A := A))) rfl rfl hl.1 rfl (lv_room (Nat.le_of_ble_eq_true rfl)) dX11_beside_62 ⟨Nat.le_of_ble_eq_true rfl, Nat.le_of_ble_eq_true rfl⟩) hP hS hA (fun r130 H locs hwr130 hP hS => ?_)
      have hwr130 : (r130 = 1 ∧ ((0) ≤ x96.toInt64 ∧ x96.toInt64 ≤ (((nI mW) - 1).toInt64))) ∨ (r130 = 0 ∧ (¬ ((0) ≤ x96.toInt64 ∧ x96.toInt64 ≤ (((nI mW) - 1).toInt64)))) := hwr130
      refine lv_if_eq (tgt := 99) hx hb dX11_beside_65 (by decide) (fun c131 => ?_) (fun c131 => ?_)
      · skip
        have hq132 := z_b0 hwr130 c131
        refine lv_iconst (v := (-1)) hx hb dX11_beside_99 (by decide) ?_
        subst hQF
        exact W.iret (v := (-1)) hx hb hr (fun t ht hW => ⟨⟨(-1), (), rfl, (bes_sp (Eq.trans (by first | exact bes_o1 (W := nI mW) (H := nI mH) (q := nI pq) (s := nI ps) (dx := (-1)) ((if_pos (by assumption)).symm) ex96 (by assumption) | exact bes_o2 (W := nI mW) (H := nI mH) (q := nI pq) (s := nI ps) (dy := (-1)) ((if_pos (by assumption)).symm) ex128 (by assumption)) (besT mW (by omega) mH (by omega) pq hpq ps hps hW2 hH2))), trivial⟩, hS.F ht⟩) hS.2.2 dX11_beside_100
      · skip
        obtain ⟨hp133, hp134⟩ := z_b1 hwr130 c131
        refine lv_iload hx hb dX11_beside_68 (lv_at hl 0 rfl) ?_
        refine lv_i2l hx hb dX11_beside_70 rfl ?_
        refine lv_lconst (v := 0) hx hb dX11_beside_71 (by decide) ?_
        refine lv_aload_n hx hb dX11_beside_72 rfl (lv_at hl 2 rfl) ?_
        refine va_get (D := D) (ci := 11) (v := .ref mm_now) (C := RX11) (T := TX11) (N := 19) hx hb hts zi11_ hown hK hP 0 rfl rfl 0 (by decide) z0_ (fun _ h9 => h9) rfl dX11_beside_73 ?_
        refine lv_iconst (v := 1) hx hb dX11_beside_76 (by decide) ?_
        refine my_iald hx hb hK hP 1 1 rfl rfl (by rw [vp_in_iff]; decide +kernel) (k := 1) (by decide +kernel) dX11_beside_77 ?_
        refine W.eq (g2 := F0 m 78 ls [.int (nI mH), .long 0, .long x128.toInt64]) (congrArg (fun v9 : Int32 => F0 m 78 ls [.int v9, .long 0, .long x128.toInt64]) hF.2.1) ?_
        refine lv_iconst (v := 1) hx hb dX11_beside_78 (by decide) ?_
        refine lv_isub hx hb dX11_beside_79 ?_
        refine lv_i2l hx hb dX11_beside_80 rfl ?_
        refine rd_i (va_runS (As := [.long x128.toInt64, .long 0, .long (((nI mH) - 1).toInt64)]) (rest := []) ⟨hx, hb, hml, hown, hts⟩ (n_X11_in l D cy x128.toInt64 (0) (((nI mH) - 1).toInt64) _ ) (va_cwS 3 hts gX11_beside_X11_in rfl rfl rfl (by decide +kernel) ⟨Nat.le_of_ble_eq_true rfl, Nat.le_of_ble_eq_true rfl⟩) (pS hKA pE (dE (A := A))) rfl rfl hl.1 rfl (lv_room (Nat.le_of_ble_eq_true rfl)) dX11_beside_81 ⟨Nat.le_of_ble_eq_true rfl, Nat.le_of_ble_eq_true rfl⟩) hP hS hA (fun r135 H locs hwr135 hP hS => ?_)
        have hwr135 : (r135 = 1 ∧ ((0) ≤ x128.toInt64 ∧ x128.toInt64 ≤ (((nI mH) - 1).toInt64))) ∨ (r135 = 0 ∧ (¬ ((0) ≤ x128.toInt64 ∧ x128.toInt64 ≤ (((nI mH) - 1).toInt64)))) := hwr135
        refine lv_if_eq (tgt := 99) hx hb dX11_beside_84 (by decide) (fun c136 => ?_) (fun c136 => ?_)
        · skip
          have hq137 := z_b0 hwr135 c136
          refine lv_iconst (v := (-1)) hx hb dX11_beside_99 (by decide) ?_
          subst hQF
          exact W.iret (v := (-1)) hx hb hr (fun t ht hW => ⟨⟨(-1), (), rfl, (bes_sp (Eq.trans (by first | exact bes_o1 (W := nI mW) (H := nI mH) (q := nI pq) (s := nI ps) (dx := (-1)) ((if_pos (by assumption)).symm) ex96 (by assumption) | exact bes_o2 (W := nI mW) (H := nI mH) (q := nI pq) (s := nI ps) (dy := (-1)) ((if_pos (by assumption)).symm) ex128 (by assumption)) (besT mW (by omega) mH (by omega) pq hpq ps hps hW2 hH2))), trivial⟩, hS.F ht⟩) hS.2.2 dX11_beside_100
        · skip
          obtain ⟨hp138, hp139⟩ := z_b1 hwr135 c136
          refine lv_aload_n hx hb dX11_beside_87 rfl (lv_at hl 2 rfl) ?_
          refine rd_i (va_runV (As := []) (rest := []) ⟨hx, hb, hml, hown, hts⟩ (n_X11_wide l D cy mW mH mS mP mm mm_now mm_kept mm_isKept mm_refused mm_lineFrom mm_lineTo mm_stands mm_far mm_queue mm_queued mm_meets mm_bytes bl ta tl mm_token mm_value mm_next tk mm_now_f _ (by first | assumption | omega)) (cwV 0 hts gX11_beside_X11_wide rfl rfl rfl (by decide +kernel) ⟨Nat.le_of_ble_eq_true rfl, Nat.le_of_ble_eq_true rfl⟩) (pV (ci := 11) (k := 0) hKA (hP.sub (ws' := [(mm, .inr (11, [.ref mm_now, .ref mm_kept, .ref mm_isKept, .ref mm_refused, .int mm_lineFrom, .int mm_lineTo, .ref mm_stands, .ref mm_far, .ref mm_queue, .int mm_queued, .ref mm_meets, .ref mm_bytes, .int (nI bl), .int (nI ta), .int (nI tl), .int mm_token, .int mm_value, .ref mm_next, .int (nI tk)])), (mm_now, .inl (cy 1, 122, .inl mm_now_f))]) [0, 1] rfl) (hD.sub (ws' := [(mm, .inr (11, [.ref mm_now, .ref mm_kept, .ref mm_isKept, .ref mm_refused, .int mm_lineFrom, .int mm_lineTo, .ref mm_stands, .ref mm_far, .ref mm_queue, .int mm_queued, .ref mm_meets, .ref mm_bytes, .int (nI bl), .int (nI ta), .int (nI tl), .int mm_token, .int mm_value, .ref mm_next, .int (nI tk)])), (mm_now, .inl (cy 1, 122, .inl mm_now_f))]) [0, 1] (by decide) rfl) rfl rfl) rfl rfl hl.1 rfl (lv_room (Nat.le_of_ble_eq_true rfl)) dX11_beside_88 ⟨Nat.le_of_ble_eq_true rfl, Nat.le_of_ble_eq_true rfl⟩) hP hS hA (fun r140 H locs hwr140 hP hS => ?_)
          have hwr140 : r140 = nI mW := hwr140
          subst hwr140
          refine lv_iload hx hb dX11_beside_91 (lv_at hl 0 rfl) ?_
          refine lv_imul hx hb dX11_beside_93 ?_
          refine lv_iload_n hx hb dX11_beside_94 rfl (lv_at hl 1 rfl) ?_
          refine lv_iadd hx hb dX11_beside_95 ?_
          refine lv_goto (tgt := 100) hx hb dX11_beside_96 (by decide) ?_
          refine lv_topi (fun x141 ex141 => ?_)
          subst hQF
          exact W.iret (v := x141) hx hb hr (fun t ht hW => ⟨⟨x141, (), rfl, (bes_sp (Eq.trans (Eq.trans ex141 (bes_in (W := nI mW) (H := nI mH) (q := nI pq) (s := nI ps) (dx := (-1)) (dy := (-1)) ((if_pos (by assumption)).symm) ((if_pos (by assumption)).symm) ex96 ex128 (by assumption) (by assumption) (by assumption) (by assumption))) (besT mW (by omega) mH (by omega) pq hpq ps hps hW2 hH2))), trivial⟩, hS.F ht⟩) hS.2.2 dX11_beside_100

set_option maxHeartbeats 4000000 in
set_option maxRecDepth 100000 in
theorem n_X11_findFar (l : Launch) (D : va_G) (cy : Nat → ClassId) (mW : Nat) (mH : Nat) (mS : Nat) (mP : Nat) (mm_far : Nat) (mm_far_f : Nat → Int32) (mm : Nat) (mm_now : Nat) (mm_kept : Nat) (mm_isKept : Nat) (mm_refused : Nat) (mm_lineFrom : Int32) (mm_lineTo : Int32) (mm_stands : Nat) (mm_queue : Nat) (mm_queued : Int32) (mm_meets : Nat) (mm_bytes : Nat) (bl : Nat) (ta : Nat) (tl : Nat) (mm_token : Int32) (mm_value : Int32) (mm_next : Nat) (tk : Nat) (mm_stands_f : Nat → Int32) (mm_queue_f : Nat → Int32) (mm_now_f : Nat → Int32) (pt : Nat) (sz : Nat) (hF : mV mm_now_f mW mH mS mP) (hpt : pt < mS) : Met l yX11_findFar wsX11_findFar ({ frames := 3, cells := 0, slots := 0, locals := 65 }) (va_Pc [.ref mm, .int (nI pt)] (kPre D cy [(mm_far, .inl (cy 1, 1152, .inl mm_far_f)), (mm, .inr (11, [.ref mm_now, .ref mm_kept, .ref mm_isKept, .ref mm_refused, .int mm_lineFrom, .int mm_lineTo, .ref mm_stands, .ref mm_far, .ref mm_queue, .int mm_queued, .ref mm_meets, .ref mm_bytes, .int (nI bl), .int (nI ta), .int (nI tl), .int mm_token, .int mm_value, .ref mm_next, .int (nI tk)])), (mm_stands, .inl (cy 2, 36, .inl mm_stands_f)), (mm_queue, .inl (cy 1, 1152, .inl mm_queue_f)), (mm_now, .inl (cy 1, 122, .inl mm_now_f))] sz)) (va_Qv (fun (u : (Nat → Int32) × Int32 × (Nat → Int32)) => labI mW mH mS u.1) (fun (u : (Nat → Int32) × Int32 × (Nat → Int32)) t => va_P D vwCl ([(mm_far, .inl (cy 1, 1152, .inl u.1)), (mm, .inr (11, [.ref mm_now, .ref mm_kept, .ref mm_isKept, .ref mm_refused, .int mm_lineFrom, .int mm_lineTo, .ref mm_stands, .ref mm_far, .ref mm_queue, .int u.2.1, .ref mm_meets, .ref mm_bytes, .int (nI bl), .int (nI ta), .int (nI tl), .int mm_token, .int mm_value, .ref mm_next, .int (nI tk)])), (mm_stands, .inl (cy 2, 36, .inl mm_stands_f)), (mm_queue, .inl (cy 1, 1152, .inl u.2.2)), (mm_now, .inl (cy 1, 122, .inl mm_now_f))]) t.heap ∧ va_D (va_A [(mm_far, .inl (cy 1, 1152, .inl mm_far_f)), (mm, .inr (11, [.ref mm_now, .ref mm_kept, .ref mm_isKept, .ref mm_refused, .int mm_lineFrom, .int mm_lineTo, .ref mm_stands, .ref mm_far, .ref mm_queue, .int mm_queued, .ref mm_meets, .ref mm_bytes, .int (nI bl), .int (nI ta), .int (nI tl), .int mm_token, .int mm_value, .ref mm_next, .int (nI tk)])), (mm_stands, .inl (cy 2, 36, .inl mm_stands_f)), (mm_queue, .inl (cy 1, 1152, .inl mm_queue_f)), (mm_now, .inl (cy 1, 122, .inl mm_now_f))] sz) ([(mm_far, .inl (cy 1, 1152, .inl u.1)), (mm, .inr (11, [.ref mm_now, .ref mm_kept, .ref mm_isKept, .ref mm_refused, .int mm_lineFrom, .int mm_lineTo, .ref mm_stands, .ref mm_far, .ref mm_queue, .int u.2.1, .ref mm_meets, .ref mm_bytes, .int (nI bl), .int (nI ta), .int (nI tl), .int mm_token, .int mm_value, .ref mm_next, .int (nI tk)])), (mm_stands, .inl (cy 2, 36, .inl mm_stands_f)), (mm_queue, .inl (cy 1, 1152, .inl u.2.2)), (mm_now, .inl (cy 1, 122, .inl mm_now_f))])) (va_A [(mm_far, .inl (cy 1, 1152, .inl mm_far_f)), (mm, .inr (11, [.ref mm_now, .ref mm_kept, .ref mm_isKept, .ref mm_refused, .int mm_lineFrom, .int mm_lineTo, .ref mm_stands, .ref mm_far, .ref mm_queue, .int mm_queued, .ref mm_meets, .ref mm_bytes, .int (nI bl), .int (nI ta), .int (nI tl), .int mm_token, .int mm_value, .ref mm_next, .int (nI tk)])), (mm_stands, .inl (cy 2, 36, .inl mm_stands_f)), (mm_queue, .inl (cy 1, 1152, .inl mm_queue_f)), (mm_now, .inl (cy 1, 122, .inl mm_now_f))] sz)) 0 0 (va_A [(mm_far, .inl (cy 1, 1152, .inl mm_far_f)), (mm, .inr (11, [.ref mm_now, .ref mm_kept, .ref mm_isKept, .ref mm_refused, .int mm_lineFrom, .int mm_lineTo, .ref mm_stands, .ref mm_far, .ref mm_queue, .int mm_queued, .ref mm_meets, .ref mm_bytes, .int (nI bl), .int (nI ta), .int (nI tl), .int mm_token, .int mm_value, .ref mm_next, .int (nI tk)])), (mm_stands, .inl (cy 2, 36, .inl mm_stands_f)), (mm_queue, .inl (cy 1, 1152, .inl mm_queue_f)), (mm_now, .inl (cy 1, 122, .inl mm_now_f))] sz) := by
  refine Met.ofW (cc := cX11_findFar) (maxL := 5) (ret := none) (by decide) rfl ?_
  intro p e s m args below meth c s₁ B hml hv
  obtain ⟨rfl, hsz, hP, hKA, hD0⟩ := hv
  have hx := B.exec
  have hb := B.bytes
  have hr := B.returns
  have hts := atoms_spec (ws := wsX11_findFar) B.pre
  have hown : s.vm.findClass RX11 = some m.cls := findClass_of_methodNamed B.named
  have hlocks := B.notSynchronized
  subst hsz
  have hK := hKA.1
  have hD := hD0.self (sz := s.heap.size)
  generalize hAe : va_A [(mm_far, .inl (cy 1, 1152, .inl mm_far_f)), (mm, .inr (11, [.ref mm_now, .ref mm_kept, .ref mm_isKept, .ref mm_refused, .int mm_lineFrom, .int mm_lineTo, .ref mm_stands, .ref mm_far, .ref mm_queue, .int mm_queued, .ref mm_meets, .ref mm_bytes, .int (nI bl), .int (nI ta), .int (nI tl), .int mm_token, .int mm_value, .ref mm_next, .int (nI tk)])), (mm_stands, .inl (cy 2, 36, .inl mm_stands_f)), (mm_queue, .inl (cy 1, 1152, .inl mm_queue_f)), (mm_now, .inl (cy 1, 122, .inl mm_now_f))] s.heap.size = A at hD ⊢
  have hA : ∀ q : Nat, s.heap.size ≤ q → A q := fun q h => by rw [← hAe]; exact Or.inr h
  have hS : va_S A s.heap s.heap [] := va_S.rf
  have hP : va_P D vwCl [(mm_far, .inl (cy 1, 1152, .inl mm_far_f)), (mm, .inr (11, [.ref mm_now, .ref mm_kept, .ref mm_isKept, .ref mm_refused, .int mm_lineFrom, .int mm_lineTo, .ref mm_stands, .ref mm_far, .ref mm_queue, .int mm_queued, .ref mm_meets, .ref mm_bytes, .int (nI bl), .int (nI ta), .int (nI tl), .int mm_token, .int mm_value, .ref mm_next, .int (nI tk)])), (mm_stands, .inl (cy 2, 36, .inl mm_stands_f)), (mm_queue, .inl (cy 1, 1152, .inl mm_queue_f)), (mm_now, .inl (cy 1, 122, .inl mm_now_f))] s.heap := hP
  have hl := lv_entry ([.ref mm, .int (nI pt)]) (n := 5) (Nat.le_of_ble_eq_true rfl)
  rw [lg_entry_eq]
  generalize (lg_sl ([.ref mm, .int (nI pt)]) ++ List.replicate (5 - (lg_sl ([.ref mm, .int (nI pt)])).length) Slot.unset).toArray = ls at hl ⊢
  have hl : lv_has ls 5 [(0, .ref mm), (1, .int (nI pt))] := hl
  refine qW (fun QF hQF => ?_)
  have z0_ := hts (.fieldLink RX11 26 "HeardSeenModel" "far" "[I") (by decide +kernel)
  have zi11_ : ∀ w ∈ u_ws RX11 TX11 19, w ∈ wsX11_findFar := by decide +kernel
  have z2_ := hts (.constant RX11 127 100000) (by decide +kernel)
  have z3_ := hts (.fieldLink RX11 169 "HeardSeenModel" "queued" "I") (by decide +kernel)
  have z4_ := hts (.fieldLink RX11 23 "HeardSeenModel" "stands" "[Z") (by decide +kernel)
  have z5_ := hts (.fieldLink RX11 29 "HeardSeenModel" "queue" "[I") (by decide +kernel)
  obtain ⟨hW2, hW6, hH2, hH6, hSe, hS4, hS6, hP5⟩ := hF.rng
  refine lv_iconst (v := 0) hx hb dX11_findFar_0 (by decide) ?_
  refine lv_istore_n (lv' := [(2, .int 0), (0, .ref mm), (1, .int (nI pt))]) hx hb dX11_findFar_1 rfl hl (by decide) rfl (fun ls hl => ?_)
  have lp2 : ∀ (n2 : Nat) (v2_2 : Nat) (y_mm_far_2 : Nat → Int32) (hv2_2 : v2_2 < 2147483648) (hk : v2_2 ≤ 36) (hzz : ∀ j, j < v2_2 → y_mm_far_2 j = 100000), 2147483648 - v2_2 < n2 → ∀ (H : Heap) (locs : List Loc), va_P D vwCl [(mm_far, .inl (cy 1, 1152, .inl y_mm_far_2)), (mm, .inr (11, [.ref mm_now, .ref mm_kept, .ref mm_isKept, .ref mm_refused, .int mm_lineFrom, .int mm_lineTo, .ref mm_stands, .ref mm_far, .ref mm_queue, .int mm_queued, .ref mm_meets, .ref mm_bytes, .int (nI bl), .int (nI ta), .int (nI tl), .int mm_token, .int mm_value, .ref mm_next, .int (nI tk)])), (mm_stands, .inl (cy 2, 36, .inl mm_stands_f)), (mm_queue, .inl (cy 1, 1152, .inl mm_queue_f)), (mm_now, .inl (cy 1, 122, .inl mm_now_f))] H → va_D A [(mm_far, .inl (cy 1, 1152, .inl y_mm_far_2)), (mm, .inr (11, [.ref mm_now, .ref mm_kept, .ref mm_isKept, .ref mm_refused, .int mm_lineFrom, .int mm_lineTo, .ref mm_stands, .ref mm_far, .ref mm_queue, .int mm_queued, .ref mm_meets, .ref mm_bytes, .int (nI bl), .int (nI ta), .int (nI tl), .int mm_token, .int mm_value, .ref mm_next, .int (nI tk)])), (mm_stands, .inl (cy 2, 36, .inl mm_stands_f)), (mm_queue, .inl (cy 1, 1152, .inl mm_queue_f)), (mm_now, .inl (cy 1, 122, .inl mm_now_f))] → va_S A s.heap H locs → ∀ ls : Array Slot, lv_has ls 5 [(2, .int (nI v2_2)), (0, .ref mm), (1, .int (nI pt))] → W p l e (headSpec wsX11_findFar ({ frames := 3, cells := 0, slots := 0, locals := 65 })).room s m [.ref mm, .int (nI pt)].toArray below meth c H locs 0 0 QF (F0 m 2 ls []) := by
    intro n2
    induction n2 with
    | zero => intro v2_2 y_mm_far_2 hv2_2 hk hzz hm; exact absurd hm (Nat.not_lt_zero _)
    | succ n2 ih2 =>
      intro v2_2 y_mm_far_2 hv2_2 hk hzz hm2 H locs hP hD hS ls hl
      refine lv_iload_n hx hb dX11_findFar_2 rfl (lv_at hl 0 rfl) ?_
      refine lv_bipush (v := 36) hx hb dX11_findFar_3 (by decide) ?_
      refine lv_icmp_ge (tgt := 22) hx hb dX11_findFar_5 (by decide) (fun c1 => ?_) (fun c1 => ?_)
      · skip
        have hall : ∀ j, j < 36 → y_mm_far_2 j = 100000 := fun j hj => hzz j (by have q := nge_of (n := 36) rfl hk (by decide) (by assumption); omega)
        refine lv_aload_n hx hb dX11_findFar_22 rfl (lv_at hl 1 rfl) ?_
        refine lv_iconst (v := 0) hx hb dX11_findFar_23 (by decide) ?_
        refine va_put (D := D) (ci := 11) (v := .int 0) (ty := .int) (C := RX11) (T := TX11) (N := 19) hx hb hts zi11_ tyX11 tyX11_ok nmX11 hown hK hP hD hS 1 rfl rfl 9 (by decide) z3_ (fun _ h9 => h9) rfl (by decide +kernel) rfl rfl (Nat.le_of_ble_eq_true rfl) dX11_findFar_24 (fun H locs hP hD hS => ?_)
        have hP : va_P D vwCl [(mm_far, .inl (cy 1, 1152, .inl y_mm_far_2)), (mm, .inr (11, [.ref mm_now, .ref mm_kept, .ref mm_isKept, .ref mm_refused, .int mm_lineFrom, .int mm_lineTo, .ref mm_stands, .ref mm_far, .ref mm_queue, .int 0, .ref mm_meets, .ref mm_bytes, .int (nI bl), .int (nI ta), .int (nI tl), .int mm_token, .int mm_value, .ref mm_next, .int (nI tk)])), (mm_stands, .inl (cy 2, 36, .inl mm_stands_f)), (mm_queue, .inl (cy 1, 1152, .inl mm_queue_f)), (mm_now, .inl (cy 1, 122, .inl mm_now_f))] H := hP
        have hD : va_D A [(mm_far, .inl (cy 1, 1152, .inl y_mm_far_2)), (mm, .inr (11, [.ref mm_now, .ref mm_kept, .ref mm_isKept, .ref mm_refused, .int mm_lineFrom, .int mm_lineTo, .ref mm_stands, .ref mm_far, .ref mm_queue, .int 0, .ref mm_meets, .ref mm_bytes, .int (nI bl), .int (nI ta), .int (nI tl), .int mm_token, .int mm_value, .ref mm_next, .int (nI tk)])), (mm_stands, .inl (cy 2, 36, .inl mm_stands_f)), (mm_queue, .inl (cy 1, 1152, .inl mm_queue_f)), (mm_now, .inl (cy 1, 122, .inl mm_now_f))] := hD
        refine lv_aload_n hx hb dX11_findFar_27 rfl (lv_at hl 1 rfl) ?_
        refine va_get (D := D) (ci := 11) (v := .ref mm_stands) (C := RX11) (T := TX11) (N := 19) hx hb hts zi11_ hown hK hP 1 rfl rfl 6 (by decide) z4_ (fun _ h9 => h9) rfl dX11_findFar_28 ?_
        refine lv_iload_n hx hb dX11_findFar_31 rfl (lv_at hl 2 rfl) ?_
        refine my_zald hx hb hK hP 2 2 rfl rfl (by first | exact in_ge (N := 36) (by decide) (by omega) (by assumption) | exact vp_in_nI (by omega) (by omega)) (nI_clamp (by omega)) dX11_findFar_32 ?_
        have j55 : ∀ (y_mm_far_55 : Nat → Int32) (u_mm_9_55 : Nat) (y_mm_queue_55 : Nat → Int32) (hjq0 : quI mS y_mm_far_55 y_mm_queue_55 u_mm_9_55) (hjl0 : labI mW mH mS y_mm_far_55) (H : Heap) (locs : List Loc), va_P D vwCl [(mm_far, .inl (cy 1, 1152, .inl y_mm_far_55)), (mm, .inr (11, [.ref mm_now, .ref mm_kept, .ref mm_isKept, .ref mm_refused, .int mm_lineFrom, .int mm_lineTo, .ref mm_stands, .ref mm_far, .ref mm_queue, .int (nI u_mm_9_55), .ref mm_meets, .ref mm_bytes, .int (nI bl), .int (nI ta), .int (nI tl), .int mm_token, .int mm_value, .ref mm_next, .int (nI tk)])), (mm_stands, .inl (cy 2, 36, .inl mm_stands_f)), (mm_queue, .inl (cy 1, 1152, .inl y_mm_queue_55)), (mm_now, .inl (cy 1, 122, .inl mm_now_f))] H → va_D A [(mm_far, .inl (cy 1, 1152, .inl y_mm_far_55)), (mm, .inr (11, [.ref mm_now, .ref mm_kept, .ref mm_isKept, .ref mm_refused, .int mm_lineFrom, .int mm_lineTo, .ref mm_stands, .ref mm_far, .ref mm_queue, .int (nI u_mm_9_55), .ref mm_meets, .ref mm_bytes, .int (nI bl), .int (nI ta), .int (nI tl), .int mm_token, .int mm_value, .ref mm_next, .int (nI tk)])), (mm_stands, .inl (cy 2, 36, .inl mm_stands_f)), (mm_queue, .inl (cy 1, 1152, .inl y_mm_queue_55)), (mm_now, .inl (cy 1, 122, .inl mm_now_f))] → va_S A s.heap H locs → ∀ ls : Array Slot, lv_has ls 5 [(2, .int (nI v2_2)), (0, .ref mm), (1, .int (nI pt))] → W p l e (headSpec wsX11_findFar ({ frames := 3, cells := 0, slots := 0, locals := 65 })).room s m [.ref mm, .int (nI pt)].toArray below meth c H locs 0 0 QF (F0 m 55 ls []) := by
          intro y_mm_far_55 u_mm_9_55 y_mm_queue_55 hjq0 hjl0 H locs hP hD hS ls hl
          refine lv_iconst (v := 0) hx hb dX11_findFar_55 (by decide) ?_
          refine lv_istore_n (lv' := [(2, .int 0), (0, .ref mm), (1, .int (nI pt))]) hx hb dX11_findFar_56 rfl hl (by decide) rfl (fun ls hl => ?_)
          have lp57 : ∀ (n57 : Nat) (v2_57 : Nat) (u_mm_9_57 : Nat) (y_mm_far_57 : Nat → Int32) (y_mm_queue_57 : Nat → Int32) (hv2_57 : v2_57 < 2147483648) (hbq : quI mS y_mm_far_57 y_mm_queue_57 u_mm_9_57) (hbl : labI mW mH mS y_mm_far_57), 2147483648 - v2_57 < n57 → ∀ (H : Heap) (locs : List Loc), va_P D vwCl [(mm_far, .inl (cy 1, 1152, .inl y_mm_far_57)), (mm, .inr (11, [.ref mm_now, .ref mm_kept, .ref mm_isKept, .ref mm_refused, .int mm_lineFrom, .int mm_lineTo, .ref mm_stands, .ref mm_far, .ref mm_queue, .int (nI u_mm_9_57), .ref mm_meets, .ref mm_bytes, .int (nI bl), .int (nI ta), .int (nI tl), .int mm_token, .int mm_value, .ref mm_next, .int (nI tk)])), (mm_stands, .inl (cy 2, 36, .inl mm_stands_f)), (mm_queue, .inl (cy 1, 1152, .inl y_mm_queue_57)), (mm_now, .inl (cy 1, 122, .inl mm_now_f))] H → va_D A [(mm_far, .inl (cy 1, 1152, .inl y_mm_far_57)), (mm, .inr (11, [.ref mm_now, .ref mm_kept, .ref mm_isKept, .ref mm_refused, .int mm_lineFrom, .int mm_lineTo, .ref mm_stands, .ref mm_far, .ref mm_queue, .int (nI u_mm_9_57), .ref mm_meets, .ref mm_bytes, .int (nI bl), .int (nI ta), .int (nI tl), .int mm_token, .int mm_value, .ref mm_next, .int (nI tk)])), (mm_stands, .inl (cy 2, 36, .inl mm_stands_f)), (mm_queue, .inl (cy 1, 1152, .inl y_mm_queue_57)), (mm_now, .inl (cy 1, 122, .inl mm_now_f))] → va_S A s.heap H locs → ∀ ls : Array Slot, lv_has ls 5 [(2, .int (nI v2_57)), (0, .ref mm), (1, .int (nI pt))] → W p l e (headSpec wsX11_findFar ({ frames := 3, cells := 0, slots := 0, locals := 65 })).room s m [.ref mm, .int (nI pt)].toArray below meth c H locs 0 0 QF (F0 m 57 ls []) := by
            intro n57
            induction n57 with
            | zero => intro v2_57 u_mm_9_57 y_mm_far_57 y_mm_queue_57 hv2_57 hbq hbl hm; exact absurd hm (Nat.not_lt_zero _)
            | succ n57 ih57 =>
              intro v2_57 u_mm_9_57 y_mm_far_57 y_mm_queue_57 hv2_57 hbq hbl hm57 H locs hP hD hS ls hl
              have hle := quI.le (by omega) hbq
              refine lv_iload_n hx hb dX11_findFar_57 rfl (lv_at hl 0 rfl) ?_
              refine lv_aload_n hx hb dX11_findFar_58 rfl (lv_at hl 1 rfl) ?_
              refine va_get (D := D) (ci := 11) (v := .int (nI u_mm_9_57)) (C := RX11) (T := TX11) (N := 19) hx hb hts zi11_ hown hK hP 1 rfl rfl 9 (by decide) z3_ (fun _ h9 => h9) rfl dX11_findFar_59 ?_
              refine lv_icmp_ge (tgt := 166) hx hb dX11_findFar_62 (by decide) (fun c2 => ?_) (fun c2 => ?_)
              · skip
                subst hQF
                have hP9 := hP
                have hD9 := hD
                exact W.vret hx hb hr (fun t ht hW => ⟨⟨(y_mm_far_57, nI u_mm_9_57, y_mm_queue_57), rfl, hbl, by rw [ht]; exact hP9, hD9⟩, hS.F ht⟩) hS.2.2 dX11_findFar_166
              · skip
                have hk62 := ltM (n := u_mm_9_57) (k := v2_57) (by omega) (by assumption) (by assumption)
                refine lv_iconst (v := 0) hx hb dX11_findFar_65 (by decide) ?_
                refine lv_istore_n (lv' := [(3, .int 0), (2, .int (nI v2_57)), (0, .ref mm), (1, .int (nI pt))]) hx hb dX11_findFar_66 rfl hl (by decide) rfl (fun ls hl => ?_)
                have lp67 : ∀ (n67 : Nat) (v3_67 : Nat) (u_mm_9_67 : Nat) (y_mm_far_67 : Nat → Int32) (y_mm_queue_67 : Nat → Int32) (hv3_67 : v3_67 < 2147483648) (hcq : quI mS y_mm_far_67 y_mm_queue_67 u_mm_9_67) (hcl : labI mW mH mS y_mm_far_67) (hkn : v2_57 < u_mm_9_67), 2147483648 - v3_67 < n67 → ∀ (H : Heap) (locs : List Loc), va_P D vwCl [(mm_far, .inl (cy 1, 1152, .inl y_mm_far_67)), (mm, .inr (11, [.ref mm_now, .ref mm_kept, .ref mm_isKept, .ref mm_refused, .int mm_lineFrom, .int mm_lineTo, .ref mm_stands, .ref mm_far, .ref mm_queue, .int (nI u_mm_9_67), .ref mm_meets, .ref mm_bytes, .int (nI bl), .int (nI ta), .int (nI tl), .int mm_token, .int mm_value, .ref mm_next, .int (nI tk)])), (mm_stands, .inl (cy 2, 36, .inl mm_stands_f)), (mm_queue, .inl (cy 1, 1152, .inl y_mm_queue_67)), (mm_now, .inl (cy 1, 122, .inl mm_now_f))] H → va_D A [(mm_far, .inl (cy 1, 1152, .inl y_mm_far_67)), (mm, .inr (11, [.ref mm_now, .ref mm_kept, .ref mm_isKept, .ref mm_refused, .int mm_lineFrom, .int mm_lineTo, .ref mm_stands, .ref mm_far, .ref mm_queue, .int (nI u_mm_9_67), .ref mm_meets, .ref mm_bytes, .int (nI bl), .int (nI ta), .int (nI tl), .int mm_token, .int mm_value, .ref mm_next, .int (nI tk)])), (mm_stands, .inl (cy 2, 36, .inl mm_stands_f)), (mm_queue, .inl (cy 1, 1152, .inl y_mm_queue_67)), (mm_now, .inl (cy 1, 122, .inl mm_now_f))] → va_S A s.heap H locs → ∀ ls : Array Slot, lv_has ls 5 [(3, .int (nI v3_67)), (2, .int (nI v2_57)), (0, .ref mm), (1, .int (nI pt))] → W p l e (headSpec wsX11_findFar ({ frames := 3, cells := 0, slots := 0, locals := 65 })).room s m [.ref mm, .int (nI pt)].toArray below meth c H locs 0 0 QF (F0 m 67 ls []) := by
                  intro n67
                  induction n67 with
                  | zero => intro v3_67 u_mm_9_67 y_mm_far_67 y_mm_queue_67 hv3_67 hcq hcl hkn hm; exact absurd hm (Nat.not_lt_zero _)
                  | succ n67 ih67 =>
                    intro v3_67 u_mm_9_67 y_mm_far_67 y_mm_queue_67 hv3_67 hcq hcl hkn hm67 H locs hP hD hS ls hl
                    have hle2 := quI.le (by omega) hcq
                    refine lv_iload_n hx hb dX11_findFar_67 rfl (lv_at hl 0 rfl) ?_
                    refine lv_iconst (v := 4) hx hb dX11_findFar_68 (by decide) ?_
                    refine lv_icmp_ge (tgt := 160) hx hb dX11_findFar_69 (by decide) (fun c3 => ?_) (fun c3 => ?_)
                    · skip
                      refine lv_iinc (v := nI (v2_57 + 1)) (lv' := [(2, .int (nI (v2_57 + 1))), (3, .int (nI v3_67)), (0, .ref mm), (1, .int (nI pt))]) hx hb dX11_findFar_160 hl (k := 1) rfl (nI_1 _) (by decide) rfl (fun ls hl => ?_)
                      refine lv_goto (tgt := 57) hx hb dX11_findFar_163 (by decide) ?_
                      exact ih57 (v2_57 + 1) u_mm_9_67 y_mm_far_67 y_mm_queue_67 (by first | omega | exact nlt_max hv2_57 (by assumption)) hcq hcl (by first | omega | (have := nlt_max hv2_57 (by assumption); omega)) _ _ hP hD hS ls (lv_sub hl [0, 2, 3] rfl)
                    · skip
                      have hk69 := ltN (n := 4) (x := 4) (k := v3_67) (by decide) (by assumption) (by assumption)
                      refine lv_aload_n hx hb dX11_findFar_72 rfl (lv_at hl 2 rfl) ?_
                      refine lv_aload_n hx hb dX11_findFar_73 rfl (lv_at hl 2 rfl) ?_
                      refine va_get (D := D) (ci := 11) (v := .ref mm_queue) (C := RX11) (T := TX11) (N := 19) hx hb hts zi11_ hown hK hP 1 rfl rfl 8 (by decide) z5_ (fun _ h9 => h9) rfl dX11_findFar_74 ?_
                      refine lv_iload_n hx hb dX11_findFar_77 rfl (lv_at hl 1 rfl) ?_
                      refine my_iald hx hb hK hP 3 1 rfl rfl (by first | exact in_ge (N := 1152) (by decide) (by omega) (by assumption) | exact vp_in_nI (by omega) (by omega)) (nI_clamp (by omega)) dX11_findFar_78 ?_
                      obtain ⟨jq, dq, hjq, hdq, ejq, edq⟩ := hcq.1 v2_57 (by omega)
                      refine W.eq (g2 := F0 m 79 ls [.int (nI jq), .ref mm]) (congrArg (fun v9 : Int32 => F0 m 79 ls [.int v9, .ref mm]) ejq) ?_
                      refine lv_iload_n hx hb dX11_findFar_79 rfl (lv_at hl 0 rfl) ?_
                      refine rd_i (va_runV (As := [.int (nI jq), .int (nI v3_67)]) (rest := []) ⟨hx, hb, hml, hown, hts⟩ (n_X11_beside l D cy mW mH mS mP mm mm_now mm_kept mm_isKept mm_refused mm_lineFrom mm_lineTo mm_stands mm_far mm_queue (nI u_mm_9_67) mm_meets mm_bytes bl ta tl mm_token mm_value mm_next tk mm_now_f jq v3_67 _ (by first | assumption | omega) (by first | assumption | omega) (by first | assumption | omega)) (cwV 2 hts gX11_findFar_X11_beside rfl rfl rfl (by decide +kernel) ⟨Nat.le_of_ble_eq_true rfl, Nat.le_of_ble_eq_true rfl⟩) (pV (ci := 11) (k := 0) hKA (hP.sub (ws' := [(mm, .inr (11, [.ref mm_now, .ref mm_kept, .ref mm_isKept, .ref mm_refused, .int mm_lineFrom, .int mm_lineTo, .ref mm_stands, .ref mm_far, .ref mm_queue, .int (nI u_mm_9_67), .ref mm_meets, .ref mm_bytes, .int (nI bl), .int (nI ta), .int (nI tl), .int mm_token, .int mm_value, .ref mm_next, .int (nI tk)])), (mm_now, .inl (cy 1, 122, .inl mm_now_f))]) [1, 4] rfl) (hD.sub (ws' := [(mm, .inr (11, [.ref mm_now, .ref mm_kept, .ref mm_isKept, .ref mm_refused, .int mm_lineFrom, .int mm_lineTo, .ref mm_stands, .ref mm_far, .ref mm_queue, .int (nI u_mm_9_67), .ref mm_meets, .ref mm_bytes, .int (nI bl), .int (nI ta), .int (nI tl), .int mm_token, .int mm_value, .ref mm_next, .int (nI tk)])), (mm_now, .inl (cy 1, 122, .inl mm_now_f))]) [1, 4] (by decide) rfl) rfl rfl) rfl rfl hl.1 rfl (lv_room (Nat.le_of_ble_eq_true rfl)) dX11_findFar_80 ⟨Nat.le_of_ble_eq_true rfl, Nat.le_of_ble_eq_true rfl⟩) hP hS hA (fun r4 H locs hwr4 hP hS => ?_)
                      have hwr4 : (r4 = -1 ∧ bsN mW mH jq v3_67 = none) ∨ ∃ j : Nat, r4 = nI j ∧ bsN mW mH jq v3_67 = some j := hwr4
                      rcases hwr4 with ⟨e9, hbs⟩ | ⟨jb, e9, hbs⟩
                      · skip
                        refine W.eq (g2 := F0 m 83 ls [.int (-1)]) (congrArg (fun v9 : Int32 => F0 m 83 ls [.int v9]) e9) ?_
                        refine lv_istore (lv' := [(4, .int (-1)), (3, .int (nI v3_67)), (2, .int (nI v2_57)), (0, .ref mm), (1, .int (nI pt))]) hx hb dX11_findFar_83 hl (by decide) rfl (fun ls hl => ?_)
                        refine lv_iload hx hb dX11_findFar_85 (lv_at hl 0 rfl) ?_
                        refine lv_iconst (v := (-1)) hx hb dX11_findFar_87 (by decide) ?_
                        refine lv_icmp_eq (tgt := 154) hx hb dX11_findFar_88 (by decide) (fun c5 => ?_) (fun c5 => absurd c5 (by decide))
                        refine lv_iinc (v := nI (v3_67 + 1)) (lv' := [(3, .int (nI (v3_67 + 1))), (4, .int (-1)), (2, .int (nI v2_57)), (0, .ref mm), (1, .int (nI pt))]) hx hb dX11_findFar_154 hl (k := 1) rfl (nI_1 _) (by decide) rfl (fun ls hl => ?_)
                        refine lv_goto (tgt := 67) hx hb dX11_findFar_157 (by decide) ?_
                        exact ih67 (v3_67 + 1) u_mm_9_67 y_mm_far_67 y_mm_queue_67 (by first | omega | exact nlt_max hv3_67 (by assumption)) hcq hcl (by omega) (by first | omega | (have := nlt_max hv3_67 (by assumption); omega)) _ _ hP hD hS ls (lv_sub hl [0, 2, 3, 4] rfl)
                      · skip
                        have hjb : jb < mS := by rw [hSe]; exact bs_lt ⟨hW2, hW6⟩ ⟨hH2, hH6⟩ (by omega) (by omega) hbs
                        refine W.eq (g2 := F0 m 83 ls [.int (nI jb)]) (congrArg (fun v9 : Int32 => F0 m 83 ls [.int v9]) e9) ?_
                        refine lv_istore (lv' := [(4, .int (nI jb)), (3, .int (nI v3_67)), (2, .int (nI v2_57)), (0, .ref mm), (1, .int (nI pt))]) hx hb dX11_findFar_83 hl (by decide) rfl (fun ls hl => ?_)
                        refine lv_iload hx hb dX11_findFar_85 (lv_at hl 0 rfl) ?_
                        refine lv_iconst (v := (-1)) hx hb dX11_findFar_87 (by decide) ?_
                        refine lv_icmp_eq (tgt := 154) hx hb dX11_findFar_88 (by decide) (fun c6 => absurd c6 (nI_m1 (by omega))) (fun c6 => ?_)
                        refine lv_aload_n hx hb dX11_findFar_91 rfl (lv_at hl 3 rfl) ?_
                        refine va_get (D := D) (ci := 11) (v := .ref mm_stands) (C := RX11) (T := TX11) (N := 19) hx hb hts zi11_ hown hK hP 1 rfl rfl 6 (by decide) z4_ (fun _ h9 => h9) rfl dX11_findFar_92 ?_
                        refine lv_iload hx hb dX11_findFar_95 (lv_at hl 0 rfl) ?_
                        refine my_zald hx hb hK hP 2 2 rfl rfl (by first | exact in_ge (N := 36) (by decide) (by omega) (by assumption) | exact vp_in_nI (by omega) (by omega)) (nI_clamp (by omega)) dX11_findFar_97 ?_
                        refine lv_if_eq (tgt := 154) hx hb dX11_findFar_98 (by decide) (fun c7 => ?_) (fun c7 => ?_)
                        · skip
                          refine lv_iinc (v := nI (v3_67 + 1)) (lv' := [(3, .int (nI (v3_67 + 1))), (4, .int (nI jb)), (2, .int (nI v2_57)), (0, .ref mm), (1, .int (nI pt))]) hx hb dX11_findFar_154 hl (k := 1) rfl (nI_1 _) (by decide) rfl (fun ls hl => ?_)
                          refine lv_goto (tgt := 67) hx hb dX11_findFar_157 (by decide) ?_
                          exact ih67 (v3_67 + 1) u_mm_9_67 y_mm_far_67 y_mm_queue_67 (by first | omega | exact nlt_max hv3_67 (by assumption)) hcq hcl (by omega) (by first | omega | (have := nlt_max hv3_67 (by assumption); omega)) _ _ hP hD hS ls (lv_sub hl [0, 2, 3, 4] rfl)
                        · skip
                          refine lv_aload_n hx hb dX11_findFar_101 rfl (lv_at hl 3 rfl) ?_
                          refine va_get (D := D) (ci := 11) (v := .ref mm_far) (C := RX11) (T := TX11) (N := 19) hx hb hts zi11_ hown hK hP 1 rfl rfl 7 (by decide) z0_ (fun _ h9 => h9) rfl dX11_findFar_102 ?_
                          refine lv_iload hx hb dX11_findFar_105 (lv_at hl 0 rfl) ?_
                          refine my_iald hx hb hK hP 0 1 rfl rfl (by first | exact in_ge (N := 1152) (by decide) (by omega) (by assumption) | exact vp_in_nI (by omega) (by omega)) (nI_clamp (by omega)) dX11_findFar_107 ?_
                          refine lv_ldc hx hb hown z2_ dX11_findFar_108 ?_
                          refine lv_icmp_ne (tgt := 154) hx hb dX11_findFar_110 (by decide) (fun c8 => ?_) (fun c8 => ?_)
                          · skip
                            refine lv_iinc (v := nI (v3_67 + 1)) (lv' := [(3, .int (nI (v3_67 + 1))), (4, .int (nI jb)), (2, .int (nI v2_57)), (0, .ref mm), (1, .int (nI pt))]) hx hb dX11_findFar_154 hl (k := 1) rfl (nI_1 _) (by decide) rfl (fun ls hl => ?_)
                            refine lv_goto (tgt := 67) hx hb dX11_findFar_157 (by decide) ?_
                            exact ih67 (v3_67 + 1) u_mm_9_67 y_mm_far_67 y_mm_queue_67 (by first | omega | exact nlt_max hv3_67 (by assumption)) hcq hcl (by omega) (by first | omega | (have := nlt_max hv3_67 (by assumption); omega)) _ _ hP hD hS ls (lv_sub hl [0, 2, 3, 4] rfl)
                          · skip
                            refine lv_aload_n hx hb dX11_findFar_113 rfl (lv_at hl 3 rfl) ?_
                            refine va_get (D := D) (ci := 11) (v := .ref mm_far) (C := RX11) (T := TX11) (N := 19) hx hb hts zi11_ hown hK hP 1 rfl rfl 7 (by decide) z0_ (fun _ h9 => h9) rfl dX11_findFar_114 ?_
                            refine lv_iload hx hb dX11_findFar_117 (lv_at hl 0 rfl) ?_
                            refine lv_aload_n hx hb dX11_findFar_119 rfl (lv_at hl 3 rfl) ?_
                            refine va_get (D := D) (ci := 11) (v := .ref mm_far) (C := RX11) (T := TX11) (N := 19) hx hb hts zi11_ hown hK hP 1 rfl rfl 7 (by decide) z0_ (fun _ h9 => h9) rfl dX11_findFar_120 ?_
                            refine lv_aload_n hx hb dX11_findFar_123 rfl (lv_at hl 3 rfl) ?_
                            refine va_get (D := D) (ci := 11) (v := .ref mm_queue) (C := RX11) (T := TX11) (N := 19) hx hb hts zi11_ hown hK hP 1 rfl rfl 8 (by decide) z5_ (fun _ h9 => h9) rfl dX11_findFar_124 ?_
                            refine lv_iload_n hx hb dX11_findFar_127 rfl (lv_at hl 2 rfl) ?_
                            refine my_iald hx hb hK hP 3 1 rfl rfl (by first | exact in_ge (N := 1152) (by decide) (by omega) (by assumption) | exact vp_in_nI (by omega) (by omega)) (nI_clamp (by omega)) dX11_findFar_128 ?_
                            refine W.eq (g2 := F0 m 129 ls [.int (nI jq), .ref mm_far, .int (nI jb), .ref mm_far]) (congrArg (fun v9 : Int32 => F0 m 129 ls [.int v9, .ref mm_far, .int (nI jb), .ref mm_far]) ejq) ?_
                            refine my_iald hx hb hK hP 0 1 rfl rfl (by first | exact in_ge (N := 1152) (by decide) (by omega) (by assumption) | exact vp_in_nI (by omega) (by omega)) (nI_clamp (by omega)) dX11_findFar_129 ?_
                            refine W.eq (g2 := F0 m 130 ls [.int (nI dq), .int (nI jb), .ref mm_far]) (congrArg (fun v9 : Int32 => F0 m 130 ls [.int v9, .int (nI jb), .ref mm_far]) edq) ?_
                            refine lv_iconst (v := 1) hx hb dX11_findFar_130 (by decide) ?_
                            refine lv_iadd hx hb dX11_findFar_131 ?_
                            refine lv_topi (fun x9 ex9 => ?_)
                            obtain rfl : x9 = nI (dq + 1) := by rw [ex9]; exact nI_add _ _
                            refine my_iast hx hb hK hP hD hS 0 1 rfl rfl (by first | exact in_ge (N := 1152) (by decide) (by omega) (by assumption) | exact vp_in_nI (by omega) (by omega)) (nI_clamp (by omega)) dX11_findFar_132 (fun H locs hP hD hS => ?_)
                            have hP : va_P D vwCl [(mm_far, .inl (cy 1, 1152, .inl (upd y_mm_far_67 jb (nI (dq + 1))))), (mm, .inr (11, [.ref mm_now, .ref mm_kept, .ref mm_isKept, .ref mm_refused, .int mm_lineFrom, .int mm_lineTo, .ref mm_stands, .ref mm_far, .ref mm_queue, .int (nI u_mm_9_67), .ref mm_meets, .ref mm_bytes, .int (nI bl), .int (nI ta), .int (nI tl), .int mm_token, .int mm_value, .ref mm_next, .int (nI tk)])), (mm_stands, .inl (cy 2, 36, .inl mm_stands_f)), (mm_queue, .inl (cy 1, 1152, .inl y_mm_queue_67)), (mm_now, .inl (cy 1, 122, .inl mm_now_f))] H := hP
                            have hD : va_D A [(mm_far, .inl (cy 1, 1152, .inl (upd y_mm_far_67 jb (nI (dq + 1))))), (mm, .inr (11, [.ref mm_now, .ref mm_kept, .ref mm_isKept, .ref mm_refused, .int mm_lineFrom, .int mm_lineTo, .ref mm_stands, .ref mm_far, .ref mm_queue, .int (nI u_mm_9_67), .ref mm_meets, .ref mm_bytes, .int (nI bl), .int (nI ta), .int (nI tl), .int mm_token, .int mm_value, .ref mm_next, .int (nI tk)])), (mm_stands, .inl (cy 2, 36, .inl mm_stands_f)), (mm_queue, .inl (cy 1, 1152, .inl y_mm_queue_67)), (mm_now, .inl (cy 1, 122, .inl mm_now_f))] := hD
                            refine lv_aload_n hx hb dX11_findFar_133 rfl (lv_at hl 3 rfl) ?_
                            refine va_get (D := D) (ci := 11) (v := .ref mm_queue) (C := RX11) (T := TX11) (N := 19) hx hb hts zi11_ hown hK hP 1 rfl rfl 8 (by decide) z5_ (fun _ h9 => h9) rfl dX11_findFar_134 ?_
                            refine lv_aload_n hx hb dX11_findFar_137 rfl (lv_at hl 3 rfl) ?_
                            refine va_get (D := D) (ci := 11) (v := .int (nI u_mm_9_67)) (C := RX11) (T := TX11) (N := 19) hx hb hts zi11_ hown hK hP 1 rfl rfl 9 (by decide) z3_ (fun _ h9 => h9) rfl dX11_findFar_138 ?_
                            refine lv_iload hx hb dX11_findFar_141 (lv_at hl 0 rfl) ?_
                            refine my_iast hx hb hK hP hD hS 3 1 rfl rfl (by first | exact in_ge (N := 1152) (by decide) (by omega) (by assumption) | exact vp_in_nI (by omega) (by omega)) (nI_clamp (by omega)) dX11_findFar_143 (fun H locs hP hD hS => ?_)
                            have hP : va_P D vwCl [(mm_far, .inl (cy 1, 1152, .inl (upd y_mm_far_67 jb (nI (dq + 1))))), (mm, .inr (11, [.ref mm_now, .ref mm_kept, .ref mm_isKept, .ref mm_refused, .int mm_lineFrom, .int mm_lineTo, .ref mm_stands, .ref mm_far, .ref mm_queue, .int (nI u_mm_9_67), .ref mm_meets, .ref mm_bytes, .int (nI bl), .int (nI ta), .int (nI tl), .int mm_token, .int mm_value, .ref mm_next, .int (nI tk)])), (mm_stands, .inl (cy 2, 36, .inl mm_stands_f)), (mm_queue, .inl (cy 1, 1152, .inl (upd y_mm_queue_67 u_mm_9_67 (nI jb)))), (mm_now, .inl (cy 1, 122, .inl mm_now_f))] H := hP
                            have hD : va_D A [(mm_far, .inl (cy 1, 1152, .inl (upd y_mm_far_67 jb (nI (dq + 1))))), (mm, .inr (11, [.ref mm_now, .ref mm_kept, .ref mm_isKept, .ref mm_refused, .int mm_lineFrom, .int mm_lineTo, .ref mm_stands, .ref mm_far, .ref mm_queue, .int (nI u_mm_9_67), .ref mm_meets, .ref mm_bytes, .int (nI bl), .int (nI ta), .int (nI tl), .int mm_token, .int mm_value, .ref mm_next, .int (nI tk)])), (mm_stands, .inl (cy 2, 36, .inl mm_stands_f)), (mm_queue, .inl (cy 1, 1152, .inl (upd y_mm_queue_67 u_mm_9_67 (nI jb)))), (mm_now, .inl (cy 1, 122, .inl mm_now_f))] := hD
                            refine lv_aload_n hx hb dX11_findFar_144 rfl (lv_at hl 3 rfl) ?_
                            refine lv_dup hx hb dX11_findFar_145 rfl ?_
                            refine va_get (D := D) (ci := 11) (v := .int (nI u_mm_9_67)) (C := RX11) (T := TX11) (N := 19) hx hb hts zi11_ hown hK hP 1 rfl rfl 9 (by decide) z3_ (fun _ h9 => h9) rfl dX11_findFar_146 ?_
                            refine lv_iconst (v := 1) hx hb dX11_findFar_149 (by decide) ?_
                            refine lv_iadd hx hb dX11_findFar_150 ?_
                            refine lv_topi (fun x10 ex10 => ?_)
                            obtain rfl : x10 = nI (u_mm_9_67 + 1) := by rw [ex10]; exact nI_add _ _
                            refine va_put (D := D) (ci := 11) (v := .int (nI (u_mm_9_67 + 1))) (ty := .int) (C := RX11) (T := TX11) (N := 19) hx hb hts zi11_ tyX11 tyX11_ok nmX11 hown hK hP hD hS 1 rfl rfl 9 (by decide) z3_ (fun _ h9 => h9) rfl (by decide +kernel) rfl rfl (Nat.le_of_ble_eq_true rfl) dX11_findFar_151 (fun H locs hP hD hS => ?_)
                            have hP : va_P D vwCl [(mm_far, .inl (cy 1, 1152, .inl (upd y_mm_far_67 jb (nI (dq + 1))))), (mm, .inr (11, [.ref mm_now, .ref mm_kept, .ref mm_isKept, .ref mm_refused, .int mm_lineFrom, .int mm_lineTo, .ref mm_stands, .ref mm_far, .ref mm_queue, .int (nI (u_mm_9_67 + 1)), .ref mm_meets, .ref mm_bytes, .int (nI bl), .int (nI ta), .int (nI tl), .int mm_token, .int mm_value, .ref mm_next, .int (nI tk)])), (mm_stands, .inl (cy 2, 36, .inl mm_stands_f)), (mm_queue, .inl (cy 1, 1152, .inl (upd y_mm_queue_67 u_mm_9_67 (nI jb)))), (mm_now, .inl (cy 1, 122, .inl mm_now_f))] H := hP
                            have hD : va_D A [(mm_far, .inl (cy 1, 1152, .inl (upd y_mm_far_67 jb (nI (dq + 1))))), (mm, .inr (11, [.ref mm_now, .ref mm_kept, .ref mm_isKept, .ref mm_refused, .int mm_lineFrom, .int mm_lineTo, .ref mm_stands, .ref mm_far, .ref mm_queue, .int (nI (u_mm_9_67 + 1)), .ref mm_meets, .ref mm_bytes, .int (nI bl), .int (nI ta), .int (nI tl), .int mm_token, .int mm_value, .ref mm_next, .int (nI tk)])), (mm_stands, .inl (cy 2, 36, .inl mm_stands_f)), (mm_queue, .inl (cy 1, 1152, .inl (upd y_mm_queue_67 u_mm_9_67 (nI jb)))), (mm_now, .inl (cy 1, 122, .inl mm_now_f))] := hD
                            refine lv_iinc (v := nI (v3_67 + 1)) (lv' := [(3, .int (nI (v3_67 + 1))), (4, .int (nI jb)), (2, .int (nI v2_57)), (0, .ref mm), (1, .int (nI pt))]) hx hb dX11_findFar_154 hl (k := 1) rfl (nI_1 _) (by decide) rfl (fun ls hl => ?_)
                            refine lv_goto (tgt := 67) hx hb dX11_findFar_157 (by decide) ?_
                            exact ih67 (v3_67 + 1) (u_mm_9_67 + 1) (upd y_mm_far_67 jb (nI (dq + 1))) (upd y_mm_queue_67 u_mm_9_67 (nI jb)) (by first | omega | exact nlt_max hv3_67 (by assumption)) (quI.push hcq (by omega) (by omega) (by omega) (by omega) (by assumption) rfl rfl) (labI.push (s := 3 - v3_67) hcl (by assumption) (by omega) (by omega) hjq (bs_back ⟨hW2, hW6⟩ ⟨hH2, hH6⟩ (by omega) (by omega) (hSe ▸ hjq) hbs) edq rfl) (by omega) (by first | omega | (have := nlt_max hv3_67 (by assumption); omega)) _ _ hP hD hS ls (lv_sub hl [0, 2, 3, 4] rfl)
                exact lp67 (2147483648 - 0 + 1) 0 u_mm_9_57 y_mm_far_57 y_mm_queue_57 (by first | omega | exact nlt_max (by assumption) (by assumption)) hbq hbl (by omega) (Nat.lt_succ_self _) _ _ hP hD hS ls hl
          exact lp57 (2147483648 - 0 + 1) 0 u_mm_9_55 y_mm_far_55 y_mm_queue_55 (by first | omega | exact nlt_max (by assumption) (by assumption)) hjq0 hjl0 (Nat.lt_succ_self _) _ _ hP hD hS ls hl
        refine lv_if_eq (tgt := 55) hx hb dX11_findFar_33 (by decide) (fun c11 => ?_) (fun c11 => ?_)
        · skip
          exact j55 y_mm_far_2 0 mm_queue_f quI.zero (labI.zero hall) _ _ hP hD hS ls hl
        · skip
          refine lv_aload_n hx hb dX11_findFar_36 rfl (lv_at hl 1 rfl) ?_
          refine va_get (D := D) (ci := 11) (v := .ref mm_far) (C := RX11) (T := TX11) (N := 19) hx hb hts zi11_ hown hK hP 1 rfl rfl 7 (by decide) z0_ (fun _ h9 => h9) rfl dX11_findFar_37 ?_
          refine lv_iload_n hx hb dX11_findFar_40 rfl (lv_at hl 2 rfl) ?_
          refine lv_iconst (v := 0) hx hb dX11_findFar_41 (by decide) ?_
          refine my_iast hx hb hK hP hD hS 0 1 rfl rfl (by first | exact in_ge (N := 1152) (by decide) (by omega) (by assumption) | exact vp_in_nI (by omega) (by omega)) (nI_clamp (by omega)) dX11_findFar_42 (fun H locs hP hD hS => ?_)
          have hP : va_P D vwCl [(mm_far, .inl (cy 1, 1152, .inl (upd y_mm_far_2 pt 0))), (mm, .inr (11, [.ref mm_now, .ref mm_kept, .ref mm_isKept, .ref mm_refused, .int mm_lineFrom, .int mm_lineTo, .ref mm_stands, .ref mm_far, .ref mm_queue, .int 0, .ref mm_meets, .ref mm_bytes, .int (nI bl), .int (nI ta), .int (nI tl), .int mm_token, .int mm_value, .ref mm_next, .int (nI tk)])), (mm_stands, .inl (cy 2, 36, .inl mm_stands_f)), (mm_queue, .inl (cy 1, 1152, .inl mm_queue_f)), (mm_now, .inl (cy 1, 122, .inl mm_now_f))] H := hP
          have hD : va_D A [(mm_far, .inl (cy 1, 1152, .inl (upd y_mm_far_2 pt 0))), (mm, .inr (11, [.ref mm_now, .ref mm_kept, .ref mm_isKept, .ref mm_refused, .int mm_lineFrom, .int mm_lineTo, .ref mm_stands, .ref mm_far, .ref mm_queue, .int 0, .ref mm_meets, .ref mm_bytes, .int (nI bl), .int (nI ta), .int (nI tl), .int mm_token, .int mm_value, .ref mm_next, .int (nI tk)])), (mm_stands, .inl (cy 2, 36, .inl mm_stands_f)), (mm_queue, .inl (cy 1, 1152, .inl mm_queue_f)), (mm_now, .inl (cy 1, 122, .inl mm_now_f))] := hD
          refine lv_aload_n hx hb dX11_findFar_43 rfl (lv_at hl 1 rfl) ?_
          refine va_get (D := D) (ci := 11) (v := .ref mm_queue) (C := RX11) (T := TX11) (N := 19) hx hb hts zi11_ hown hK hP 1 rfl rfl 8 (by decide) z5_ (fun _ h9 => h9) rfl dX11_findFar_44 ?_
          refine lv_iconst (v := 0) hx hb dX11_findFar_47 (by decide) ?_
          refine lv_iload_n hx hb dX11_findFar_48 rfl (lv_at hl 2 rfl) ?_
          refine my_iast hx hb hK hP hD hS 3 1 rfl rfl (by rw [vp_in_iff]; decide +kernel) (k := 0) (by decide +kernel) dX11_findFar_49 (fun H locs hP hD hS => ?_)
          have hP : va_P D vwCl [(mm_far, .inl (cy 1, 1152, .inl (upd y_mm_far_2 pt 0))), (mm, .inr (11, [.ref mm_now, .ref mm_kept, .ref mm_isKept, .ref mm_refused, .int mm_lineFrom, .int mm_lineTo, .ref mm_stands, .ref mm_far, .ref mm_queue, .int 0, .ref mm_meets, .ref mm_bytes, .int (nI bl), .int (nI ta), .int (nI tl), .int mm_token, .int mm_value, .ref mm_next, .int (nI tk)])), (mm_stands, .inl (cy 2, 36, .inl mm_stands_f)), (mm_queue, .inl (cy 1, 1152, .inl (upd mm_queue_f 0 (nI pt)))), (mm_now, .inl (cy 1, 122, .inl mm_now_f))] H := hP
          have hD : va_D A [(mm_far, .inl (cy 1, 1152, .inl (upd y_mm_far_2 pt 0))), (mm, .inr (11, [.ref mm_now, .ref mm_kept, .ref mm_isKept, .ref mm_refused, .int mm_lineFrom, .int mm_lineTo, .ref mm_stands, .ref mm_far, .ref mm_queue, .int 0, .ref mm_meets, .ref mm_bytes, .int (nI bl), .int (nI ta), .int (nI tl), .int mm_token, .int mm_value, .ref mm_next, .int (nI tk)])), (mm_stands, .inl (cy 2, 36, .inl mm_stands_f)), (mm_queue, .inl (cy 1, 1152, .inl (upd mm_queue_f 0 (nI pt)))), (mm_now, .inl (cy 1, 122, .inl mm_now_f))] := hD
          refine lv_aload_n hx hb dX11_findFar_50 rfl (lv_at hl 1 rfl) ?_
          refine lv_iconst (v := 1) hx hb dX11_findFar_51 (by decide) ?_
          refine va_put (D := D) (ci := 11) (v := .int 1) (ty := .int) (C := RX11) (T := TX11) (N := 19) hx hb hts zi11_ tyX11 tyX11_ok nmX11 hown hK hP hD hS 1 rfl rfl 9 (by decide) z3_ (fun _ h9 => h9) rfl (by decide +kernel) rfl rfl (Nat.le_of_ble_eq_true rfl) dX11_findFar_52 (fun H locs hP hD hS => ?_)
          have hP : va_P D vwCl [(mm_far, .inl (cy 1, 1152, .inl (upd y_mm_far_2 pt 0))), (mm, .inr (11, [.ref mm_now, .ref mm_kept, .ref mm_isKept, .ref mm_refused, .int mm_lineFrom, .int mm_lineTo, .ref mm_stands, .ref mm_far, .ref mm_queue, .int 1, .ref mm_meets, .ref mm_bytes, .int (nI bl), .int (nI ta), .int (nI tl), .int mm_token, .int mm_value, .ref mm_next, .int (nI tk)])), (mm_stands, .inl (cy 2, 36, .inl mm_stands_f)), (mm_queue, .inl (cy 1, 1152, .inl (upd mm_queue_f 0 (nI pt)))), (mm_now, .inl (cy 1, 122, .inl mm_now_f))] H := hP
          have hD : va_D A [(mm_far, .inl (cy 1, 1152, .inl (upd y_mm_far_2 pt 0))), (mm, .inr (11, [.ref mm_now, .ref mm_kept, .ref mm_isKept, .ref mm_refused, .int mm_lineFrom, .int mm_lineTo, .ref mm_stands, .ref mm_far, .ref mm_queue, .int 1, .ref mm_meets, .ref mm_bytes, .int (nI bl), .int (nI ta), .int (nI tl), .int mm_token, .int mm_value, .ref mm_next, .int (nI tk)])), (mm_stands, .inl (cy 2, 36, .inl mm_stands_f)), (mm_queue, .inl (cy 1, 1152, .inl (upd mm_queue_f 0 (nI pt)))), (mm_now, .inl (cy 1, 122, .inl mm_now_f))] := hD
          exact j55 (upd y_mm_far_2 pt 0) 1 (upd mm_queue_f 0 (nI pt)) (quI.one hpt rfl rfl) (labI.one hall rfl) _ _ hP hD hS ls hl
      · skip
        have hk5 := ltN (n := 36) (x := 36) (k := v2_2) (by decide) (by assumption) (by assumption)
        refine lv_aload_n hx hb dX11_findFar_8 rfl (lv_at hl 1 rfl) ?_
        refine va_get (D := D) (ci := 11) (v := .ref mm_far) (C := RX11) (T := TX11) (N := 19) hx hb hts zi11_ hown hK hP 1 rfl rfl 7 (by decide) z0_ (fun _ h9 => h9) rfl dX11_findFar_9 ?_
        refine lv_iload_n hx hb dX11_findFar_12 rfl (lv_at hl 0 rfl) ?_
        refine lv_ldc hx hb hown z2_ dX11_findFar_13 ?_
        refine my_iast hx hb hK hP hD hS 0 1 rfl rfl (by first | exact in_ge (N := 1152) (by decide) (by omega) (by assumption) | exact vp_in_nI (by omega) (by omega)) (nI_clamp (by omega)) dX11_findFar_15 (fun H locs hP hD hS => ?_)
        have hP : va_P D vwCl [(mm_far, .inl (cy 1, 1152, .inl (upd y_mm_far_2 v2_2 100000))), (mm, .inr (11, [.ref mm_now, .ref mm_kept, .ref mm_isKept, .ref mm_refused, .int mm_lineFrom, .int mm_lineTo, .ref mm_stands, .ref mm_far, .ref mm_queue, .int mm_queued, .ref mm_meets, .ref mm_bytes, .int (nI bl), .int (nI ta), .int (nI tl), .int mm_token, .int mm_value, .ref mm_next, .int (nI tk)])), (mm_stands, .inl (cy 2, 36, .inl mm_stands_f)), (mm_queue, .inl (cy 1, 1152, .inl mm_queue_f)), (mm_now, .inl (cy 1, 122, .inl mm_now_f))] H := hP
        have hD : va_D A [(mm_far, .inl (cy 1, 1152, .inl (upd y_mm_far_2 v2_2 100000))), (mm, .inr (11, [.ref mm_now, .ref mm_kept, .ref mm_isKept, .ref mm_refused, .int mm_lineFrom, .int mm_lineTo, .ref mm_stands, .ref mm_far, .ref mm_queue, .int mm_queued, .ref mm_meets, .ref mm_bytes, .int (nI bl), .int (nI ta), .int (nI tl), .int mm_token, .int mm_value, .ref mm_next, .int (nI tk)])), (mm_stands, .inl (cy 2, 36, .inl mm_stands_f)), (mm_queue, .inl (cy 1, 1152, .inl mm_queue_f)), (mm_now, .inl (cy 1, 122, .inl mm_now_f))] := hD
        refine lv_iinc (v := nI (v2_2 + 1)) (lv' := [(2, .int (nI (v2_2 + 1))), (0, .ref mm), (1, .int (nI pt))]) hx hb dX11_findFar_16 hl (k := 0) rfl (nI_1 _) (by decide) rfl (fun ls hl => ?_)
        refine lv_goto (tgt := 2) hx hb dX11_findFar_19 (by decide) ?_
        exact ih2 (v2_2 + 1) (upd y_mm_far_2 v2_2 100000) (by first | omega | exact nlt_max hv2_2 (by assumption)) (by omega) (fun j hj => if q : j = v2_2 then (by subst q; exact ur_eq _ _ _) else (by rw [ur_ne _ _ q]; exact hzz j (by omega))) (by first | omega | (have := nlt_max hv2_2 (by assumption); omega)) _ _ hP hD hS ls hl
  exact lp2 (2147483648 - 0 + 1) 0 mm_far_f (by first | omega | exact nlt_max (by assumption) (by assumption)) (by omega) (fun j hj => absurd hj (Nat.not_lt_zero j)) (Nat.lt_succ_self _) _ _ hP hD hS ls hl
