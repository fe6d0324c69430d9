theorem dX11_lesson_0 : decode cX11_lesson 0 = .ok (.aload_n 0, 1) := by decide +kernel
theorem dX11_lesson_1 : decode cX11_lesson 1 = .ok (.iload_n 1, 1) := by decide +kernel
set_option maxRecDepth 20000 in
theorem ggX11_lesson_X11_isOne : GoodIn wsX11_lesson wsX11_isOne := goodIn_r _ [5, 6, 7, 8, 4, 9, 10, 11, 12, 13, 94, 95, 96, 97, 98, 99, 100, 101, 102, 103, 104, 105, 106, 107, 108, 109, 110, 111, 112] (by decide +kernel) (by decide +kernel)
set_option maxRecDepth 20000 in
theorem gX11_lesson_X11_isOne : GoodIn wsX11_lesson (wsV RX11 94 RX11 yX11_isOne wsX11_isOne) := goodIn_app (goodIn_of _ (by decide +kernel)) ggX11_lesson_X11_isOne
theorem dX11_lesson_2 : decode cX11_lesson 2 = .ok (.invokevirtual 94, 3) := by decide +kernel
theorem dX11_lesson_5 : decode cX11_lesson 5 = .ok (.ifCond .eq 20, 3) := by decide +kernel
theorem dX11_lesson_25 : decode cX11_lesson 25 = .ok (.aload_n 0, 1) := by decide +kernel
theorem dX11_lesson_26 : decode cX11_lesson 26 = .ok (.bipush (-2), 2) := by decide +kernel
set_option maxRecDepth 20000 in
theorem ggX11_lesson_X11_bad : GoodIn wsX11_lesson wsX11_bad := goodIn_r _ [21, 22, 94, 95, 96, 97, 98, 99, 100, 101, 102, 103, 104, 105, 106, 107, 108, 109, 110, 111, 112] (by decide +kernel) (by decide +kernel)
set_option maxRecDepth 20000 in
theorem gX11_lesson_X11_bad : GoodIn wsX11_lesson (wsV RX11 60 RX11 yX11_bad wsX11_bad) := goodIn_app (goodIn_of _ (by decide +kernel)) ggX11_lesson_X11_bad
theorem dX11_lesson_28 : decode cX11_lesson 28 = .ok (.invokevirtual 60, 3) := by decide +kernel
theorem dX11_lesson_31 : decode cX11_lesson 31 = .ok (.ireturn, 1) := by decide +kernel
theorem dX11_lesson_8 : decode cX11_lesson 8 = .ok (.aload_n 0, 1) := by decide +kernel
theorem dX11_lesson_9 : decode cX11_lesson 9 = .ok (.iload_n 2, 1) := by decide +kernel
set_option maxRecDepth 20000 in
theorem ggX11_lesson_X11_isSet : GoodIn wsX11_lesson wsX11_isSet := goodIn_r _ [17, 6, 7, 8, 4, 9, 10, 11, 12, 13, 94, 95, 96, 97, 98, 99, 100, 101, 102, 103, 104, 105, 106, 107, 108, 109, 110, 111, 112] (by decide +kernel) (by decide +kernel)
set_option maxRecDepth 20000 in
theorem gX11_lesson_X11_isSet : GoodIn wsX11_lesson (wsV RX11 160 RX11 yX11_isSet wsX11_isSet) := goodIn_app (goodIn_of _ (by decide +kernel)) ggX11_lesson_X11_isSet
theorem dX11_lesson_10 : decode cX11_lesson 10 = .ok (.invokevirtual 160, 3) := by decide +kernel
theorem dX11_lesson_13 : decode cX11_lesson 13 = .ok (.ifCond .eq 12, 3) := by decide +kernel
theorem dX11_lesson_16 : decode cX11_lesson 16 = .ok (.iload_n 2, 1) := by decide +kernel
theorem dX11_lesson_17 : decode cX11_lesson 17 = .ok (.iload_n 1, 1) := by decide +kernel
theorem dX11_lesson_18 : decode cX11_lesson 18 = .ok (.ishr, 1) := by decide +kernel
theorem dX11_lesson_19 : decode cX11_lesson 19 = .ok (.iconst 1, 1) := by decide +kernel
theorem dX11_lesson_20 : decode cX11_lesson 20 = .ok (.iand, 1) := by decide +kernel
theorem dX11_lesson_21 : decode cX11_lesson 21 = .ok (.iconst 1, 1) := by decide +kernel
theorem dX11_lesson_22 : decode cX11_lesson 22 = .ok (.if_icmp .ne 10, 3) := by decide +kernel
theorem dX11_lesson_32 : decode cX11_lesson 32 = .ok (.iconst 1, 1) := by decide +kernel
theorem dX11_lesson_33 : decode cX11_lesson 33 = .ok (.aload_n 0, 1) := by decide +kernel
set_option maxRecDepth 20000 in
theorem ggX11_lesson_X11_people : GoodIn wsX11_lesson wsX11_people := goodIn_r _ [9, 10, 94, 95, 96, 97, 98, 99, 100, 101, 102, 103, 104, 105, 106, 107, 108, 109, 110, 111, 112] (by decide +kernel) (by decide +kernel)
set_option maxRecDepth 20000 in
theorem gX11_lesson_X11_people : GoodIn wsX11_lesson (wsV RX11 53 RX11 yX11_people wsX11_people) := goodIn_app (goodIn_of _ (by decide +kernel)) ggX11_lesson_X11_people
theorem dX11_lesson_34 : decode cX11_lesson 34 = .ok (.invokevirtual 53, 3) := by decide +kernel
theorem dX11_lesson_37 : decode cX11_lesson 37 = .ok (.ishl, 1) := by decide +kernel
theorem dX11_lesson_38 : decode cX11_lesson 38 = .ok (.iconst 1, 1) := by decide +kernel
theorem dX11_lesson_39 : decode cX11_lesson 39 = .ok (.isub, 1) := by decide +kernel
theorem dX11_lesson_40 : decode cX11_lesson 40 = .ok (.iload_n 2, 1) := by decide +kernel
theorem dX11_lesson_41 : decode cX11_lesson 41 = .ok (.iconst (-1), 1) := by decide +kernel
theorem dX11_lesson_42 : decode cX11_lesson 42 = .ok (.ixor, 1) := by decide +kernel
theorem dX11_lesson_43 : decode cX11_lesson 43 = .ok (.iand, 1) := by decide +kernel
theorem dX11_lesson_44 : decode cX11_lesson 44 = .ok (.istore_n 3, 1) := by decide +kernel
theorem dX11_lesson_45 : decode cX11_lesson 45 = .ok (.aload_n 0, 1) := by decide +kernel
set_option maxRecDepth 20000 in
theorem ggX11_lesson_X11_maySpeak : GoodIn wsX11_lesson wsX11_maySpeak := goodIn_r _ [26, 6, 7, 8, 4, 9, 10, 27, 28, 29, 30, 31, 32, 33, 34, 35, 36, 37, 38, 39, 40, 41, 42, 43, 44, 45, 46, 47, 48, 49, 50, 51, 52, 53, 54, 55, 56, 57, 58, 59, 60, 61, 62, 63, 64, 65, 66, 67, 68, 69, 70, 71, 72, 73, 74, 75, 76, 77, 78, 79, 80, 81, 82, 83, 84, 85, 86, 87, 88, 89, 94, 95, 96, 97, 98, 99, 100, 101, 102, 103, 104, 105, 106, 107, 108, 109, 110, 111, 112] (by decide +kernel) (by decide +kernel)
set_option maxRecDepth 20000 in
theorem gX11_lesson_X11_maySpeak : GoodIn wsX11_lesson (wsV RX11 157 RX11 yX11_maySpeak wsX11_maySpeak) := goodIn_app (goodIn_of _ (by decide +kernel)) ggX11_lesson_X11_maySpeak
theorem dX11_lesson_46 : decode cX11_lesson 46 = .ok (.invokevirtual 157, 3) := by decide +kernel
theorem dX11_lesson_49 : decode cX11_lesson 49 = .ok (.istore 4, 2) := by decide +kernel
theorem dX11_lesson_51 : decode cX11_lesson 51 = .ok (.iconst 1, 1) := by decide +kernel
theorem dX11_lesson_52 : decode cX11_lesson 52 = .ok (.iload_n 1, 1) := by decide +kernel
theorem dX11_lesson_53 : decode cX11_lesson 53 = .ok (.ishl, 1) := by decide +kernel
theorem dX11_lesson_54 : decode cX11_lesson 54 = .ok (.istore 5, 2) := by decide +kernel
theorem dX11_lesson_56 : decode cX11_lesson 56 = .ok (.iconst 0, 1) := by decide +kernel
theorem dX11_lesson_57 : decode cX11_lesson 57 = .ok (.istore 6, 2) := by decide +kernel
theorem dX11_lesson_59 : decode cX11_lesson 59 = .ok (.iload_n 3, 1) := by decide +kernel
theorem dX11_lesson_60 : decode cX11_lesson 60 = .ok (.iload 5, 2) := by decide +kernel
theorem dX11_lesson_62 : decode cX11_lesson 62 = .ok (.iconst (-1), 1) := by decide +kernel
theorem dX11_lesson_63 : decode cX11_lesson 63 = .ok (.ixor, 1) := by decide +kernel
theorem dX11_lesson_64 : decode cX11_lesson 64 = .ok (.iand, 1) := by decide +kernel
theorem dX11_lesson_65 : decode cX11_lesson 65 = .ok (.ifCond .eq 132, 3) := by decide +kernel
theorem dX11_lesson_197 : decode cX11_lesson 197 = .ok (.iload 6, 2) := by decide +kernel
theorem dX11_lesson_199 : decode cX11_lesson 199 = .ok (.ireturn, 1) := by decide +kernel
theorem dX11_lesson_68 : decode cX11_lesson 68 = .ok (.iload 5, 2) := by decide +kernel
theorem dX11_lesson_70 : decode cX11_lesson 70 = .ok (.istore 7, 2) := by decide +kernel
theorem dX11_lesson_72 : decode cX11_lesson 72 = .ok (.iconst 0, 1) := by decide +kernel
theorem dX11_lesson_73 : decode cX11_lesson 73 = .ok (.istore 8, 2) := by decide +kernel
theorem dX11_lesson_75 : decode cX11_lesson 75 = .ok (.iload 8, 2) := by decide +kernel
theorem dX11_lesson_77 : decode cX11_lesson 77 = .ok (.aload_n 0, 1) := by decide +kernel
theorem dX11_lesson_78 : decode cX11_lesson 78 = .ok (.invokevirtual 53, 3) := by decide +kernel
theorem dX11_lesson_81 : decode cX11_lesson 81 = .ok (.if_icmp .ge 97, 3) := by decide +kernel
theorem dX11_lesson_178 : decode cX11_lesson 178 = .ok (.iload 7, 2) := by decide +kernel
theorem dX11_lesson_180 : decode cX11_lesson 180 = .ok (.iload 5, 2) := by decide +kernel
theorem dX11_lesson_182 : decode cX11_lesson 182 = .ok (.if_icmp .ne 5, 3) := by decide +kernel
theorem dX11_lesson_187 : decode cX11_lesson 187 = .ok (.iload 7, 2) := by decide +kernel
theorem dX11_lesson_189 : decode cX11_lesson 189 = .ok (.istore 5, 2) := by decide +kernel
theorem dX11_lesson_191 : decode cX11_lesson 191 = .ok (.iinc 6 1, 3) := by decide +kernel
theorem dX11_lesson_194 : decode cX11_lesson 194 = .ok (.goto (-135), 3) := by decide +kernel
theorem dX11_lesson_185 : decode cX11_lesson 185 = .ok (.iconst (-1), 1) := by decide +kernel
theorem dX11_lesson_186 : decode cX11_lesson 186 = .ok (.ireturn, 1) := by decide +kernel
theorem dX11_lesson_84 : decode cX11_lesson 84 = .ok (.iload 5, 2) := by decide +kernel
theorem dX11_lesson_86 : decode cX11_lesson 86 = .ok (.iload 8, 2) := by decide +kernel
theorem dX11_lesson_88 : decode cX11_lesson 88 = .ok (.ishr, 1) := by decide +kernel
theorem dX11_lesson_89 : decode cX11_lesson 89 = .ok (.iload 4, 2) := by decide +kernel
theorem dX11_lesson_91 : decode cX11_lesson 91 = .ok (.iload 8, 2) := by decide +kernel
theorem dX11_lesson_93 : decode cX11_lesson 93 = .ok (.ishr, 1) := by decide +kernel
theorem dX11_lesson_94 : decode cX11_lesson 94 = .ok (.iand, 1) := by decide +kernel
theorem dX11_lesson_95 : decode cX11_lesson 95 = .ok (.iconst 1, 1) := by decide +kernel
theorem dX11_lesson_96 : decode cX11_lesson 96 = .ok (.iand, 1) := by decide +kernel
theorem dX11_lesson_97 : decode cX11_lesson 97 = .ok (.iconst 1, 1) := by decide +kernel
theorem dX11_lesson_116 : decode cX11_lesson 116 = .ok (.istore 9, 2) := by decide +kernel
theorem dX11_lesson_118 : decode cX11_lesson 118 = .ok (.iconst 0, 1) := by decide +kernel
theorem dX11_lesson_119 : decode cX11_lesson 119 = .ok (.istore 10, 2) := by decide +kernel
theorem dX11_lesson_121 : decode cX11_lesson 121 = .ok (.iload 10, 2) := by decide +kernel
theorem dX11_lesson_123 : decode cX11_lesson 123 = .ok (.aload_n 0, 1) := by decide +kernel
theorem dX11_lesson_124 : decode cX11_lesson 124 = .ok (.invokevirtual 53, 3) := by decide +kernel
theorem dX11_lesson_127 : decode cX11_lesson 127 = .ok (.if_icmp .ge 45, 3) := by decide +kernel
theorem dX11_lesson_172 : decode cX11_lesson 172 = .ok (.iinc 8 1, 3) := by decide +kernel
theorem dX11_lesson_175 : decode cX11_lesson 175 = .ok (.goto (-100), 3) := by decide +kernel
theorem dX11_lesson_130 : decode cX11_lesson 130 = .ok (.iload 9, 2) := by decide +kernel
theorem dX11_lesson_132 : decode cX11_lesson 132 = .ok (.ifCond .eq 40, 3) := by decide +kernel
theorem dX11_lesson_135 : decode cX11_lesson 135 = .ok (.iload 7, 2) := by decide +kernel
theorem dX11_lesson_137 : decode cX11_lesson 137 = .ok (.iload 10, 2) := by decide +kernel
theorem dX11_lesson_139 : decode cX11_lesson 139 = .ok (.iload 8, 2) := by decide +kernel
theorem dX11_lesson_141 : decode cX11_lesson 141 = .ok (.if_icmp .eq 21, 3) := by decide +kernel
theorem dX11_lesson_162 : decode cX11_lesson 162 = .ok (.iconst 0, 1) := by decide +kernel
theorem dX11_lesson_163 : decode cX11_lesson 163 = .ok (.ior, 1) := by decide +kernel
theorem dX11_lesson_164 : decode cX11_lesson 164 = .ok (.istore 7, 2) := by decide +kernel
theorem dX11_lesson_166 : decode cX11_lesson 166 = .ok (.iinc 10 1, 3) := by decide +kernel
theorem dX11_lesson_169 : decode cX11_lesson 169 = .ok (.goto (-48), 3) := by decide +kernel
theorem dX11_lesson_144 : decode cX11_lesson 144 = .ok (.aload_n 0, 1) := by decide +kernel
theorem dX11_lesson_145 : decode cX11_lesson 145 = .ok (.iload 10, 2) := by decide +kernel
theorem dX11_lesson_147 : decode cX11_lesson 147 = .ok (.iload 8, 2) := by decide +kernel
set_option maxRecDepth 20000 in
theorem ggX11_lesson_X11_hears : GoodIn wsX11_lesson wsX11_hears := goodIn_r _ [77, 31, 32, 33, 4, 34, 10, 78, 79, 80, 81, 63, 64, 65, 66, 43, 44, 45, 46, 67, 68, 69, 39, 40, 41, 42, 82, 83, 84, 85, 86, 87, 88, 89, 51, 52, 53, 54, 94, 95, 96, 97, 98, 99, 100, 101, 102, 103, 104, 105, 106, 107, 108, 109, 110, 111, 112] (by decide +kernel) (by decide +kernel)
set_option maxRecDepth 20000 in
theorem gX11_lesson_X11_hears : GoodIn wsX11_lesson (wsV RX11 151 RX11 yX11_hears wsX11_hears) := goodIn_app (goodIn_of _ (by decide +kernel)) ggX11_lesson_X11_hears
theorem dX11_lesson_149 : decode cX11_lesson 149 = .ok (.invokevirtual 151, 3) := by decide +kernel
theorem dX11_lesson_152 : decode cX11_lesson 152 = .ok (.ifCond .eq 10, 3) := by decide +kernel
theorem dX11_lesson_155 : decode cX11_lesson 155 = .ok (.iconst 1, 1) := by decide +kernel
theorem dX11_lesson_156 : decode cX11_lesson 156 = .ok (.iload 10, 2) := by decide +kernel
theorem dX11_lesson_158 : decode cX11_lesson 158 = .ok (.ishl, 1) := by decide +kernel
theorem dX11_lesson_159 : decode cX11_lesson 159 = .ok (.goto 4, 3) := by decide +kernel
theorem dX11_lesson_98 : decode cX11_lesson 98 = .ok (.if_icmp .ne 17, 3) := by decide +kernel
theorem dX11_lesson_115 : decode cX11_lesson 115 = .ok (.iconst 0, 1) := by decide +kernel
theorem dX11_lesson_101 : decode cX11_lesson 101 = .ok (.aload_n 0, 1) := by decide +kernel
theorem dX11_lesson_102 : decode cX11_lesson 102 = .ok (.iload 8, 2) := by decide +kernel
theorem dX11_lesson_104 : decode cX11_lesson 104 = .ok (.iload_n 2, 1) := by decide +kernel
set_option maxRecDepth 20000 in
theorem ggX11_lesson_X11_isHeardBy : GoodIn wsX11_lesson wsX11_isHeardBy := goodIn_r _ [93, 6, 7, 8, 4, 9, 10, 74, 75, 76, 77, 31, 32, 33, 34, 78, 79, 80, 81, 63, 64, 65, 66, 43, 44, 45, 46, 67, 68, 69, 39, 40, 41, 42, 82, 83, 84, 85, 86, 87, 88, 89, 51, 52, 53, 54, 94, 95, 96, 97, 98, 99, 100, 101, 102, 103, 104, 105, 106, 107, 108, 109, 110, 111, 112] (by decide +kernel) (by decide +kernel)
set_option maxRecDepth 20000 in
theorem gX11_lesson_X11_isHeardBy : GoodIn wsX11_lesson (wsV RX11 185 RX11 yX11_isHeardBy wsX11_isHeardBy) := goodIn_app (goodIn_of _ (by decide +kernel)) ggX11_lesson_X11_isHeardBy
theorem dX11_lesson_105 : decode cX11_lesson 105 = .ok (.invokevirtual 185, 3) := by decide +kernel
theorem dX11_lesson_108 : decode cX11_lesson 108 = .ok (.ifCond .ne 7, 3) := by decide +kernel
theorem dX11_lesson_111 : decode cX11_lesson 111 = .ok (.iconst 1, 1) := by decide +kernel
theorem dX11_lesson_112 : decode cX11_lesson 112 = .ok (.goto 4, 3) := by decide +kernel
set_option maxHeartbeats 4000000 in
set_option maxRecDepth 100000 in
theorem n_X11_lesson (l : Launch) (D : va_G) (cy : Nat → ClassId) (mm : Nat) (mm_now : Nat) (mm_kept : Nat) (mm_isKept : Nat) (mm_refused : Nat) (mm_lineFrom : Int32) (mm_lineTo : Int32) (mm_stands : Nat) (mm_far : Nat) (mm_queue : Nat) (mm_queued : Int32) (mm_meets : Nat) (mm_bytes : Nat) (bl : Nat) (ta : Nat) (tl : Nat) (mm_token : Int32) (mm_value : Int32) (mm_next : Nat) (tk : Nat) (mm_now_f : Nat → Int32) (mm_refused_f : Nat → Int32) (px : Int32) (py : Int32) (sz : Nat) (hN : mN mm_now_f) : Met l yX11_lesson wsX11_lesson ({ frames := 8, cells := 0, slots := 0, locals := 180 }) (va_Pc [.ref mm, .int px, .int py] (kPre D cy [(mm, .inr (11, [.ref mm_now, .ref mm_kept, .ref mm_isKept, .ref mm_refused, .int mm_lineFrom, .int mm_lineTo, .ref mm_stands, .ref mm_far, .ref mm_queue, .int mm_queued, .ref mm_meets, .ref mm_bytes, .int (nI bl), .int (nI ta), .int (nI tl), .int mm_token, .int mm_value, .ref mm_next, .int (nI tk)])), (mm_now, .inl (cy 1, 122, .inl mm_now_f)), (mm_refused, .inl (cy 1, 3, .inl mm_refused_f))] sz)) (va_Qi (fun (r : Int32) (u : Int32 × Int32 × (Nat → Int32)) => True) (fun (u : Int32 × Int32 × (Nat → Int32)) t => va_P D vwCl ([(mm, .inr (11, [.ref mm_now, .ref mm_kept, .ref mm_isKept, .ref mm_refused, .int u.1, .int u.2.1, .ref mm_stands, .ref mm_far, .ref mm_queue, .int mm_queued, .ref mm_meets, .ref mm_bytes, .int (nI bl), .int (nI ta), .int (nI tl), .int mm_token, .int mm_value, .ref mm_next, .int (nI tk)])), (mm_now, .inl (cy 1, 122, .inl mm_now_f)), (mm_refused, .inl (cy 1, 3, .inl u.2.2))]) t.heap ∧ va_D (va_A [(mm, .inr (11, [.ref mm_now, .ref mm_kept, .ref mm_isKept, .ref mm_refused, .int mm_lineFrom, .int mm_lineTo, .ref mm_stands, .ref mm_far, .ref mm_queue, .int mm_queued, .ref mm_meets, .ref mm_bytes, .int (nI bl), .int (nI ta), .int (nI tl), .int mm_token, .int mm_value, .ref mm_next, .int (nI tk)])), (mm_now, .inl (cy 1, 122, .inl mm_now_f)), (mm_refused, .inl (cy 1, 3, .inl mm_refused_f))] sz) ([(mm, .inr (11, [.ref mm_now, .ref mm_kept, .ref mm_isKept, .ref mm_refused, .int u.1, .int u.2.1, .ref mm_stands, .ref mm_far, .ref mm_queue, .int mm_queued, .ref mm_meets, .ref mm_bytes, .int (nI bl), .int (nI ta), .int (nI tl), .int mm_token, .int mm_value, .ref mm_next, .int (nI tk)])), (mm_now, .inl (cy 1, 122, .inl mm_now_f)), (mm_refused, .inl (cy 1, 3, .inl u.2.2))])) (va_A [(mm, .inr (11, [.ref mm_now, .ref mm_kept, .ref mm_isKept, .ref mm_refused, .int mm_lineFrom, .int mm_lineTo, .ref mm_stands, .ref mm_far, .ref mm_queue, .int mm_queued, .ref mm_meets, .ref mm_bytes, .int (nI bl), .int (nI ta), .int (nI tl), .int mm_token, .int mm_value, .ref mm_next, .int (nI tk)])), (mm_now, .inl (cy 1, 122, .inl mm_now_f)), (mm_refused, .inl (cy 1, 3, .inl mm_refused_f))] sz)) 0 0 (va_A [(mm, .inr (11, [.ref mm_now, .ref mm_kept, .ref mm_isKept, .ref mm_refused, .int mm_lineFrom, .int mm_lineTo, .ref mm_stands, .ref mm_far, .ref mm_queue, .int mm_queued, .ref mm_meets, .ref mm_bytes, .int (nI bl), .int (nI ta), .int (nI tl), .int mm_token, .int mm_value, .ref mm_next, .int (nI tk)])), (mm_now, .inl (cy 1, 122, .inl mm_now_f)), (mm_refused, .inl (cy 1, 3, .inl mm_refused_f))] sz) := by
  refine Met.ofW (cc := cX11_lesson) (maxL := 11) (ret := (some .int)) (by decide) rfl ?_
  intro p e s m args below meth c s₁ B hml hv
  obtain ⟨rfl, hsz, hP, hKA, hD0⟩ := hv
  have hx := B.exec
  have hb := B.bytes
  have hr := B.returns
  have hts := atoms_spec (ws := wsX11_lesson) B.pre
  have hown : s.vm.findClass RX11 = some m.cls := findClass_of_methodNamed B.named
  have hlocks := B.notSynchronized
  subst hsz
  have hK := hKA.1
  have hD := hD0.self (sz := s.heap.size)
  generalize hAe : va_A [(mm, .inr (11, [.ref mm_now, .ref mm_kept, .ref mm_isKept, .ref mm_refused, .int mm_lineFrom, .int mm_lineTo, .ref mm_stands, .ref mm_far, .ref mm_queue, .int mm_queued, .ref mm_meets, .ref mm_bytes, .int (nI bl), .int (nI ta), .int (nI tl), .int mm_token, .int mm_value, .ref mm_next, .int (nI tk)])), (mm_now, .inl (cy 1, 122, .inl mm_now_f)), (mm_refused, .inl (cy 1, 3, .inl mm_refused_f))] s.heap.size = A at hD ⊢
  have hA : ∀ q : Nat, s.heap.size ≤ q → A q := fun q h => by rw [← hAe]; exact Or.inr h
  have hS : va_S A s.heap s.heap [] := va_S.rf
  have hP : va_P D vwCl [(mm, .inr (11, [.ref mm_now, .ref mm_kept, .ref mm_isKept, .ref mm_refused, .int mm_lineFrom, .int mm_lineTo, .ref mm_stands, .ref mm_far, .ref mm_queue, .int mm_queued, .ref mm_meets, .ref mm_bytes, .int (nI bl), .int (nI ta), .int (nI tl), .int mm_token, .int mm_value, .ref mm_next, .int (nI tk)])), (mm_now, .inl (cy 1, 122, .inl mm_now_f)), (mm_refused, .inl (cy 1, 3, .inl mm_refused_f))] s.heap := hP
  have hl := lv_entry ([.ref mm, .int px, .int py]) (n := 11) (Nat.le_of_ble_eq_true rfl)
  rw [lg_entry_eq]
  generalize (lg_sl ([.ref mm, .int px, .int py]) ++ List.replicate (11 - (lg_sl ([.ref mm, .int px, .int py])).length) Slot.unset).toArray = ls at hl ⊢
  have hl : lv_has ls 11 [(0, .ref mm), (1, .int px), (2, .int py)] := hl
  refine qW (fun QF hQF => ?_)
  obtain ⟨mW, mH, mS, mP, hF⟩ := hN
  obtain ⟨hW2, hW6, hH2, hH6, hSe, hS4, hS6, hP5⟩ := hF.rng
  refine lv_aload_n hx hb dX11_lesson_0 rfl (lv_at hl 0 rfl) ?_
  refine lv_iload_n hx hb dX11_lesson_1 rfl (lv_at hl 1 rfl) ?_
  refine rd_i (va_runV (As := [.int px]) (rest := []) ⟨hx, hb, hml, hown, hts⟩ (n_X11_isOne l D cy mW mH mS mP mm mm_now mm_kept mm_isKept mm_refused mm_lineFrom mm_lineTo mm_stands mm_far mm_queue mm_queued mm_meets mm_bytes bl ta tl mm_token mm_value mm_next tk mm_now_f px _ (by first | assumption | omega)) (cwV 1 hts gX11_lesson_X11_isOne rfl rfl rfl (by decide +kernel) ⟨Nat.le_of_ble_eq_true rfl, Nat.le_of_ble_eq_true rfl⟩) (pV (ci := 11) (k := 0) hKA (hP.sub (ws' := [(mm, .inr (11, [.ref mm_now, .ref mm_kept, .ref mm_isKept, .ref mm_refused, .int mm_lineFrom, .int mm_lineTo, .ref mm_stands, .ref mm_far, .ref mm_queue, .int mm_queued, .ref mm_meets, .ref mm_bytes, .int (nI bl), .int (nI ta), .int (nI tl), .int mm_token, .int mm_value, .ref mm_next, .int (nI tk)])), (mm_now, .inl (cy 1, 122, .inl mm_now_f))]) [0, 1] rfl) (hD.sub (ws' := [(mm, .inr (11, [.ref mm_now, .ref mm_kept, .ref mm_isKept, .ref mm_refused, .int mm_lineFrom, .int mm_lineTo, .ref mm_stands, .ref mm_far, .ref mm_queue, .int mm_queued, .ref mm_meets, .ref mm_bytes, .int (nI bl), .int (nI ta), .int (nI tl), .int mm_token, .int mm_value, .ref mm_next, .int (nI tk)])), (mm_now, .inl (cy 1, 122, .inl mm_now_f))]) [0, 1] (by decide) rfl) rfl rfl) rfl rfl hl.1 rfl (lv_room (Nat.le_of_ble_eq_true rfl)) dX11_lesson_2 ⟨Nat.le_of_ble_eq_true rfl, Nat.le_of_ble_eq_true rfl⟩) hP hS hA (fun r1 H locs hwr1 hP hS => ?_)
  have hwr1 : (r1 = 1 ∧ (∃ j : Nat, j < mP ∧ px = nI j)) ∨ (r1 = 0 ∧ True) := hwr1
  refine lv_if_eq (tgt := 25) hx hb dX11_lesson_5 (by decide) (fun c2 => ?_) (fun c2 => ?_)
  · skip
    refine lv_aload_n hx hb dX11_lesson_25 rfl (lv_at hl 0 rfl) ?_
    refine lv_bipush (v := (-2)) hx hb dX11_lesson_26 (by decide) ?_
    refine wr_i (wr := [(mm_now, .inl (cy 1, 122, .inl mm_now_f))]) (va_runV (As := [.int (-2)]) (rest := []) ⟨hx, hb, hml, hown, hts⟩ (n_X11_bad l D cy mm mm_now mm_kept mm_isKept mm_refused mm_lineFrom mm_lineTo mm_stands mm_far mm_queue mm_queued mm_meets mm_bytes bl ta tl mm_token mm_value mm_next tk mm_refused_f (-2) _ ) (cwV 1 hts gX11_lesson_X11_bad rfl rfl rfl (by decide +kernel) ⟨Nat.le_of_ble_eq_true rfl, Nat.le_of_ble_eq_true rfl⟩) (pV (ci := 11) (k := 0) hKA (hP.sub (ws' := [(mm, .inr (11, [.ref mm_now, .ref mm_kept, .ref mm_isKept, .ref mm_refused, .int mm_lineFrom, .int mm_lineTo, .ref mm_stands, .ref mm_far, .ref mm_queue, .int mm_queued, .ref mm_meets, .ref mm_bytes, .int (nI bl), .int (nI ta), .int (nI tl), .int mm_token, .int mm_value, .ref mm_next, .int (nI tk)])), (mm_refused, .inl (cy 1, 3, .inl mm_refused_f))]) [0, 2] rfl) (hD.sub (ws' := [(mm, .inr (11, [.ref mm_now, .ref mm_kept, .ref mm_isKept, .ref mm_refused, .int mm_lineFrom, .int mm_lineTo, .ref mm_stands, .ref mm_far, .ref mm_queue, .int mm_queued, .ref mm_meets, .ref mm_bytes, .int (nI bl), .int (nI ta), .int (nI tl), .int mm_token, .int mm_value, .ref mm_next, .int (nI tk)])), (mm_refused, .inl (cy 1, 3, .inl mm_refused_f))]) [0, 2] (by decide) rfl) rfl rfl) rfl rfl hl.1 rfl (lv_room (Nat.le_of_ble_eq_true rfl)) dX11_lesson_28 ⟨Nat.le_of_ble_eq_true rfl, Nat.le_of_ble_eq_true rfl⟩) hP hD hS hA [0, 2] [1] rfl rfl (by decide +kernel) (by decide +kernel) (fun r3 ur3 H locs hwr3 hP hD hS => ?_)
    obtain ⟨z4, rfl⟩ : ∃ z, z = ur3 := ⟨_, rfl⟩
    have hP : va_P D vwCl [(mm_now, .inl (cy 1, 122, .inl mm_now_f)), (mm, .inr (11, [.ref mm_now, .ref mm_kept, .ref mm_isKept, .ref mm_refused, .int mm_lineFrom, .int mm_lineTo, .ref mm_stands, .ref mm_far, .ref mm_queue, .int mm_queued, .ref mm_meets, .ref mm_bytes, .int (nI bl), .int (nI ta), .int (nI tl), .int mm_token, .int mm_value, .ref mm_next, .int (nI tk)])), (mm_refused, .inl (cy 1, 3, .inl z4))] H := hP
    have hD : va_D A [(mm_now, .inl (cy 1, 122, .inl mm_now_f)), (mm, .inr (11, [.ref mm_now, .ref mm_kept, .ref mm_isKept, .ref mm_refused, .int mm_lineFrom, .int mm_lineTo, .ref mm_stands, .ref mm_far, .ref mm_queue, .int mm_queued, .ref mm_meets, .ref mm_bytes, .int (nI bl), .int (nI ta), .int (nI tl), .int mm_token, .int mm_value, .ref mm_next, .int (nI tk)])), (mm_refused, .inl (cy 1, 3, .inl z4))] := hD
    have hwr3 : r3 = (-2) := hwr3
    subst hwr3
    subst hQF
    have hP9 := hP.sub (ws' := [(mm, .inr (11, [.ref mm_now, .ref mm_kept, .ref mm_isKept, .ref mm_refused, .int mm_lineFrom, .int mm_lineTo, .ref mm_stands, .ref mm_far, .ref mm_queue, .int mm_queued, .ref mm_meets, .ref mm_bytes, .int (nI bl), .int (nI ta), .int (nI tl), .int mm_token, .int mm_value, .ref mm_next, .int (nI tk)])), (mm_now, .inl (cy 1, 122, .inl mm_now_f)), (mm_refused, .inl (cy 1, 3, .inl z4))]) [1, 0, 2] rfl
    have hD9 := hD.sub (ws' := [(mm, .inr (11, [.ref mm_now, .ref mm_kept, .ref mm_isKept, .ref mm_refused, .int mm_lineFrom, .int mm_lineTo, .ref mm_stands, .ref mm_far, .ref mm_queue, .int mm_queued, .ref mm_meets, .ref mm_bytes, .int (nI bl), .int (nI ta), .int (nI tl), .int mm_token, .int mm_value, .ref mm_next, .int (nI tk)])), (mm_now, .inl (cy 1, 122, .inl mm_now_f)), (mm_refused, .inl (cy 1, 3, .inl z4))]) [1, 0, 2] (by decide) rfl
    exact W.iret (v := (-2)) hx hb hr (fun t ht hW => ⟨⟨(-2), (mm_lineFrom, mm_lineTo, z4), rfl, trivial, by rw [ht]; exact hP9, hD9⟩, hS.F ht⟩) hS.2.2 dX11_lesson_31
  · skip
    have hp5 := z_b1 hwr1 c2
    obtain ⟨j6, hj6, ej6⟩ := hp5
    refine lv_aload_n hx hb dX11_lesson_8 rfl (lv_at hl 0 rfl) ?_
    refine lv_iload_n hx hb dX11_lesson_9 rfl (lv_at hl 2 rfl) ?_
    refine rd_i (va_runV (As := [.int py]) (rest := []) ⟨hx, hb, hml, hown, hts⟩ (n_X11_isSet l D cy mW mH mS mP mm mm_now mm_kept mm_isKept mm_refused mm_lineFrom mm_lineTo mm_stands mm_far mm_queue mm_queued mm_meets mm_bytes bl ta tl mm_token mm_value mm_next tk mm_now_f py _ (by first | assumption | omega)) (cwV 1 hts gX11_lesson_X11_isSet rfl rfl rfl (by decide +kernel) ⟨Nat.le_of_ble_eq_true rfl, Nat.le_of_ble_eq_true rfl⟩) (pV (ci := 11) (k := 0) hKA (hP.sub (ws' := [(mm, .inr (11, [.ref mm_now, .ref mm_kept, .ref mm_isKept, .ref mm_refused, .int mm_lineFrom, .int mm_lineTo, .ref mm_stands, .ref mm_far, .ref mm_queue, .int mm_queued, .ref mm_meets, .ref mm_bytes, .int (nI bl), .int (nI ta), .int (nI tl), .int mm_token, .int mm_value, .ref mm_next, .int (nI tk)])), (mm_now, .inl (cy 1, 122, .inl mm_now_f))]) [0, 1] rfl) (hD.sub (ws' := [(mm, .inr (11, [.ref mm_now, .ref mm_kept, .ref mm_isKept, .ref mm_refused, .int mm_lineFrom, .int mm_lineTo, .ref mm_stands, .ref mm_far, .ref mm_queue, .int mm_queued, .ref mm_meets, .ref mm_bytes, .int (nI bl), .int (nI ta), .int (nI tl), .int mm_token, .int mm_value, .ref mm_next, .int (nI tk)])), (mm_now, .inl (cy 1, 122, .inl mm_now_f))]) [0, 1] (by decide) rfl) rfl rfl) rfl rfl hl.1 rfl (lv_room (Nat.le_of_ble_eq_true rfl)) dX11_lesson_10 ⟨Nat.le_of_ble_eq_true rfl, Nat.le_of_ble_eq_true rfl⟩) hP hS hA (fun r7 H locs hwr7 hP hS => ?_)
    have hwr7 : (r7 = 1 ∧ True) ∨ (r7 = 0 ∧ True) := hwr7
    refine lv_if_eq (tgt := 25) hx hb dX11_lesson_13 (by decide) (fun c8 => ?_) (fun c8 => ?_)
    · skip
      refine lv_aload_n hx hb dX11_lesson_25 rfl (lv_at hl 0 rfl) ?_
      refine lv_bipush (v := (-2)) hx hb dX11_lesson_26 (by decide) ?_
      refine wr_i (wr := [(mm_now, .inl (cy 1, 122, .inl mm_now_f))]) (va_runV (As := [.int (-2)]) (rest := []) ⟨hx, hb, hml, hown, hts⟩ (n_X11_bad l D cy mm mm_now mm_kept mm_isKept mm_refused mm_lineFrom mm_lineTo mm_stands mm_far mm_queue mm_queued mm_meets mm_bytes bl ta tl mm_token mm_value mm_next tk mm_refused_f (-2) _ ) (cwV 1 hts gX11_lesson_X11_bad rfl rfl rfl (by decide +kernel) ⟨Nat.le_of_ble_eq_true rfl, Nat.le_of_ble_eq_true rfl⟩) (pV (ci := 11) (k := 0) hKA (hP.sub (ws' := [(mm, .inr (11, [.ref mm_now, .ref mm_kept, .ref mm_isKept, .ref mm_refused, .int mm_lineFrom, .int mm_lineTo, .ref mm_stands, .ref mm_far, .ref mm_queue, .int mm_queued, .ref mm_meets, .ref mm_bytes, .int (nI bl), .int (nI ta), .int (nI tl), .int mm_token, .int mm_value, .ref mm_next, .int (nI tk)])), (mm_refused, .inl (cy 1, 3, .inl mm_refused_f))]) [0, 2] rfl) (hD.sub (ws' := [(mm, .inr (11, [.ref mm_now, .ref mm_kept, .ref mm_isKept, .ref mm_refused, .int mm_lineFrom, .int mm_lineTo, .ref mm_stands, .ref mm_far, .ref mm_queue, .int mm_queued, .ref mm_meets, .ref mm_bytes, .int (nI bl), .int (nI ta), .int (nI tl), .int mm_token, .int mm_value, .ref mm_next, .int (nI tk)])), (mm_refused, .inl (cy 1, 3, .inl mm_refused_f))]) [0, 2] (by decide) rfl) rfl rfl) rfl rfl hl.1 rfl (lv_room (Nat.le_of_ble_eq_true rfl)) dX11_lesson_28 ⟨Nat.le_of_ble_eq_true rfl, Nat.le_of_ble_eq_true rfl⟩) hP hD hS hA [0, 2] [1] rfl rfl (by decide +kernel) (by decide +kernel) (fun r9 ur9 H locs hwr9 hP hD hS => ?_)
      obtain ⟨z10, rfl⟩ : ∃ z, z = ur9 := ⟨_, rfl⟩
      have hP : va_P D vwCl [(mm_now, .inl (cy 1, 122, .inl mm_now_f)), (mm, .inr (11, [.ref mm_now, .ref mm_kept, .ref mm_isKept, .ref mm_refused, .int mm_lineFrom, .int mm_lineTo, .ref mm_stands, .ref mm_far, .ref mm_queue, .int mm_queued, .ref mm_meets, .ref mm_bytes, .int (nI bl), .int (nI ta), .int (nI tl), .int mm_token, .int mm_value, .ref mm_next, .int (nI tk)])), (mm_refused, .inl (cy 1, 3, .inl z10))] H := hP
      have hD : va_D A [(mm_now, .inl (cy 1, 122, .inl mm_now_f)), (mm, .inr (11, [.ref mm_now, .ref mm_kept, .ref mm_isKept, .ref mm_refused, .int mm_lineFrom, .int mm_lineTo, .ref mm_stands, .ref mm_far, .ref mm_queue, .int mm_queued, .ref mm_meets, .ref mm_bytes, .int (nI bl), .int (nI ta), .int (nI tl), .int mm_token, .int mm_value, .ref mm_next, .int (nI tk)])), (mm_refused, .inl (cy 1, 3, .inl z10))] := hD
      have hwr9 : r9 = (-2) := hwr9
      subst hwr9
      subst hQF
      have hP9 := hP.sub (ws' := [(mm, .inr (11, [.ref mm_now, .ref mm_kept, .ref mm_isKept, .ref mm_refused, .int mm_lineFrom, .int mm_lineTo, .ref mm_stands, .ref mm_far, .ref mm_queue, .int mm_queued, .ref mm_meets, .ref mm_bytes, .int (nI bl), .int (nI ta), .int (nI tl), .int mm_token, .int mm_value, .ref mm_next, .int (nI tk)])), (mm_now, .inl (cy 1, 122, .inl mm_now_f)), (mm_refused, .inl (cy 1, 3, .inl z10))]) [1, 0, 2] rfl
      have hD9 := hD.sub (ws' := [(mm, .inr (11, [.ref mm_now, .ref mm_kept, .ref mm_isKept, .ref mm_refused, .int mm_lineFrom, .int mm_lineTo, .ref mm_stands, .ref mm_far, .ref mm_queue, .int mm_queued, .ref mm_meets, .ref mm_bytes, .int (nI bl), .int (nI ta), .int (nI tl), .int mm_token, .int mm_value, .ref mm_next, .int (nI tk)])), (mm_now, .inl (cy 1, 122, .inl mm_now_f)), (mm_refused, .inl (cy 1, 3, .inl z10))]) [1, 0, 2] (by decide) rfl
      exact W.iret (v := (-2)) hx hb hr (fun t ht hW => ⟨⟨(-2), (mm_lineFrom, mm_lineTo, z10), rfl, trivial, by rw [ht]; exact hP9, hD9⟩, hS.F ht⟩) hS.2.2 dX11_lesson_31
    · skip
      refine lv_iload_n hx hb dX11_lesson_16 rfl (lv_at hl 2 rfl) ?_
      refine lv_iload_n hx hb dX11_lesson_17 rfl (lv_at hl 1 rfl) ?_
      refine W.eq (g2 := F0 m 18 ls [.int (nI j6), .int py]) (congrArg (fun v9 : Int32 => F0 m 18 ls [.int v9, .int py]) ej6) ?_
      refine lv_ishr hx hb dX11_lesson_18 ?_
      refine lv_iconst (v := 1) hx hb dX11_lesson_19 (by decide) ?_
      refine lv_iand hx hb dX11_lesson_20 ?_
      refine lv_iconst (v := 1) hx hb dX11_lesson_21 (by decide) ?_
      refine lv_icmp_ne (tgt := 32) hx hb dX11_lesson_22 (by decide) (fun c11 => ?_) (fun c11 => ?_)
      · skip
        refine lv_iconst (v := 1) hx hb dX11_lesson_32 (by decide) ?_
        refine lv_aload_n hx hb dX11_lesson_33 rfl (lv_at hl 0 rfl) ?_
        refine rd_i (va_runV (As := []) (rest := [.int 1]) ⟨hx, hb, hml, hown, hts⟩ (n_X11_people l D cy mW mH mS mP mm mm_now mm_kept mm_isKept mm_refused mm_lineFrom mm_lineTo mm_stands mm_far mm_queue mm_queued mm_meets mm_bytes bl ta tl mm_token mm_value mm_next tk mm_now_f _ (by first | assumption | omega)) (cwV 0 hts gX11_lesson_X11_people rfl rfl rfl (by decide +kernel) ⟨Nat.le_of_ble_eq_true rfl, Nat.le_of_ble_eq_true rfl⟩) (pV (ci := 11) (k := 0) hKA (hP.sub (ws' := [(mm, .inr (11, [.ref mm_now, .ref mm_kept, .ref mm_isKept, .ref mm_refused, .int mm_lineFrom, .int mm_lineTo, .ref mm_stands, .ref mm_far, .ref mm_queue, .int mm_queued, .ref mm_meets, .ref mm_bytes, .int (nI bl), .int (nI ta), .int (nI tl), .int mm_token, .int mm_value, .ref mm_next, .int (nI tk)])), (mm_now, .inl (cy 1, 122, .inl mm_now_f))]) [0, 1] rfl) (hD.sub (ws' := [(mm, .inr (11, [.ref mm_now, .ref mm_kept, .ref mm_isKept, .ref mm_refused, .int mm_lineFrom, .int mm_lineTo, .ref mm_stands, .ref mm_far, .ref mm_queue, .int mm_queued, .ref mm_meets, .ref mm_bytes, .int (nI bl), .int (nI ta), .int (nI tl), .int mm_token, .int mm_value, .ref mm_next, .int (nI tk)])), (mm_now, .inl (cy 1, 122, .inl mm_now_f))]) [0, 1] (by decide) rfl) rfl rfl) rfl rfl hl.1 rfl (lv_room (Nat.le_of_ble_eq_true rfl)) dX11_lesson_34 ⟨Nat.le_of_ble_eq_true rfl, Nat.le_of_ble_eq_true rfl⟩) hP hS hA (fun r12 H locs hwr12 hP hS => ?_)
        have hwr12 : r12 = nI mP := hwr12
        subst hwr12
        refine lv_ishl hx hb dX11_lesson_37 ?_
        refine lv_iconst (v := 1) hx hb dX11_lesson_38 (by decide) ?_
        refine lv_isub hx hb dX11_lesson_39 ?_
        refine lv_iload_n hx hb dX11_lesson_40 rfl (lv_at hl 2 rfl) ?_
        refine lv_iconst (v := (-1)) hx hb dX11_lesson_41 (by decide) ?_
        refine lv_ixor hx hb dX11_lesson_42 ?_
        refine lv_iand hx hb dX11_lesson_43 ?_
        refine lv_topi (fun x13 ex13 => ?_)
        refine lv_istore_n (lv' := [(3, .int x13), (0, .ref mm), (1, .int px), (2, .int py)]) hx hb dX11_lesson_44 rfl hl (by decide) rfl (fun ls hl => ?_)
        refine lv_aload_n hx hb dX11_lesson_45 rfl (lv_at hl 1 rfl) ?_
        refine wr_i (wr := [(mm_refused, .inl (cy 1, 3, .inl mm_refused_f))]) (va_runV (As := []) (rest := []) ⟨hx, hb, hml, hown, hts⟩ (n_X11_maySpeak l D cy mW mH mS mP mm mm_now mm_kept mm_isKept mm_refused mm_lineFrom mm_lineTo mm_stands mm_far mm_queue mm_queued mm_meets mm_bytes bl ta tl mm_token mm_value mm_next tk mm_now_f _ (by first | assumption | omega)) (cwV 0 hts gX11_lesson_X11_maySpeak rfl rfl rfl (by decide +kernel) ⟨Nat.le_of_ble_eq_true rfl, Nat.le_of_ble_eq_true rfl⟩) (pV (ci := 11) (k := 0) hKA (hP.sub (ws' := [(mm, .inr (11, [.ref mm_now, .ref mm_kept, .ref mm_isKept, .ref mm_refused, .int mm_lineFrom, .int mm_lineTo, .ref mm_stands, .ref mm_far, .ref mm_queue, .int mm_queued, .ref mm_meets, .ref mm_bytes, .int (nI bl), .int (nI ta), .int (nI tl), .int mm_token, .int mm_value, .ref mm_next, .int (nI tk)])), (mm_now, .inl (cy 1, 122, .inl mm_now_f))]) [0, 1] rfl) (hD.sub (ws' := [(mm, .inr (11, [.ref mm_now, .ref mm_kept, .ref mm_isKept, .ref mm_refused, .int mm_lineFrom, .int mm_lineTo, .ref mm_stands, .ref mm_far, .ref mm_queue, .int mm_queued, .ref mm_meets, .ref mm_bytes, .int (nI bl), .int (nI ta), .int (nI tl), .int mm_token, .int mm_value, .ref mm_next, .int (nI tk)])), (mm_now, .inl (cy 1, 122, .inl mm_now_f))]) [0, 1] (by decide) rfl) rfl rfl) rfl rfl hl.1 rfl (lv_room (Nat.le_of_ble_eq_true rfl)) dX11_lesson_46 ⟨Nat.le_of_ble_eq_true rfl, Nat.le_of_ble_eq_true rfl⟩) hP hD hS hA [0, 1] [2] rfl rfl (by decide +kernel) (by decide +kernel) (fun r14 ur14 H locs hwr14 hP hD hS => ?_)
        obtain ⟨z15, z16⟩ := ur14
        have hP : va_P D vwCl [(mm_refused, .inl (cy 1, 3, .inl mm_refused_f)), (mm, .inr (11, [.ref mm_now, .ref mm_kept, .ref mm_isKept, .ref mm_refused, .int z15, .int z16, .ref mm_stands, .ref mm_far, .ref mm_queue, .int mm_queued, .ref mm_meets, .ref mm_bytes, .int (nI bl), .int (nI ta), .int (nI tl), .int mm_token, .int mm_value, .ref mm_next, .int (nI tk)])), (mm_now, .inl (cy 1, 122, .inl mm_now_f))] H := hP
        have hD : va_D A [(mm_refused, .inl (cy 1, 3, .inl mm_refused_f)), (mm, .inr (11, [.ref mm_now, .ref mm_kept, .ref mm_isKept, .ref mm_refused, .int z15, .int z16, .ref mm_stands, .ref mm_far, .ref mm_queue, .int mm_queued, .ref mm_meets, .ref mm_bytes, .int (nI bl), .int (nI ta), .int (nI tl), .int mm_token, .int mm_value, .ref mm_next, .int (nI tk)])), (mm_now, .inl (cy 1, 122, .inl mm_now_f))] := hD
        refine lv_istore (lv' := [(4, .int r14), (3, .int x13), (0, .ref mm), (1, .int px), (2, .int py)]) hx hb dX11_lesson_49 hl (by decide) rfl (fun ls hl => ?_)
        refine lv_iconst (v := 1) hx hb dX11_lesson_51 (by decide) ?_
        refine lv_iload_n hx hb dX11_lesson_52 rfl (lv_at hl 3 rfl) ?_
        refine W.eq (g2 := F0 m 53 ls [.int (nI j6), .int 1]) (congrArg (fun v9 : Int32 => F0 m 53 ls [.int v9, .int 1]) ej6) ?_
        refine lv_ishl hx hb dX11_lesson_53 ?_
        refine W.eq (g2 := F0 m 54 ls [.int (nI (2 ^ j6))]) (congrArg (fun v9 : Int32 => F0 m 54 ls [.int v9]) (sh1 j6 (by omega))) ?_
        refine lv_istore (lv' := [(5, .int (nI (2 ^ j6))), (4, .int r14), (3, .int x13), (0, .ref mm), (1, .int px), (2, .int py)]) hx hb dX11_lesson_54 hl (by decide) rfl (fun ls hl => ?_)
        refine lv_iconst (v := 0) hx hb dX11_lesson_56 (by decide) ?_
        refine lv_istore (lv' := [(6, .int 0), (5, .int (nI (2 ^ j6))), (4, .int r14), (3, .int x13), (0, .ref mm), (1, .int px), (2, .int py)]) hx hb dX11_lesson_57 hl (by decide) rfl (fun ls hl => ?_)
        have lp59 : ∀ (n59 : Nat) (v5_59 : Nat) (v6_59 : Int32) (hkn : v5_59 < 32), 32 - v5_59 < n59 → ∀ (H : Heap) (locs : List Loc), va_P D vwCl [(mm_refused, .inl (cy 1, 3, .inl mm_refused_f)), (mm, .inr (11, [.ref mm_now, .ref mm_kept, .ref mm_isKept, .ref mm_refused, .int z15, .int z16, .ref mm_stands, .ref mm_far, .ref mm_queue, .int mm_queued, .ref mm_meets, .ref mm_bytes, .int (nI bl), .int (nI ta), .int (nI tl), .int mm_token, .int mm_value, .ref mm_next, .int (nI tk)])), (mm_now, .inl (cy 1, 122, .inl mm_now_f))] H → va_D A [(mm_refused, .inl (cy 1, 3, .inl mm_refused_f)), (mm, .inr (11, [.ref mm_now, .ref mm_kept, .ref mm_isKept, .ref mm_refused, .int z15, .int z16, .ref mm_stands, .ref mm_far, .ref mm_queue, .int mm_queued, .ref mm_meets, .ref mm_bytes, .int (nI bl), .int (nI ta), .int (nI tl), .int mm_token, .int mm_value, .ref mm_next, .int (nI tk)])), (mm_now, .inl (cy 1, 122, .inl mm_now_f))] → va_S A s.heap H locs → ∀ ls : Array Slot, lv_has ls 11 [(6, .int v6_59), (5, .int (nI v5_59)), (4, .int r14), (3, .int x13), (0, .ref mm), (1, .int px), (2, .int py)] → W p l e (headSpec wsX11_lesson ({ frames := 8, cells := 0, slots := 0, locals := 180 })).room s m [.ref mm, .int px, .int py].toArray below meth c H locs 0 0 QF (F0 m 59 ls []) := by
          intro n59
          induction n59 with
          | zero => intro v5_59 v6_59 hkn hm; exact absurd hm (Nat.not_lt_zero _)
          | succ n59 ih59 =>
            intro v5_59 v6_59 hkn hm59 H locs hP hD hS ls hl
            refine lv_iload_n hx hb dX11_lesson_59 rfl (lv_at hl 3 rfl) ?_
            refine lv_iload hx hb dX11_lesson_60 (lv_at hl 1 rfl) ?_
            refine lv_iconst (v := (-1)) hx hb dX11_lesson_62 (by decide) ?_
            refine lv_ixor hx hb dX11_lesson_63 ?_
            refine lv_iand hx hb dX11_lesson_64 ?_
            refine lv_if_eq (tgt := 197) hx hb dX11_lesson_65 (by decide) (fun c17 => ?_) (fun c17 => ?_)
            · skip
              refine lv_iload hx hb dX11_lesson_197 (lv_at hl 0 rfl) ?_
              subst hQF
              have hP9 := hP.sub (ws' := [(mm, .inr (11, [.ref mm_now, .ref mm_kept, .ref mm_isKept, .ref mm_refused, .int z15, .int z16, .ref mm_stands, .ref mm_far, .ref mm_queue, .int mm_queued, .ref mm_meets, .ref mm_bytes, .int (nI bl), .int (nI ta), .int (nI tl), .int mm_token, .int mm_value, .ref mm_next, .int (nI tk)])), (mm_now, .inl (cy 1, 122, .inl mm_now_f)), (mm_refused, .inl (cy 1, 3, .inl mm_refused_f))]) [1, 2, 0] rfl
              have hD9 := hD.sub (ws' := [(mm, .inr (11, [.ref mm_now, .ref mm_kept, .ref mm_isKept, .ref mm_refused, .int z15, .int z16, .ref mm_stands, .ref mm_far, .ref mm_queue, .int mm_queued, .ref mm_meets, .ref mm_bytes, .int (nI bl), .int (nI ta), .int (nI tl), .int mm_token, .int mm_value, .ref mm_next, .int (nI tk)])), (mm_now, .inl (cy 1, 122, .inl mm_now_f)), (mm_refused, .inl (cy 1, 3, .inl mm_refused_f))]) [1, 2, 0] (by decide) rfl
              exact W.iret (v := v6_59) hx hb hr (fun t ht hW => ⟨⟨v6_59, (z15, z16, mm_refused_f), rfl, trivial, by rw [ht]; exact hP9, hD9⟩, hS.F ht⟩) hS.2.2 dX11_lesson_199
            · skip
              refine lv_iload hx hb dX11_lesson_68 (lv_at hl 1 rfl) ?_
              refine lv_istore (lv' := [(7, .int (nI v5_59)), (6, .int v6_59), (5, .int (nI v5_59)), (4, .int r14), (3, .int x13), (0, .ref mm), (1, .int px), (2, .int py)]) hx hb dX11_lesson_70 hl (by decide) rfl (fun ls hl => ?_)
              refine lv_iconst (v := 0) hx hb dX11_lesson_72 (by decide) ?_
              refine lv_istore (lv' := [(8, .int 0), (7, .int (nI v5_59)), (6, .int v6_59), (5, .int (nI v5_59)), (4, .int r14), (3, .int x13), (0, .ref mm), (1, .int px), (2, .int py)]) hx hb dX11_lesson_73 hl (by decide) rfl (fun ls hl => ?_)
              have lp75 : ∀ (n75 : Nat) (v8_75 : Nat) (v7_75 : Nat) (hv8_75 : v8_75 < 2147483648) (htn : v7_75 < 32) (htk : v5_59 ≤ v7_75), 2147483648 - v8_75 < n75 → ∀ (H : Heap) (locs : List Loc), va_P D vwCl [(mm_refused, .inl (cy 1, 3, .inl mm_refused_f)), (mm, .inr (11, [.ref mm_now, .ref mm_kept, .ref mm_isKept, .ref mm_refused, .int z15, .int z16, .ref mm_stands, .ref mm_far, .ref mm_queue, .int mm_queued, .ref mm_meets, .ref mm_bytes, .int (nI bl), .int (nI ta), .int (nI tl), .int mm_token, .int mm_value, .ref mm_next, .int (nI tk)])), (mm_now, .inl (cy 1, 122, .inl mm_now_f))] H → va_D A [(mm_refused, .inl (cy 1, 3, .inl mm_refused_f)), (mm, .inr (11, [.ref mm_now, .ref mm_kept, .ref mm_isKept, .ref mm_refused, .int z15, .int z16, .ref mm_stands, .ref mm_far, .ref mm_queue, .int mm_queued, .ref mm_meets, .ref mm_bytes, .int (nI bl), .int (nI ta), .int (nI tl), .int mm_token, .int mm_value, .ref mm_next, .int (nI tk)])), (mm_now, .inl (cy 1, 122, .inl mm_now_f))] → va_S A s.heap H locs → ∀ ls : Array Slot, lv_has ls 11 [(8, .int (nI v8_75)), (7, .int (nI v7_75)), (6, .int v6_59), (5, .int (nI v5_59)), (4, .int r14), (3, .int x13), (0, .ref mm), (1, .int px), (2, .int py)] → W p l e (headSpec wsX11_lesson ({ frames := 8, cells := 0, slots := 0, locals := 180 })).room s m [.ref mm, .int px, .int py].toArray below meth c H locs 0 0 QF (F0 m 75 ls []) := by
                intro n75
                induction n75 with
                | zero => intro v8_75 v7_75 hv8_75 htn htk hm; exact absurd hm (Nat.not_lt_zero _)
                | succ n75 ih75 =>
                  intro v8_75 v7_75 hv8_75 htn htk hm75 H locs hP hD hS ls hl
                  refine lv_iload hx hb dX11_lesson_75 (lv_at hl 0 rfl) ?_
                  refine lv_aload_n hx hb dX11_lesson_77 rfl (lv_at hl 6 rfl) ?_
                  refine rd_i (va_runV (As := []) (rest := [.int (nI v8_75)]) ⟨hx, hb, hml, hown, hts⟩ (n_X11_people l D cy mW mH mS mP mm mm_now mm_kept mm_isKept mm_refused z15 z16 mm_stands mm_far mm_queue mm_queued mm_meets mm_bytes bl ta tl mm_token mm_value mm_next tk mm_now_f _ (by first | assumption | omega)) (cwV 0 hts gX11_lesson_X11_people rfl rfl rfl (by decide +kernel) ⟨Nat.le_of_ble_eq_true rfl, Nat.le_of_ble_eq_true rfl⟩) (pV (ci := 11) (k := 0) hKA (hP.sub (ws' := [(mm, .inr (11, [.ref mm_now, .ref mm_kept, .ref mm_isKept, .ref mm_refused, .int z15, .int z16, .ref mm_stands, .ref mm_far, .ref mm_queue, .int mm_queued, .ref mm_meets, .ref mm_bytes, .int (nI bl), .int (nI ta), .int (nI tl), .int mm_token, .int mm_value, .ref mm_next, .int (nI tk)])), (mm_now, .inl (cy 1, 122, .inl mm_now_f))]) [1, 2] rfl) (hD.sub (ws' := [(mm, .inr (11, [.ref mm_now, .ref mm_kept, .ref mm_isKept, .ref mm_refused, .int z15, .int z16, .ref mm_stands, .ref mm_far, .ref mm_queue, .int mm_queued, .ref mm_meets, .ref mm_bytes, .int (nI bl), .int (nI ta), .int (nI tl), .int mm_token, .int mm_value, .ref mm_next, .int (nI tk)])), (mm_now, .inl (cy 1, 122, .inl mm_now_f))]) [1, 2] (by decide) rfl) rfl rfl) rfl rfl hl.1 rfl (lv_room (Nat.le_of_ble_eq_true rfl)) dX11_lesson_78 ⟨Nat.le_of_ble_eq_true rfl, Nat.le_of_ble_eq_true rfl⟩) hP hS hA (fun r18 H locs hwr18 hP hS => ?_)
                  have hwr18 : r18 = nI mP := hwr18
                  subst hwr18
                  refine lv_icmp_ge (tgt := 178) hx hb dX11_lesson_81 (by decide) (fun c19 => ?_) (fun c19 => ?_)
                  · skip
                    refine lv_iload hx hb dX11_lesson_178 (lv_at hl 1 rfl) ?_
                    refine lv_iload hx hb dX11_lesson_180 (lv_at hl 3 rfl) ?_
                    refine lv_icmp_ne (tgt := 187) hx hb dX11_lesson_182 (by decide) (fun c20 => ?_) (fun c20 => ?_)
                    · skip
                      refine lv_iload hx hb dX11_lesson_187 (lv_at hl 1 rfl) ?_
                      refine lv_istore (lv' := [(5, .int (nI v7_75)), (8, .int (nI v8_75)), (7, .int (nI v7_75)), (6, .int v6_59), (4, .int r14), (3, .int x13), (0, .ref mm), (1, .int px), (2, .int py)]) hx hb dX11_lesson_189 hl (by decide) rfl (fun ls hl => ?_)
                      obtain ⟨x21, ex21⟩ : ∃ y : Int32, y = v6_59 + 1 := ⟨_, rfl⟩
                      refine lv_iinc (v := x21) (lv' := [(6, .int x21), (5, .int (nI v7_75)), (8, .int (nI v8_75)), (7, .int (nI v7_75)), (4, .int r14), (3, .int x13), (0, .ref mm), (1, .int px), (2, .int py)]) hx hb dX11_lesson_191 hl (k := 3) rfl (by rw [ex21]; rfl) (by decide) rfl (fun ls hl => ?_)
                      refine lv_goto (tgt := 59) hx hb dX11_lesson_194 (by decide) ?_
                      exact ih59 v7_75 x21 (by assumption) (by have q : ¬ v7_75 = v5_59 := (fun e => absurd (congrArg nI e) (by assumption)); omega) _ _ hP hD hS ls (lv_sub hl [0, 1, 4, 5, 6, 7, 8] rfl)
                    · skip
                      refine lv_iconst (v := (-1)) hx hb dX11_lesson_185 (by decide) ?_
                      subst hQF
                      have hP9 := hP.sub (ws' := [(mm, .inr (11, [.ref mm_now, .ref mm_kept, .ref mm_isKept, .ref mm_refused, .int z15, .int z16, .ref mm_stands, .ref mm_far, .ref mm_queue, .int mm_queued, .ref mm_meets, .ref mm_bytes, .int (nI bl), .int (nI ta), .int (nI tl), .int mm_token, .int mm_value, .ref mm_next, .int (nI tk)])), (mm_now, .inl (cy 1, 122, .inl mm_now_f)), (mm_refused, .inl (cy 1, 3, .inl mm_refused_f))]) [1, 2, 0] rfl
                      have hD9 := hD.sub (ws' := [(mm, .inr (11, [.ref mm_now, .ref mm_kept, .ref mm_isKept, .ref mm_refused, .int z15, .int z16, .ref mm_stands, .ref mm_far, .ref mm_queue, .int mm_queued, .ref mm_meets, .ref mm_bytes, .int (nI bl), .int (nI ta), .int (nI tl), .int mm_token, .int mm_value, .ref mm_next, .int (nI tk)])), (mm_now, .inl (cy 1, 122, .inl mm_now_f)), (mm_refused, .inl (cy 1, 3, .inl mm_refused_f))]) [1, 2, 0] (by decide) rfl
                      exact W.iret (v := (-1)) hx hb hr (fun t ht hW => ⟨⟨(-1), (z15, z16, mm_refused_f), rfl, trivial, by rw [ht]; exact hP9, hD9⟩, hS.F ht⟩) hS.2.2 dX11_lesson_186
                  · skip
                    have hk81 := ltM (n := mP) (k := v8_75) (by omega) (by assumption) (by assumption)
                    refine lv_iload hx hb dX11_lesson_84 (lv_at hl 3 rfl) ?_
                    refine lv_iload hx hb dX11_lesson_86 (lv_at hl 0 rfl) ?_
                    refine lv_ishr hx hb dX11_lesson_88 ?_
                    refine lv_iload hx hb dX11_lesson_89 (lv_at hl 4 rfl) ?_
                    refine lv_iload hx hb dX11_lesson_91 (lv_at hl 0 rfl) ?_
                    refine lv_ishr hx hb dX11_lesson_93 ?_
                    refine lv_iand hx hb dX11_lesson_94 ?_
                    refine lv_iconst (v := 1) hx hb dX11_lesson_95 (by decide) ?_
                    refine lv_iand hx hb dX11_lesson_96 ?_
                    refine lv_iconst (v := 1) hx hb dX11_lesson_97 (by decide) ?_
                    have j116 : ∀ (s1_116 : Int32) (bs1_116 : s1_116 = 1 ∨ s1_116 = 0) (H : Heap) (locs : List Loc), va_P D vwCl [(mm_refused, .inl (cy 1, 3, .inl mm_refused_f)), (mm, .inr (11, [.ref mm_now, .ref mm_kept, .ref mm_isKept, .ref mm_refused, .int z15, .int z16, .ref mm_stands, .ref mm_far, .ref mm_queue, .int mm_queued, .ref mm_meets, .ref mm_bytes, .int (nI bl), .int (nI ta), .int (nI tl), .int mm_token, .int mm_value, .ref mm_next, .int (nI tk)])), (mm_now, .inl (cy 1, 122, .inl mm_now_f))] H → va_D A [(mm_refused, .inl (cy 1, 3, .inl mm_refused_f)), (mm, .inr (11, [.ref mm_now, .ref mm_kept, .ref mm_isKept, .ref mm_refused, .int z15, .int z16, .ref mm_stands, .ref mm_far, .ref mm_queue, .int mm_queued, .ref mm_meets, .ref mm_bytes, .int (nI bl), .int (nI ta), .int (nI tl), .int mm_token, .int mm_value, .ref mm_next, .int (nI tk)])), (mm_now, .inl (cy 1, 122, .inl mm_now_f))] → va_S A s.heap H locs → ∀ ls : Array Slot, lv_has ls 11 [(8, .int (nI v8_75)), (7, .int (nI v7_75)), (6, .int v6_59), (5, .int (nI v5_59)), (4, .int r14), (3, .int x13), (0, .ref mm), (1, .int px), (2, .int py)] → W p l e (headSpec wsX11_lesson ({ frames := 8, cells := 0, slots := 0, locals := 180 })).room s m [.ref mm, .int px, .int py].toArray below meth c H locs 0 0 QF (F0 m 116 ls [.int s1_116]) := by
                      intro s1_116 bs1_116 H locs hP hD hS ls hl
                      refine lv_istore (lv' := [(9, .int s1_116), (8, .int (nI v8_75)), (7, .int (nI v7_75)), (6, .int v6_59), (5, .int (nI v5_59)), (4, .int r14), (3, .int x13), (0, .ref mm), (1, .int px), (2, .int py)]) hx hb dX11_lesson_116 hl (by decide) rfl (fun ls hl => ?_)
                      refine lv_iconst (v := 0) hx hb dX11_lesson_118 (by decide) ?_
                      refine lv_istore (lv' := [(10, .int 0), (9, .int s1_116), (8, .int (nI v8_75)), (7, .int (nI v7_75)), (6, .int v6_59), (5, .int (nI v5_59)), (4, .int r14), (3, .int x13), (0, .ref mm), (1, .int px), (2, .int py)]) hx hb dX11_lesson_119 hl (by decide) rfl (fun ls hl => ?_)
                      have lp121 : ∀ (n121 : Nat) (v10_121 : Nat) (v7_121 : Nat) (hv10_121 : v10_121 < 2147483648) (hun : v7_121 < 32) (huk : v5_59 ≤ v7_121), 2147483648 - v10_121 < n121 → ∀ (H : Heap) (locs : List Loc), va_P D vwCl [(mm_refused, .inl (cy 1, 3, .inl mm_refused_f)), (mm, .inr (11, [.ref mm_now, .ref mm_kept, .ref mm_isKept, .ref mm_refused, .int z15, .int z16, .ref mm_stands, .ref mm_far, .ref mm_queue, .int mm_queued, .ref mm_meets, .ref mm_bytes, .int (nI bl), .int (nI ta), .int (nI tl), .int mm_token, .int mm_value, .ref mm_next, .int (nI tk)])), (mm_now, .inl (cy 1, 122, .inl mm_now_f))] H → va_D A [(mm_refused, .inl (cy 1, 3, .inl mm_refused_f)), (mm, .inr (11, [.ref mm_now, .ref mm_kept, .ref mm_isKept, .ref mm_refused, .int z15, .int z16, .ref mm_stands, .ref mm_far, .ref mm_queue, .int mm_queued, .ref mm_meets, .ref mm_bytes, .int (nI bl), .int (nI ta), .int (nI tl), .int mm_token, .int mm_value, .ref mm_next, .int (nI tk)])), (mm_now, .inl (cy 1, 122, .inl mm_now_f))] → va_S A s.heap H locs → ∀ ls : Array Slot, lv_has ls 11 [(10, .int (nI v10_121)), (9, .int s1_116), (8, .int (nI v8_75)), (7, .int (nI v7_121)), (6, .int v6_59), (5, .int (nI v5_59)), (4, .int r14), (3, .int x13), (0, .ref mm), (1, .int px), (2, .int py)] → W p l e (headSpec wsX11_lesson ({ frames := 8, cells := 0, slots := 0, locals := 180 })).room s m [.ref mm, .int px, .int py].toArray below meth c H locs 0 0 QF (F0 m 121 ls []) := by
                        intro n121
                        induction n121 with
                        | zero => intro v10_121 v7_121 hv10_121 hun huk hm; exact absurd hm (Nat.not_lt_zero _)
                        | succ n121 ih121 =>
                          intro v10_121 v7_121 hv10_121 hun huk hm121 H locs hP hD hS ls hl
                          refine lv_iload hx hb dX11_lesson_121 (lv_at hl 0 rfl) ?_
                          refine lv_aload_n hx hb dX11_lesson_123 rfl (lv_at hl 8 rfl) ?_
                          refine rd_i (va_runV (As := []) (rest := [.int (nI v10_121)]) ⟨hx, hb, hml, hown, hts⟩ (n_X11_people l D cy mW mH mS mP mm mm_now mm_kept mm_isKept mm_refused z15 z16 mm_stands mm_far mm_queue mm_queued mm_meets mm_bytes bl ta tl mm_token mm_value mm_next tk mm_now_f _ (by first | assumption | omega)) (cwV 0 hts gX11_lesson_X11_people rfl rfl rfl (by decide +kernel) ⟨Nat.le_of_ble_eq_true rfl, Nat.le_of_ble_eq_true rfl⟩) (pV (ci := 11) (k := 0) hKA (hP.sub (ws' := [(mm, .inr (11, [.ref mm_now, .ref mm_kept, .ref mm_isKept, .ref mm_refused, .int z15, .int z16, .ref mm_stands, .ref mm_far, .ref mm_queue, .int mm_queued, .ref mm_meets, .ref mm_bytes, .int (nI bl), .int (nI ta), .int (nI tl), .int mm_token, .int mm_value, .ref mm_next, .int (nI tk)])), (mm_now, .inl (cy 1, 122, .inl mm_now_f))]) [1, 2] rfl) (hD.sub (ws' := [(mm, .inr (11, [.ref mm_now, .ref mm_kept, .ref mm_isKept, .ref mm_refused, .int z15, .int z16, .ref mm_stands, .ref mm_far, .ref mm_queue, .int mm_queued, .ref mm_meets, .ref mm_bytes, .int (nI bl), .int (nI ta), .int (nI tl), .int mm_token, .int mm_value, .ref mm_next, .int (nI tk)])), (mm_now, .inl (cy 1, 122, .inl mm_now_f))]) [1, 2] (by decide) rfl) rfl rfl) rfl rfl hl.1 rfl (lv_room (Nat.le_of_ble_eq_true rfl)) dX11_lesson_124 ⟨Nat.le_of_ble_eq_true rfl, Nat.le_of_ble_eq_true rfl⟩) hP hS hA (fun r22 H locs hwr22 hP hS => ?_)
                          have hwr22 : r22 = nI mP := hwr22
                          subst hwr22
                          refine lv_icmp_ge (tgt := 172) hx hb dX11_lesson_127 (by decide) (fun c23 => ?_) (fun c23 => ?_)
                          · skip
                            refine lv_iinc (v := nI (v8_75 + 1)) (lv' := [(8, .int (nI (v8_75 + 1))), (10, .int (nI v10_121)), (9, .int s1_116), (7, .int (nI v7_121)), (6, .int v6_59), (5, .int (nI v5_59)), (4, .int r14), (3, .int x13), (0, .ref mm), (1, .int px), (2, .int py)]) hx hb dX11_lesson_172 hl (k := 2) rfl (nI_1 _) (by decide) rfl (fun ls hl => ?_)
                            refine lv_goto (tgt := 75) hx hb dX11_lesson_175 (by decide) ?_
                            exact ih75 (v8_75 + 1) v7_121 (by first | omega | exact nlt_max hv8_75 (by assumption)) hun huk (by first | omega | (have := nlt_max hv8_75 (by assumption); omega)) _ _ hP hD hS ls (lv_sub hl [0, 3, 4, 5, 6, 7, 8, 9, 10] rfl)
                          · skip
                            have hk127 := ltM (n := mP) (k := v10_121) (by omega) (by assumption) (by assumption)
                            refine lv_iload hx hb dX11_lesson_130 (lv_at hl 1 rfl) ?_
                            refine lv_if_eq (tgt := 172) hx hb dX11_lesson_132 (by decide) (fun c24 => ?_) (fun c24 => ?_)
                            · skip
                              refine lv_iinc (v := nI (v8_75 + 1)) (lv' := [(8, .int (nI (v8_75 + 1))), (10, .int (nI v10_121)), (9, .int s1_116), (7, .int (nI v7_121)), (6, .int v6_59), (5, .int (nI v5_59)), (4, .int r14), (3, .int x13), (0, .ref mm), (1, .int px), (2, .int py)]) hx hb dX11_lesson_172 hl (k := 2) rfl (nI_1 _) (by decide) rfl (fun ls hl => ?_)
                              refine lv_goto (tgt := 75) hx hb dX11_lesson_175 (by decide) ?_
                              exact ih75 (v8_75 + 1) v7_121 (by first | omega | exact nlt_max hv8_75 (by assumption)) hun huk (by first | omega | (have := nlt_max hv8_75 (by assumption); omega)) _ _ hP hD hS ls (lv_sub hl [0, 3, 4, 5, 6, 7, 8, 9, 10] rfl)
                            · skip
                              refine lv_iload hx hb dX11_lesson_135 (lv_at hl 3 rfl) ?_
                              refine lv_iload hx hb dX11_lesson_137 (lv_at hl 0 rfl) ?_
                              refine lv_iload hx hb dX11_lesson_139 (lv_at hl 2 rfl) ?_
                              refine lv_icmp_eq (tgt := 162) hx hb dX11_lesson_141 (by decide) (fun c25 => ?_) (fun c25 => ?_)
                              · skip
                                refine lv_iconst (v := 0) hx hb dX11_lesson_162 (by decide) ?_
                                refine lv_ior hx hb dX11_lesson_163 ?_
                                refine W.eq (g2 := F0 m 164 ls [.int (nI (v7_121 ||| 0))]) (congrArg (fun v9 : Int32 => F0 m 164 ls [.int v9]) (fa_or v7_121 0)) ?_
                                refine lv_istore (lv' := [(7, .int (nI (v7_121 ||| 0))), (10, .int (nI v10_121)), (9, .int s1_116), (8, .int (nI v8_75)), (6, .int v6_59), (5, .int (nI v5_59)), (4, .int r14), (3, .int x13), (0, .ref mm), (1, .int px), (2, .int py)]) hx hb dX11_lesson_164 hl (by decide) rfl (fun ls hl => ?_)
                                refine lv_iinc (v := nI (v10_121 + 1)) (lv' := [(10, .int (nI (v10_121 + 1))), (7, .int (nI (v7_121 ||| 0))), (9, .int s1_116), (8, .int (nI v8_75)), (6, .int v6_59), (5, .int (nI v5_59)), (4, .int r14), (3, .int x13), (0, .ref mm), (1, .int px), (2, .int py)]) hx hb dX11_lesson_166 hl (k := 1) rfl (nI_1 _) (by decide) rfl (fun ls hl => ?_)
                                refine lv_goto (tgt := 121) hx hb dX11_lesson_169 (by decide) ?_
                                exact ih121 (v10_121 + 1) (v7_121 ||| 0) (by first | omega | exact nlt_max hv10_121 (by assumption)) (by first | exact or32 hun (p32 _ (by omega)) | exact or32 hun (by omega)) (Nat.le_trans huk Nat.left_le_or) (by first | omega | (have := nlt_max hv10_121 (by assumption); omega)) _ _ hP hD hS ls (lv_sub hl [0, 2, 3, 1, 4, 5, 6, 7, 8, 9, 10] rfl)
                              · skip
                                refine lv_aload_n hx hb dX11_lesson_144 rfl (lv_at hl 8 rfl) ?_
                                refine lv_iload hx hb dX11_lesson_145 (lv_at hl 0 rfl) ?_
                                refine lv_iload hx hb dX11_lesson_147 (lv_at hl 2 rfl) ?_
                                refine rd_i (va_runV (As := [.int (nI v10_121), .int (nI v8_75)]) (rest := [.int (nI v7_121)]) ⟨hx, hb, hml, hown, hts⟩ (n_X11_hears l D cy mW mH mS mP mm mm_now mm_kept mm_isKept mm_refused z15 z16 mm_stands mm_far mm_queue mm_queued mm_meets mm_bytes bl ta tl mm_token mm_value mm_next tk mm_now_f v10_121 v8_75 _ (by first | assumption | omega) (by first | assumption | omega) (by first | assumption | omega)) (cwV 2 hts gX11_lesson_X11_hears rfl rfl rfl (by decide +kernel) ⟨Nat.le_of_ble_eq_true rfl, Nat.le_of_ble_eq_true rfl⟩) (pV (ci := 11) (k := 0) hKA (hP.sub (ws' := [(mm, .inr (11, [.ref mm_now, .ref mm_kept, .ref mm_isKept, .ref mm_refused, .int z15, .int z16, .ref mm_stands, .ref mm_far, .ref mm_queue, .int mm_queued, .ref mm_meets, .ref mm_bytes, .int (nI bl), .int (nI ta), .int (nI tl), .int mm_token, .int mm_value, .ref mm_next, .int (nI tk)])), (mm_now, .inl (cy 1, 122, .inl mm_now_f))]) [1, 2] rfl) (hD.sub (ws' := [(mm, .inr (11, [.ref mm_now, .ref mm_kept, .ref mm_isKept, .ref mm_refused, .int z15, .int z16, .ref mm_stands, .ref mm_far, .ref mm_queue, .int mm_queued, .ref mm_meets, .ref mm_bytes, .int (nI bl), .int (nI ta), .int (nI tl), .int mm_token, .int mm_value, .ref mm_next, .int (nI tk)])), (mm_now, .inl (cy 1, 122, .inl mm_now_f))]) [1, 2] (by decide) rfl) rfl rfl) rfl rfl hl.1 rfl (lv_room (Nat.le_of_ble_eq_true rfl)) dX11_lesson_149 ⟨Nat.le_of_ble_eq_true rfl, Nat.le_of_ble_eq_true rfl⟩) hP hS hA (fun r26 H locs hwr26 hP hS => ?_)
                                have hwr26 : (r26 = 1 ∧ True) ∨ (r26 = 0 ∧ True) := hwr26
                                refine lv_if_eq (tgt := 162) hx hb dX11_lesson_152 (by decide) (fun c27 => ?_) (fun c27 => ?_)
                                · skip
                                  refine lv_iconst (v := 0) hx hb dX11_lesson_162 (by decide) ?_
                                  refine lv_ior hx hb dX11_lesson_163 ?_
                                  refine W.eq (g2 := F0 m 164 ls [.int (nI (v7_121 ||| 0))]) (congrArg (fun v9 : Int32 => F0 m 164 ls [.int v9]) (fa_or v7_121 0)) ?_
                                  refine lv_istore (lv' := [(7, .int (nI (v7_121 ||| 0))), (10, .int (nI v10_121)), (9, .int s1_116), (8, .int (nI v8_75)), (6, .int v6_59), (5, .int (nI v5_59)), (4, .int r14), (3, .int x13), (0, .ref mm), (1, .int px), (2, .int py)]) hx hb dX11_lesson_164 hl (by decide) rfl (fun ls hl => ?_)
                                  refine lv_iinc (v := nI (v10_121 + 1)) (lv' := [(10, .int (nI (v10_121 + 1))), (7, .int (nI (v7_121 ||| 0))), (9, .int s1_116), (8, .int (nI v8_75)), (6, .int v6_59), (5, .int (nI v5_59)), (4, .int r14), (3, .int x13), (0, .ref mm), (1, .int px), (2, .int py)]) hx hb dX11_lesson_166 hl (k := 1) rfl (nI_1 _) (by decide) rfl (fun ls hl => ?_)
                                  refine lv_goto (tgt := 121) hx hb dX11_lesson_169 (by decide) ?_
                                  exact ih121 (v10_121 + 1) (v7_121 ||| 0) (by first | omega | exact nlt_max hv10_121 (by assumption)) (by first | exact or32 hun (p32 _ (by omega)) | exact or32 hun (by omega)) (Nat.le_trans huk Nat.left_le_or) (by first | omega | (have := nlt_max hv10_121 (by assumption); omega)) _ _ hP hD hS ls (lv_sub hl [0, 2, 3, 1, 4, 5, 6, 7, 8, 9, 10] rfl)
                                · skip
                                  refine lv_iconst (v := 1) hx hb dX11_lesson_155 (by decide) ?_
                                  refine lv_iload hx hb dX11_lesson_156 (lv_at hl 0 rfl) ?_
                                  refine lv_ishl hx hb dX11_lesson_158 ?_
                                  refine W.eq (g2 := F0 m 159 ls [.int (nI (2 ^ v10_121)), .int (nI v7_121)]) (congrArg (fun v9 : Int32 => F0 m 159 ls [.int v9, .int (nI v7_121)]) (sh1 v10_121 (by omega))) ?_
                                  refine lv_goto (tgt := 163) hx hb dX11_lesson_159 (by decide) ?_
                                  refine lv_ior hx hb dX11_lesson_163 ?_
                                  refine W.eq (g2 := F0 m 164 ls [.int (nI (v7_121 ||| (2 ^ v10_121)))]) (congrArg (fun v9 : Int32 => F0 m 164 ls [.int v9]) (fa_or v7_121 (2 ^ v10_121))) ?_
                                  refine lv_istore (lv' := [(7, .int (nI (v7_121 ||| (2 ^ v10_121)))), (10, .int (nI v10_121)), (9, .int s1_116), (8, .int (nI v8_75)), (6, .int v6_59), (5, .int (nI v5_59)), (4, .int r14), (3, .int x13), (0, .ref mm), (1, .int px), (2, .int py)]) hx hb dX11_lesson_164 hl (by decide) rfl (fun ls hl => ?_)
                                  refine lv_iinc (v := nI (v10_121 + 1)) (lv' := [(10, .int (nI (v10_121 + 1))), (7, .int (nI (v7_121 ||| (2 ^ v10_121)))), (9, .int s1_116), (8, .int (nI v8_75)), (6, .int v6_59), (5, .int (nI v5_59)), (4, .int r14), (3, .int x13), (0, .ref mm), (1, .int px), (2, .int py)]) hx hb dX11_lesson_166 hl (k := 1) rfl (nI_1 _) (by decide) rfl (fun ls hl => ?_)
                                  refine lv_goto (tgt := 121) hx hb dX11_lesson_169 (by decide) ?_
                                  exact ih121 (v10_121 + 1) (v7_121 ||| (2 ^ v10_121)) (by first | omega | exact nlt_max hv10_121 (by assumption)) (by first | exact or32 hun (p32 _ (by omega)) | exact or32 hun (by omega)) (Nat.le_trans huk Nat.left_le_or) (by first | omega | (have := nlt_max hv10_121 (by assumption); omega)) _ _ hP hD hS ls (lv_sub hl [0, 2, 3, 1, 4, 5, 6, 7, 8, 9, 10] rfl)
                      exact lp121 (2147483648 - 0 + 1) 0 v7_75 (by first | omega | exact nlt_max (by assumption) (by assumption)) htn htk (Nat.lt_succ_self _) _ _ hP hD hS ls hl
                    refine lv_icmp_ne (tgt := 115) hx hb dX11_lesson_98 (by decide) (fun c28 => ?_) (fun c28 => ?_)
                    · skip
                      refine lv_iconst (v := 0) hx hb dX11_lesson_115 (by decide) ?_
                      exact j116 0 (Or.inr rfl) _ _ hP hD hS ls hl
                    · skip
                      refine lv_aload_n hx hb dX11_lesson_101 rfl (lv_at hl 6 rfl) ?_
                      refine lv_iload hx hb dX11_lesson_102 (lv_at hl 0 rfl) ?_
                      refine lv_iload_n hx hb dX11_lesson_104 rfl (lv_at hl 8 rfl) ?_
                      refine rd_i (va_runV (As := [.int (nI v8_75), .int py]) (rest := []) ⟨hx, hb, hml, hown, hts⟩ (n_X11_isHeardBy l D cy mW mH mS mP mm mm_now mm_kept mm_isKept mm_refused z15 z16 mm_stands mm_far mm_queue mm_queued mm_meets mm_bytes bl ta tl mm_token mm_value mm_next tk mm_now_f v8_75 py _ (by first | assumption | omega) (by first | assumption | omega)) (cwV 2 hts gX11_lesson_X11_isHeardBy rfl rfl rfl (by decide +kernel) ⟨Nat.le_of_ble_eq_true rfl, Nat.le_of_ble_eq_true rfl⟩) (pV (ci := 11) (k := 0) hKA (hP.sub (ws' := [(mm, .inr (11, [.ref mm_now, .ref mm_kept, .ref mm_isKept, .ref mm_refused, .int z15, .int z16, .ref mm_stands, .ref mm_far, .ref mm_queue, .int mm_queued, .ref mm_meets, .ref mm_bytes, .int (nI bl), .int (nI ta), .int (nI tl), .int mm_token, .int mm_value, .ref mm_next, .int (nI tk)])), (mm_now, .inl (cy 1, 122, .inl mm_now_f))]) [1, 2] rfl) (hD.sub (ws' := [(mm, .inr (11, [.ref mm_now, .ref mm_kept, .ref mm_isKept, .ref mm_refused, .int z15, .int z16, .ref mm_stands, .ref mm_far, .ref mm_queue, .int mm_queued, .ref mm_meets, .ref mm_bytes, .int (nI bl), .int (nI ta), .int (nI tl), .int mm_token, .int mm_value, .ref mm_next, .int (nI tk)])), (mm_now, .inl (cy 1, 122, .inl mm_now_f))]) [1, 2] (by decide) rfl) rfl rfl) rfl rfl hl.1 rfl (lv_room (Nat.le_of_ble_eq_true rfl)) dX11_lesson_105 ⟨Nat.le_of_ble_eq_true rfl, Nat.le_of_ble_eq_true rfl⟩) hP hS hA (fun r29 H locs hwr29 hP hS => ?_)
                      have hwr29 : (r29 = 1 ∧ True) ∨ (r29 = 0 ∧ True) := hwr29
                      refine lv_if_ne (tgt := 115) hx hb dX11_lesson_108 (by decide) (fun c30 => ?_) (fun c30 => ?_)
                      · skip
                        refine lv_iconst (v := 0) hx hb dX11_lesson_115 (by decide) ?_
                        exact j116 0 (Or.inr rfl) _ _ hP hD hS ls hl
                      · skip
                        refine lv_iconst (v := 1) hx hb dX11_lesson_111 (by decide) ?_
                        refine lv_goto (tgt := 116) hx hb dX11_lesson_112 (by decide) ?_
                        exact j116 1 (Or.inl rfl) _ _ hP hD hS ls hl
              exact lp75 (2147483648 - 0 + 1) 0 v5_59 (by first | omega | exact nlt_max (by assumption) (by assumption)) hkn (Nat.le_refl _) (Nat.lt_succ_self _) _ _ hP hD hS ls hl
        exact lp59 (32 - (2 ^ j6) + 1) (2 ^ j6) 0 (p32 _ (by omega)) (Nat.lt_succ_self _) _ _ hP hD hS ls hl
      · skip
        refine lv_aload_n hx hb dX11_lesson_25 rfl (lv_at hl 0 rfl) ?_
        refine lv_bipush (v := (-2)) hx hb dX11_lesson_26 (by decide) ?_
        refine wr_i (wr := [(mm_now, .inl (cy 1, 122, .inl mm_now_f))]) (va_runV (As := [.int (-2)]) (rest := []) ⟨hx, hb, hml, hown, hts⟩ (n_X11_bad l D cy mm mm_now mm_kept mm_isKept mm_refused mm_lineFrom mm_lineTo mm_stands mm_far mm_queue mm_queued mm_meets mm_bytes bl ta tl mm_token mm_value mm_next tk mm_refused_f (-2) _ ) (cwV 1 hts gX11_lesson_X11_bad rfl rfl rfl (by decide +kernel) ⟨Nat.le_of_ble_eq_true rfl, Nat.le_of_ble_eq_true rfl⟩) (pV (ci := 11) (k := 0) hKA (hP.sub (ws' := [(mm, .inr (11, [.ref mm_now, .ref mm_kept, .ref mm_isKept, .ref mm_refused, .int mm_lineFrom, .int mm_lineTo, .ref mm_stands, .ref mm_far, .ref mm_queue, .int mm_queued, .ref mm_meets, .ref mm_bytes, .int (nI bl), .int (nI ta), .int (nI tl), .int mm_token, .int mm_value, .ref mm_next, .int (nI tk)])), (mm_refused, .inl (cy 1, 3, .inl mm_refused_f))]) [0, 2] rfl) (hD.sub (ws' := [(mm, .inr (11, [.ref mm_now, .ref mm_kept, .ref mm_isKept, .ref mm_refused, .int mm_lineFrom, .int mm_lineTo, .ref mm_stands, .ref mm_far, .ref mm_queue, .int mm_queued, .ref mm_meets, .ref mm_bytes, .int (nI bl), .int (nI ta), .int (nI tl), .int mm_token, .int mm_value, .ref mm_next, .int (nI tk)])), (mm_refused, .inl (cy 1, 3, .inl mm_refused_f))]) [0, 2] (by decide) rfl) rfl rfl) rfl rfl hl.1 rfl (lv_room (Nat.le_of_ble_eq_true rfl)) dX11_lesson_28 ⟨Nat.le_of_ble_eq_true rfl, Nat.le_of_ble_eq_true rfl⟩) hP hD hS hA [0, 2] [1] rfl rfl (by decide +kernel) (by decide +kernel) (fun r31 ur31 H locs hwr31 hP hD hS => ?_)
        obtain ⟨z32, rfl⟩ : ∃ z, z = ur31 := ⟨_, rfl⟩
        have hP : va_P D vwCl [(mm_now, .inl (cy 1, 122, .inl mm_now_f)), (mm, .inr (11, [.ref mm_now, .ref mm_kept, .ref mm_isKept, .ref mm_refused, .int mm_lineFrom, .int mm_lineTo, .ref mm_stands, .ref mm_far, .ref mm_queue, .int mm_queued, .ref mm_meets, .ref mm_bytes, .int (nI bl), .int (nI ta), .int (nI tl), .int mm_token, .int mm_value, .ref mm_next, .int (nI tk)])), (mm_refused, .inl (cy 1, 3, .inl z32))] H := hP
        have hD : va_D A [(mm_now, .inl (cy 1, 122, .inl mm_now_f)), (mm, .inr (11, [.ref mm_now, .ref mm_kept, .ref mm_isKept, .ref mm_refused, .int mm_lineFrom, .int mm_lineTo, .ref mm_stands, .ref mm_far, .ref mm_queue, .int mm_queued, .ref mm_meets, .ref mm_bytes, .int (nI bl), .int (nI ta), .int (nI tl), .int mm_token, .int mm_value, .ref mm_next, .int (nI tk)])), (mm_refused, .inl (cy 1, 3, .inl z32))] := hD
        have hwr31 : r31 = (-2) := hwr31
        subst hwr31
        subst hQF
        have hP9 := hP.sub (ws' := [(mm, .inr (11, [.ref mm_now, .ref mm_kept, .ref mm_isKept, .ref mm_refused, .int mm_lineFrom, .int mm_lineTo, .ref mm_stands, .ref mm_far, .ref mm_queue, .int mm_queued, .ref mm_meets, .ref mm_bytes, .int (nI bl), .int (nI ta), .int (nI tl), .int mm_token, .int mm_value, .ref mm_next, .int (nI tk)])), (mm_now, .inl (cy 1, 122, .inl mm_now_f)), (mm_refused, .inl (cy 1, 3, .inl z32))]) [1, 0, 2] rfl
        have hD9 := hD.sub (ws' := [(mm, .inr (11, [.ref mm_now, .ref mm_kept, .ref mm_isKept, .ref mm_refused, .int mm_lineFrom, .int mm_lineTo, .ref mm_stands, .ref mm_far, .ref mm_queue, .int mm_queued, .ref mm_meets, .ref mm_bytes, .int (nI bl), .int (nI ta), .int (nI tl), .int mm_token, .int mm_value, .ref mm_next, .int (nI tk)])), (mm_now, .inl (cy 1, 122, .inl mm_now_f)), (mm_refused, .inl (cy 1, 3, .inl z32))]) [1, 0, 2] (by decide) rfl
        exact W.iret (v := (-2)) hx hb hr (fun t ht hW => ⟨⟨(-2), (mm_lineFrom, mm_lineTo, z32), rfl, trivial, by rw [ht]; exact hP9, hD9⟩, hS.F ht⟩) hS.2.2 dX11_lesson_31
