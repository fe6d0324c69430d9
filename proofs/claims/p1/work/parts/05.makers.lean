theorem dX7_init_0 : decode cX7_init 0 = .ok (.aload_n 0, 1) := by decide +kernel
theorem dX7_init_1 : decode cX7_init 1 = .ok (.invokespecial 1, 3) := by decide +kernel
theorem dX7_init_4 : decode cX7_init 4 = .ok (.return_, 1) := by decide +kernel
theorem dX0_init_0 : decode cX0_init 0 = .ok (.aload_n 0, 1) := by decide +kernel
set_option maxRecDepth 20000 in
theorem ggX0_init_X7_init : GoodIn wsX0_init wsX7_init := goodIn_r _ [3, 4, 5, 6] (by decide +kernel) (by decide +kernel)
set_option maxRecDepth 20000 in
theorem gX0_init_X7_init_n1 : GoodIn wsX0_init (wsX7_init) := ggX0_init_X7_init
theorem dX0_init_1 : decode cX0_init 1 = .ok (.invokespecial 1, 3) := by decide +kernel
theorem dX0_init_4 : decode cX0_init 4 = .ok (.return_, 1) := by decide +kernel
theorem dX1_init_0 : decode cX1_init 0 = .ok (.aload_n 0, 1) := by decide +kernel
set_option maxRecDepth 20000 in
theorem ggX1_init_X7_init : GoodIn wsX1_init wsX7_init := goodIn_r _ [3, 4, 5, 6] (by decide +kernel) (by decide +kernel)
set_option maxRecDepth 20000 in
theorem gX1_init_X7_init_n1 : GoodIn wsX1_init (wsX7_init) := ggX1_init_X7_init
theorem dX1_init_1 : decode cX1_init 1 = .ok (.invokespecial 1, 3) := by decide +kernel
theorem dX1_init_4 : decode cX1_init 4 = .ok (.return_, 1) := by decide +kernel
theorem dX2_init_0 : decode cX2_init 0 = .ok (.aload_n 0, 1) := by decide +kernel
set_option maxRecDepth 20000 in
theorem ggX2_init_X7_init : GoodIn wsX2_init wsX7_init := goodIn_r _ [3, 4, 5, 6] (by decide +kernel) (by decide +kernel)
set_option maxRecDepth 20000 in
theorem gX2_init_X7_init_n1 : GoodIn wsX2_init (wsX7_init) := ggX2_init_X7_init
theorem dX2_init_1 : decode cX2_init 1 = .ok (.invokespecial 1, 3) := by decide +kernel
theorem dX2_init_4 : decode cX2_init 4 = .ok (.return_, 1) := by decide +kernel
theorem dX9_init_0 : decode cX9_init 0 = .ok (.aload_n 0, 1) := by decide +kernel
set_option maxRecDepth 20000 in
theorem ggX9_init_X7_init : GoodIn wsX9_init wsX7_init := goodIn_r _ [3, 4, 5, 6] (by decide +kernel) (by decide +kernel)
set_option maxRecDepth 20000 in
theorem gX9_init_X7_init_n1 : GoodIn wsX9_init (wsX7_init) := ggX9_init_X7_init
theorem dX9_init_1 : decode cX9_init 1 = .ok (.invokespecial 1, 3) := by decide +kernel
theorem dX9_init_4 : decode cX9_init 4 = .ok (.return_, 1) := by decide +kernel
theorem dX5_init_0 : decode cX5_init 0 = .ok (.aload_n 0, 1) := by decide +kernel
set_option maxRecDepth 20000 in
theorem ggX5_init_X2_init : GoodIn wsX5_init wsX2_init := goodIn_r _ [3, 4, 5, 6, 7, 8, 9] (by decide +kernel) (by decide +kernel)
set_option maxRecDepth 20000 in
theorem gX5_init_X2_init_n1 : GoodIn wsX5_init (wsX2_init) := ggX5_init_X2_init
theorem dX5_init_1 : decode cX5_init 1 = .ok (.invokespecial 1, 3) := by decide +kernel
theorem dX5_init_4 : decode cX5_init 4 = .ok (.return_, 1) := by decide +kernel
theorem dX3_init_0 : decode cX3_init 0 = .ok (.aload_n 0, 1) := by decide +kernel
theorem dX3_init_1 : decode cX3_init 1 = .ok (.invokespecial 3, 3) := by decide +kernel
theorem dX3_init_4 : decode cX3_init 4 = .ok (.aload_n 0, 1) := by decide +kernel
theorem dX3_init_5 : decode cX3_init 5 = .ok (.iconst 5, 1) := by decide +kernel
theorem dX3_init_6 : decode cX3_init 6 = .ok (.newarray .int, 2) := by decide +kernel
theorem dX3_init_8 : decode cX3_init 8 = .ok (.putfield 9, 3) := by decide +kernel
theorem dX3_init_11 : decode cX3_init 11 = .ok (.aload_n 0, 1) := by decide +kernel
theorem dX3_init_12 : decode cX3_init 12 = .ok (.iconst 5, 1) := by decide +kernel
theorem dX3_init_13 : decode cX3_init 13 = .ok (.newarray .int, 2) := by decide +kernel
theorem dX3_init_15 : decode cX3_init 15 = .ok (.putfield 15, 3) := by decide +kernel
theorem dX3_init_18 : decode cX3_init 18 = .ok (.aload_n 0, 1) := by decide +kernel
theorem dX3_init_19 : decode cX3_init 19 = .ok (.iconst 5, 1) := by decide +kernel
theorem dX3_init_20 : decode cX3_init 20 = .ok (.newarray .int, 2) := by decide +kernel
theorem dX3_init_22 : decode cX3_init 22 = .ok (.putfield 18, 3) := by decide +kernel
theorem dX3_init_25 : decode cX3_init 25 = .ok (.aload_n 0, 1) := by decide +kernel
theorem dX3_init_26 : decode cX3_init 26 = .ok (.bipush 6, 2) := by decide +kernel
theorem dX3_init_28 : decode cX3_init 28 = .ok (.newarray .int, 2) := by decide +kernel
theorem dX3_init_30 : decode cX3_init 30 = .ok (.putfield 21, 3) := by decide +kernel
theorem dX3_init_33 : decode cX3_init 33 = .ok (.aload_n 0, 1) := by decide +kernel
theorem dX3_init_34 : decode cX3_init 34 = .ok (.bipush 6, 2) := by decide +kernel
theorem dX3_init_36 : decode cX3_init 36 = .ok (.newarray .int, 2) := by decide +kernel
theorem dX3_init_38 : decode cX3_init 38 = .ok (.putfield 24, 3) := by decide +kernel
theorem dX3_init_41 : decode cX3_init 41 = .ok (.aload_n 0, 1) := by decide +kernel
theorem dX3_init_42 : decode cX3_init 42 = .ok (.bipush 8, 2) := by decide +kernel
theorem dX3_init_44 : decode cX3_init 44 = .ok (.newarray .int, 2) := by decide +kernel
theorem dX3_init_46 : decode cX3_init 46 = .ok (.putfield 27, 3) := by decide +kernel
theorem dX3_init_49 : decode cX3_init 49 = .ok (.aload_n 0, 1) := by decide +kernel
theorem dX3_init_50 : decode cX3_init 50 = .ok (.bipush 8, 2) := by decide +kernel
theorem dX3_init_52 : decode cX3_init 52 = .ok (.newarray .int, 2) := by decide +kernel
theorem dX3_init_54 : decode cX3_init 54 = .ok (.putfield 30, 3) := by decide +kernel
theorem dX3_init_57 : decode cX3_init 57 = .ok (.aload_n 0, 1) := by decide +kernel
theorem dX3_init_58 : decode cX3_init 58 = .ok (.bipush 6, 2) := by decide +kernel
theorem dX3_init_60 : decode cX3_init 60 = .ok (.putfield 33, 3) := by decide +kernel
theorem dX3_init_63 : decode cX3_init 63 = .ok (.aload_n 0, 1) := by decide +kernel
theorem dX3_init_64 : decode cX3_init 64 = .ok (.bipush 6, 2) := by decide +kernel
theorem dX3_init_66 : decode cX3_init 66 = .ok (.putfield 37, 3) := by decide +kernel
theorem dX3_init_69 : decode cX3_init 69 = .ok (.aload_n 0, 1) := by decide +kernel
theorem dX3_init_70 : decode cX3_init 70 = .ok (.iconst 1, 1) := by decide +kernel
theorem dX3_init_71 : decode cX3_init 71 = .ok (.putfield 40, 3) := by decide +kernel
theorem dX3_init_74 : decode cX3_init 74 = .ok (.return_, 1) := by decide +kernel
theorem dX4_init_0 : decode cX4_init 0 = .ok (.aload_n 0, 1) := by decide +kernel
theorem dX4_init_1 : decode cX4_init 1 = .ok (.invokespecial 3, 3) := by decide +kernel
theorem dX4_init_4 : decode cX4_init 4 = .ok (.aload_n 0, 1) := by decide +kernel
theorem dX4_init_5 : decode cX4_init 5 = .ok (.new 9, 3) := by decide +kernel
theorem dX4_init_8 : decode cX4_init 8 = .ok (.dup, 1) := by decide +kernel
set_option maxRecDepth 20000 in
theorem ggX4_init_X7_init : GoodIn wsX4_init wsX7_init := goodIn_r _ [31, 32, 2, 3] (by decide +kernel) (by decide +kernel)
set_option maxRecDepth 20000 in
theorem gX4_init_X7_init_n11 : GoodIn wsX4_init (wsX7_init) := ggX4_init_X7_init
theorem dX4_init_9 : decode cX4_init 9 = .ok (.invokespecial 11, 3) := by decide +kernel
theorem dX4_init_12 : decode cX4_init 12 = .ok (.putfield 12, 3) := by decide +kernel
theorem dX4_init_15 : decode cX4_init 15 = .ok (.aload_n 0, 1) := by decide +kernel
theorem dX4_init_16 : decode cX4_init 16 = .ok (.bipush 6, 2) := by decide +kernel
theorem dX4_init_18 : decode cX4_init 18 = .ok (.anewarray 9, 3) := by decide +kernel
theorem dX4_init_21 : decode cX4_init 21 = .ok (.putfield 18, 3) := by decide +kernel
theorem dX4_init_24 : decode cX4_init 24 = .ok (.aload_n 0, 1) := by decide +kernel
theorem dX4_init_25 : decode cX4_init 25 = .ok (.iconst 5, 1) := by decide +kernel
theorem dX4_init_26 : decode cX4_init 26 = .ok (.newarray .int, 2) := by decide +kernel
theorem dX4_init_28 : decode cX4_init 28 = .ok (.putfield 22, 3) := by decide +kernel
theorem dX4_init_31 : decode cX4_init 31 = .ok (.aload_n 0, 1) := by decide +kernel
theorem dX4_init_32 : decode cX4_init 32 = .ok (.iconst 5, 1) := by decide +kernel
theorem dX4_init_33 : decode cX4_init 33 = .ok (.newarray .int, 2) := by decide +kernel
theorem dX4_init_35 : decode cX4_init 35 = .ok (.putfield 26, 3) := by decide +kernel
theorem dX4_init_38 : decode cX4_init 38 = .ok (.aload_n 0, 1) := by decide +kernel
theorem dX4_init_39 : decode cX4_init 39 = .ok (.bipush 36, 2) := by decide +kernel
theorem dX4_init_41 : decode cX4_init 41 = .ok (.newarray .int, 2) := by decide +kernel
theorem dX4_init_43 : decode cX4_init 43 = .ok (.putfield 29, 3) := by decide +kernel
theorem dX4_init_46 : decode cX4_init 46 = .ok (.aload_n 0, 1) := by decide +kernel
theorem dX4_init_47 : decode cX4_init 47 = .ok (.bipush 36, 2) := by decide +kernel
theorem dX4_init_49 : decode cX4_init 49 = .ok (.newarray .int, 2) := by decide +kernel
theorem dX4_init_51 : decode cX4_init 51 = .ok (.putfield 32, 3) := by decide +kernel
theorem dX4_init_54 : decode cX4_init 54 = .ok (.aload_n 0, 1) := by decide +kernel
theorem dX4_init_55 : decode cX4_init 55 = .ok (.aload_n 1, 1) := by decide +kernel
theorem dX4_init_56 : decode cX4_init 56 = .ok (.putfield 35, 3) := by decide +kernel
theorem dX4_init_59 : decode cX4_init 59 = .ok (.aload_n 0, 1) := by decide +kernel
theorem dX4_init_60 : decode cX4_init 60 = .ok (.getfield 18, 3) := by decide +kernel
theorem dX4_init_63 : decode cX4_init 63 = .ok (.iconst 0, 1) := by decide +kernel
theorem dX4_init_64 : decode cX4_init 64 = .ok (.aload_n 0, 1) := by decide +kernel
theorem dX4_init_65 : decode cX4_init 65 = .ok (.getfield 12, 3) := by decide +kernel
theorem dX4_init_68 : decode cX4_init 68 = .ok (.aastore, 1) := by decide +kernel
theorem dX4_init_69 : decode cX4_init 69 = .ok (.aload_n 0, 1) := by decide +kernel
theorem dX4_init_70 : decode cX4_init 70 = .ok (.getfield 18, 3) := by decide +kernel
theorem dX4_init_73 : decode cX4_init 73 = .ok (.iconst 1, 1) := by decide +kernel
theorem dX4_init_74 : decode cX4_init 74 = .ok (.new 39, 3) := by decide +kernel
theorem dX4_init_77 : decode cX4_init 77 = .ok (.dup, 1) := by decide +kernel
set_option maxRecDepth 20000 in
theorem ggX4_init_X2_init : GoodIn wsX4_init wsX2_init := goodIn_r _ [34, 30, 6, 31, 32, 2, 3] (by decide +kernel) (by decide +kernel)
set_option maxRecDepth 20000 in
theorem gX4_init_X2_init_n41 : GoodIn wsX4_init (wsX2_init) := ggX4_init_X2_init
theorem dX4_init_78 : decode cX4_init 78 = .ok (.invokespecial 41, 3) := by decide +kernel
theorem dX4_init_81 : decode cX4_init 81 = .ok (.aastore, 1) := by decide +kernel
theorem dX4_init_82 : decode cX4_init 82 = .ok (.aload_n 0, 1) := by decide +kernel
theorem dX4_init_83 : decode cX4_init 83 = .ok (.getfield 18, 3) := by decide +kernel
theorem dX4_init_86 : decode cX4_init 86 = .ok (.iconst 2, 1) := by decide +kernel
theorem dX4_init_87 : decode cX4_init 87 = .ok (.new 42, 3) := by decide +kernel
theorem dX4_init_90 : decode cX4_init 90 = .ok (.dup, 1) := by decide +kernel
set_option maxRecDepth 20000 in
theorem ggX4_init_X1_init : GoodIn wsX4_init wsX1_init := goodIn_r _ [36, 30, 6, 31, 32, 2, 3] (by decide +kernel) (by decide +kernel)
set_option maxRecDepth 20000 in
theorem gX4_init_X1_init_n44 : GoodIn wsX4_init (wsX1_init) := ggX4_init_X1_init
theorem dX4_init_91 : decode cX4_init 91 = .ok (.invokespecial 44, 3) := by decide +kernel
theorem dX4_init_94 : decode cX4_init 94 = .ok (.aastore, 1) := by decide +kernel
theorem dX4_init_95 : decode cX4_init 95 = .ok (.aload_n 0, 1) := by decide +kernel
theorem dX4_init_96 : decode cX4_init 96 = .ok (.getfield 18, 3) := by decide +kernel
theorem dX4_init_99 : decode cX4_init 99 = .ok (.iconst 3, 1) := by decide +kernel
theorem dX4_init_100 : decode cX4_init 100 = .ok (.new 45, 3) := by decide +kernel
theorem dX4_init_103 : decode cX4_init 103 = .ok (.dup, 1) := by decide +kernel
set_option maxRecDepth 20000 in
theorem ggX4_init_X9_init : GoodIn wsX4_init wsX9_init := goodIn_r _ [38, 30, 6, 31, 32, 2, 3] (by decide +kernel) (by decide +kernel)
set_option maxRecDepth 20000 in
theorem gX4_init_X9_init_n47 : GoodIn wsX4_init (wsX9_init) := ggX4_init_X9_init
theorem dX4_init_104 : decode cX4_init 104 = .ok (.invokespecial 47, 3) := by decide +kernel
theorem dX4_init_107 : decode cX4_init 107 = .ok (.aastore, 1) := by decide +kernel
theorem dX4_init_108 : decode cX4_init 108 = .ok (.aload_n 0, 1) := by decide +kernel
theorem dX4_init_109 : decode cX4_init 109 = .ok (.getfield 18, 3) := by decide +kernel
theorem dX4_init_112 : decode cX4_init 112 = .ok (.iconst 4, 1) := by decide +kernel
theorem dX4_init_113 : decode cX4_init 113 = .ok (.new 48, 3) := by decide +kernel
theorem dX4_init_116 : decode cX4_init 116 = .ok (.dup, 1) := by decide +kernel
set_option maxRecDepth 20000 in
theorem ggX4_init_X5_init : GoodIn wsX4_init wsX5_init := goodIn_r _ [40, 33, 17, 34, 30, 6, 31, 32, 2, 3] (by decide +kernel) (by decide +kernel)
set_option maxRecDepth 20000 in
theorem gX4_init_X5_init_n50 : GoodIn wsX4_init (wsX5_init) := ggX4_init_X5_init
theorem dX4_init_117 : decode cX4_init 117 = .ok (.invokespecial 50, 3) := by decide +kernel
theorem dX4_init_120 : decode cX4_init 120 = .ok (.aastore, 1) := by decide +kernel
theorem dX4_init_121 : decode cX4_init 121 = .ok (.aload_n 0, 1) := by decide +kernel
theorem dX4_init_122 : decode cX4_init 122 = .ok (.getfield 18, 3) := by decide +kernel
theorem dX4_init_125 : decode cX4_init 125 = .ok (.iconst 5, 1) := by decide +kernel
theorem dX4_init_126 : decode cX4_init 126 = .ok (.new 51, 3) := by decide +kernel
theorem dX4_init_129 : decode cX4_init 129 = .ok (.dup, 1) := by decide +kernel
set_option maxRecDepth 20000 in
theorem ggX4_init_X0_init : GoodIn wsX4_init wsX0_init := goodIn_r _ [42, 30, 6, 31, 32, 2, 3] (by decide +kernel) (by decide +kernel)
set_option maxRecDepth 20000 in
theorem gX4_init_X0_init_n53 : GoodIn wsX4_init (wsX0_init) := ggX4_init_X0_init
theorem dX4_init_130 : decode cX4_init 130 = .ok (.invokespecial 53, 3) := by decide +kernel
theorem dX4_init_133 : decode cX4_init 133 = .ok (.aastore, 1) := by decide +kernel
theorem dX4_init_134 : decode cX4_init 134 = .ok (.return_, 1) := by decide +kernel
theorem dX6_init_0 : decode cX6_init 0 = .ok (.aload_n 0, 1) := by decide +kernel
theorem dX6_init_1 : decode cX6_init 1 = .ok (.invokespecial 5, 3) := by decide +kernel
theorem dX6_init_4 : decode cX6_init 4 = .ok (.aload_n 0, 1) := by decide +kernel
theorem dX6_init_5 : decode cX6_init 5 = .ok (.bipush 36, 2) := by decide +kernel
theorem dX6_init_7 : decode cX6_init 7 = .ok (.newarray .int, 2) := by decide +kernel
theorem dX6_init_9 : decode cX6_init 9 = .ok (.putfield 11, 3) := by decide +kernel
theorem dX6_init_12 : decode cX6_init 12 = .ok (.aload_n 0, 1) := by decide +kernel
theorem dX6_init_13 : decode cX6_init 13 = .ok (.sipush 1152, 3) := by decide +kernel
theorem dX6_init_16 : decode cX6_init 16 = .ok (.newarray .int, 2) := by decide +kernel
theorem dX6_init_18 : decode cX6_init 18 = .ok (.putfield 15, 3) := by decide +kernel
theorem dX6_init_21 : decode cX6_init 21 = .ok (.aload_n 0, 1) := by decide +kernel
theorem dX6_init_22 : decode cX6_init 22 = .ok (.sipush 1152, 3) := by decide +kernel
theorem dX6_init_25 : decode cX6_init 25 = .ok (.newarray .int, 2) := by decide +kernel
theorem dX6_init_27 : decode cX6_init 27 = .ok (.putfield 18, 3) := by decide +kernel
theorem dX6_init_30 : decode cX6_init 30 = .ok (.aload_n 0, 1) := by decide +kernel
theorem dX6_init_31 : decode cX6_init 31 = .ok (.aload_n 1, 1) := by decide +kernel
theorem dX6_init_32 : decode cX6_init 32 = .ok (.putfield 21, 3) := by decide +kernel
theorem dX6_init_35 : decode cX6_init 35 = .ok (.aload_n 0, 1) := by decide +kernel
theorem dX6_init_36 : decode cX6_init 36 = .ok (.aload_n 2, 1) := by decide +kernel
theorem dX6_init_37 : decode cX6_init 37 = .ok (.putfield 25, 3) := by decide +kernel
theorem dX6_init_40 : decode cX6_init 40 = .ok (.return_, 1) := by decide +kernel
theorem dX8_init_0 : decode cX8_init 0 = .ok (.aload_n 0, 1) := by decide +kernel
theorem dX8_init_1 : decode cX8_init 1 = .ok (.invokespecial 3, 3) := by decide +kernel
theorem dX8_init_4 : decode cX8_init 4 = .ok (.aload_n 0, 1) := by decide +kernel
theorem dX8_init_5 : decode cX8_init 5 = .ok (.sipush 250, 3) := by decide +kernel
theorem dX8_init_8 : decode cX8_init 8 = .ok (.newarray .byte, 2) := by decide +kernel
theorem dX8_init_10 : decode cX8_init 10 = .ok (.putfield 9, 3) := by decide +kernel
theorem dX8_init_13 : decode cX8_init 13 = .ok (.return_, 1) := by decide +kernel
set_option maxHeartbeats 4000000 in
set_option maxRecDepth 100000 in
theorem c_X7_init (l : Launch) (D : va_G) (cy : Nat → ClassId) (q : Nat) (sz : Nat)  : Met l yX7_init wsX7_init ({ frames := 1, cells := 0, slots := 0, locals := 12 }) (va_Pc [.ref q] (kPre D cy [] sz)) (va_Qv (fun (_ : Unit) => True) (fun _ _ => True) (fun q : Nat => sz ≤ q)) 0 0 (fun q : Nat => sz ≤ q) := by
  refine Met.ofW (cc := cX7_init) (maxL := 1) (ret := none) (by decide) rfl ?_
  intro p e s m args below meth c s₁ B hml hv
  obtain ⟨rfl, hsz, hP, hKA, hD0⟩ := hv
  have hx := B.exec
  have hb := B.bytes
  have hr := B.returns
  have hts := atoms_spec (ws := wsX7_init) B.pre
  have hown : s.vm.findClass RX7 = some m.cls := findClass_of_methodNamed B.named
  have hlocks := B.notSynchronized
  have hin : meth.name = "<init>" := (name_of_methodNamed B.named B.method).1
  subst hsz
  have hK := hKA.1
  have hD := hD0
  generalize hAe : (fun q : Nat => s.heap.size ≤ q) = A
  have hA : ∀ q : Nat, s.heap.size ≤ q → A q := fun q h => by rw [← hAe]; exact h
  have hS : va_S A s.heap s.heap [] := va_S.rf
  have hP : va_P D vwCl [] s.heap := hP
  have hl := lv_entry ([.ref q]) (n := 1) (Nat.le_of_ble_eq_true rfl)
  rw [lg_entry_eq]
  generalize (lg_sl ([.ref q]) ++ List.replicate (1 - (lg_sl ([.ref q])).length) Slot.unset).toArray = ls at hl ⊢
  have hl : lv_has ls 1 [(0, .ref q)] := hl
  have z0_ := hts (.methodLink RX7 1 objectInit) (by decide +kernel)
  have z1_ := hts (.instanceMethod objectInit) (by decide +kernel)
  have z2_ := hts (.code objectInit ⟨#[0xb1]⟩ 1 none) (by decide +kernel)
  refine lv_aload_n hx hb dX7_init_0 rfl (lv_at hl 0 rfl) ?_
  refine W.objInit hx hb hown z0_ z1_ z2_ rfl (by rw [hml]; exact hl.1) rfl dX7_init_1 (Nat.le_of_ble_eq_true rfl) (Nat.le_of_ble_eq_true rfl) ?_
  refine W.eq (g2 := F0 m 4 ls []) rfl ?_
  exact W.vret hx hb hr (fun t ht hW => ⟨⟨(), rfl, trivial, trivial⟩, hS.F ht⟩) hS.2.2 dX7_init_4

set_option maxHeartbeats 4000000 in
set_option maxRecDepth 100000 in
theorem c_X0_init (l : Launch) (D : va_G) (cy : Nat → ClassId) (q : Nat) (sz : Nat)  : Met l yX0_init wsX0_init ({ frames := 2, cells := 0, slots := 0, locals := 32 }) (va_Pc [.ref q] (kPre D cy [] sz)) (va_Qv (fun (_ : Unit) => True) (fun _ _ => True) (fun q : Nat => sz ≤ q)) 0 0 (fun q : Nat => sz ≤ q) := by
  refine Met.ofW (cc := cX0_init) (maxL := 1) (ret := none) (by decide) rfl ?_
  intro p e s m args below meth c s₁ B hml hv
  obtain ⟨rfl, hsz, hP, hKA, hD0⟩ := hv
  have hx := B.exec
  have hb := B.bytes
  have hr := B.returns
  have hts := atoms_spec (ws := wsX0_init) B.pre
  have hown : s.vm.findClass RX0 = some m.cls := findClass_of_methodNamed B.named
  have hlocks := B.notSynchronized
  have hin : meth.name = "<init>" := (name_of_methodNamed B.named B.method).1
  subst hsz
  have hK := hKA.1
  have hD := hD0
  generalize hAe : (fun q : Nat => s.heap.size ≤ q) = A
  have hA : ∀ q : Nat, s.heap.size ≤ q → A q := fun q h => by rw [← hAe]; exact h
  have hS : va_S A s.heap s.heap [] := va_S.rf
  have hP : va_P D vwCl [] s.heap := hP
  have hl := lv_entry ([.ref q]) (n := 1) (Nat.le_of_ble_eq_true rfl)
  rw [lg_entry_eq]
  generalize (lg_sl ([.ref q]) ++ List.replicate (1 - (lg_sl ([.ref q])).length) Slot.unset).toArray = ls at hl ⊢
  have hl : lv_has ls 1 [(0, .ref q)] := hl
  have z0_ := hts (.initialized RX7) (by decide +kernel)
  have z1_ := hts (.instanceMethod yX7_init) (by decide +kernel)
  refine lv_aload_n hx hb dX0_init_0 rfl (lv_at hl 0 rfl) ?_
  refine rd_v (va_runIN (As := []) (rest := []) ⟨hx, hb, hml, hown, hts⟩ (c_X7_init l D cy q _) ⟨(va_cnB 0 hts gX0_init_X7_init_n1 rfl rfl rfl (hKA.2 (.methodLinkNest RX0 1 yX7_init RX10) (by decide +kernel)) z0_ (by decide +kernel) ⟨Nat.le_of_ble_eq_true rfl, Nat.le_of_ble_eq_true rfl⟩), rfl, z1_⟩ (pS hKA pE (dE (A := A))) rfl rfl hl.1 rfl (lv_room (Nat.le_of_ble_eq_true rfl)) dX0_init_1 ⟨Nat.le_of_ble_eq_true rfl, Nat.le_of_ble_eq_true rfl⟩) hP hS hA (fun H locs hwr1 hP hS => ?_)
  exact W.vret hx hb hr (fun t ht hW => ⟨⟨(), rfl, trivial, trivial⟩, hS.F ht⟩) hS.2.2 dX0_init_4

set_option maxHeartbeats 4000000 in
set_option maxRecDepth 100000 in
theorem c_X1_init (l : Launch) (D : va_G) (cy : Nat → ClassId) (q : Nat) (sz : Nat)  : Met l yX1_init wsX1_init ({ frames := 2, cells := 0, slots := 0, locals := 32 }) (va_Pc [.ref q] (kPre D cy [] sz)) (va_Qv (fun (_ : Unit) => True) (fun _ _ => True) (fun q : Nat => sz ≤ q)) 0 0 (fun q : Nat => sz ≤ q) := by
  refine Met.ofW (cc := cX1_init) (maxL := 1) (ret := none) (by decide) rfl ?_
  intro p e s m args below meth c s₁ B hml hv
  obtain ⟨rfl, hsz, hP, hKA, hD0⟩ := hv
  have hx := B.exec
  have hb := B.bytes
  have hr := B.returns
  have hts := atoms_spec (ws := wsX1_init) B.pre
  have hown : s.vm.findClass RX1 = some m.cls := findClass_of_methodNamed B.named
  have hlocks := B.notSynchronized
  have hin : meth.name = "<init>" := (name_of_methodNamed B.named B.method).1
  subst hsz
  have hK := hKA.1
  have hD := hD0
  generalize hAe : (fun q : Nat => s.heap.size ≤ q) = A
  have hA : ∀ q : Nat, s.heap.size ≤ q → A q := fun q h => by rw [← hAe]; exact h
  have hS : va_S A s.heap s.heap [] := va_S.rf
  have hP : va_P D vwCl [] s.heap := hP
  have hl := lv_entry ([.ref q]) (n := 1) (Nat.le_of_ble_eq_true rfl)
  rw [lg_entry_eq]
  generalize (lg_sl ([.ref q]) ++ List.replicate (1 - (lg_sl ([.ref q])).length) Slot.unset).toArray = ls at hl ⊢
  have hl : lv_has ls 1 [(0, .ref q)] := hl
  have z0_ := hts (.initialized RX7) (by decide +kernel)
  have z1_ := hts (.instanceMethod yX7_init) (by decide +kernel)
  refine lv_aload_n hx hb dX1_init_0 rfl (lv_at hl 0 rfl) ?_
  refine rd_v (va_runIN (As := []) (rest := []) ⟨hx, hb, hml, hown, hts⟩ (c_X7_init l D cy q _) ⟨(va_cnB 0 hts gX1_init_X7_init_n1 rfl rfl rfl (hKA.2 (.methodLinkNest RX1 1 yX7_init RX10) (by decide +kernel)) z0_ (by decide +kernel) ⟨Nat.le_of_ble_eq_true rfl, Nat.le_of_ble_eq_true rfl⟩), rfl, z1_⟩ (pS hKA pE (dE (A := A))) rfl rfl hl.1 rfl (lv_room (Nat.le_of_ble_eq_true rfl)) dX1_init_1 ⟨Nat.le_of_ble_eq_true rfl, Nat.le_of_ble_eq_true rfl⟩) hP hS hA (fun H locs hwr1 hP hS => ?_)
  exact W.vret hx hb hr (fun t ht hW => ⟨⟨(), rfl, trivial, trivial⟩, hS.F ht⟩) hS.2.2 dX1_init_4

set_option maxHeartbeats 4000000 in
set_option maxRecDepth 100000 in
theorem c_X2_init (l : Launch) (D : va_G) (cy : Nat → ClassId) (q : Nat) (sz : Nat)  : Met l yX2_init wsX2_init ({ frames := 2, cells := 0, slots := 0, locals := 32 }) (va_Pc [.ref q] (kPre D cy [] sz)) (va_Qv (fun (_ : Unit) => True) (fun _ _ => True) (fun q : Nat => sz ≤ q)) 0 0 (fun q : Nat => sz ≤ q) := by
  refine Met.ofW (cc := cX2_init) (maxL := 1) (ret := none) (by decide) rfl ?_
  intro p e s m args below meth c s₁ B hml hv
  obtain ⟨rfl, hsz, hP, hKA, hD0⟩ := hv
  have hx := B.exec
  have hb := B.bytes
  have hr := B.returns
  have hts := atoms_spec (ws := wsX2_init) B.pre
  have hown : s.vm.findClass RX2 = some m.cls := findClass_of_methodNamed B.named
  have hlocks := B.notSynchronized
  have hin : meth.name = "<init>" := (name_of_methodNamed B.named B.method).1
  subst hsz
  have hK := hKA.1
  have hD := hD0
  generalize hAe : (fun q : Nat => s.heap.size ≤ q) = A
  have hA : ∀ q : Nat, s.heap.size ≤ q → A q := fun q h => by rw [← hAe]; exact h
  have hS : va_S A s.heap s.heap [] := va_S.rf
  have hP : va_P D vwCl [] s.heap := hP
  have hl := lv_entry ([.ref q]) (n := 1) (Nat.le_of_ble_eq_true rfl)
  rw [lg_entry_eq]
  generalize (lg_sl ([.ref q]) ++ List.replicate (1 - (lg_sl ([.ref q])).length) Slot.unset).toArray = ls at hl ⊢
  have hl : lv_has ls 1 [(0, .ref q)] := hl
  have z0_ := hts (.initialized RX7) (by decide +kernel)
  have z1_ := hts (.instanceMethod yX7_init) (by decide +kernel)
  refine lv_aload_n hx hb dX2_init_0 rfl (lv_at hl 0 rfl) ?_
  refine rd_v (va_runIN (As := []) (rest := []) ⟨hx, hb, hml, hown, hts⟩ (c_X7_init l D cy q _) ⟨(va_cnB 0 hts gX2_init_X7_init_n1 rfl rfl rfl (hKA.2 (.methodLinkNest RX2 1 yX7_init RX10) (by decide +kernel)) z0_ (by decide +kernel) ⟨Nat.le_of_ble_eq_true rfl, Nat.le_of_ble_eq_true rfl⟩), rfl, z1_⟩ (pS hKA pE (dE (A := A))) rfl rfl hl.1 rfl (lv_room (Nat.le_of_ble_eq_true rfl)) dX2_init_1 ⟨Nat.le_of_ble_eq_true rfl, Nat.le_of_ble_eq_true rfl⟩) hP hS hA (fun H locs hwr1 hP hS => ?_)
  exact W.vret hx hb hr (fun t ht hW => ⟨⟨(), rfl, trivial, trivial⟩, hS.F ht⟩) hS.2.2 dX2_init_4

set_option maxHeartbeats 4000000 in
set_option maxRecDepth 100000 in
theorem c_X9_init (l : Launch) (D : va_G) (cy : Nat → ClassId) (q : Nat) (sz : Nat)  : Met l yX9_init wsX9_init ({ frames := 2, cells := 0, slots := 0, locals := 32 }) (va_Pc [.ref q] (kPre D cy [] sz)) (va_Qv (fun (_ : Unit) => True) (fun _ _ => True) (fun q : Nat => sz ≤ q)) 0 0 (fun q : Nat => sz ≤ q) := by
  refine Met.ofW (cc := cX9_init) (maxL := 1) (ret := none) (by decide) rfl ?_
  intro p e s m args below meth c s₁ B hml hv
  obtain ⟨rfl, hsz, hP, hKA, hD0⟩ := hv
  have hx := B.exec
  have hb := B.bytes
  have hr := B.returns
  have hts := atoms_spec (ws := wsX9_init) B.pre
  have hown : s.vm.findClass RX9 = some m.cls := findClass_of_methodNamed B.named
  have hlocks := B.notSynchronized
  have hin : meth.name = "<init>" := (name_of_methodNamed B.named B.method).1
  subst hsz
  have hK := hKA.1
  have hD := hD0
  generalize hAe : (fun q : Nat => s.heap.size ≤ q) = A
  have hA : ∀ q : Nat, s.heap.size ≤ q → A q := fun q h => by rw [← hAe]; exact h
  have hS : va_S A s.heap s.heap [] := va_S.rf
  have hP : va_P D vwCl [] s.heap := hP
  have hl := lv_entry ([.ref q]) (n := 1) (Nat.le_of_ble_eq_true rfl)
  rw [lg_entry_eq]
  generalize (lg_sl ([.ref q]) ++ List.replicate (1 - (lg_sl ([.ref q])).length) Slot.unset).toArray = ls at hl ⊢
  have hl : lv_has ls 1 [(0, .ref q)] := hl
  have z0_ := hts (.initialized RX7) (by decide +kernel)
  have z1_ := hts (.instanceMethod yX7_init) (by decide +kernel)
  refine lv_aload_n hx hb dX9_init_0 rfl (lv_at hl 0 rfl) ?_
  refine rd_v (va_runIN (As := []) (rest := []) ⟨hx, hb, hml, hown, hts⟩ (c_X7_init l D cy q _) ⟨(va_cnB 0 hts gX9_init_X7_init_n1 rfl rfl rfl (hKA.2 (.methodLinkNest RX9 1 yX7_init RX10) (by decide +kernel)) z0_ (by decide +kernel) ⟨Nat.le_of_ble_eq_true rfl, Nat.le_of_ble_eq_true rfl⟩), rfl, z1_⟩ (pS hKA pE (dE (A := A))) rfl rfl hl.1 rfl (lv_room (Nat.le_of_ble_eq_true rfl)) dX9_init_1 ⟨Nat.le_of_ble_eq_true rfl, Nat.le_of_ble_eq_true rfl⟩) hP hS hA (fun H locs hwr1 hP hS => ?_)
  exact W.vret hx hb hr (fun t ht hW => ⟨⟨(), rfl, trivial, trivial⟩, hS.F ht⟩) hS.2.2 dX9_init_4

set_option maxHeartbeats 4000000 in
set_option maxRecDepth 100000 in
theorem c_X5_init (l : Launch) (D : va_G) (cy : Nat → ClassId) (q : Nat) (sz : Nat)  : Met l yX5_init wsX5_init ({ frames := 3, cells := 0, slots := 0, locals := 52 }) (va_Pc [.ref q] (kPre D cy [] sz)) (va_Qv (fun (_ : Unit) => True) (fun _ _ => True) (fun q : Nat => sz ≤ q)) 0 0 (fun q : Nat => sz ≤ q) := by
  refine Met.ofW (cc := cX5_init) (maxL := 1) (ret := none) (by decide) rfl ?_
  intro p e s m args below meth c s₁ B hml hv
  obtain ⟨rfl, hsz, hP, hKA, hD0⟩ := hv
  have hx := B.exec
  have hb := B.bytes
  have hr := B.returns
  have hts := atoms_spec (ws := wsX5_init) B.pre
  have hown : s.vm.findClass RX5 = some m.cls := findClass_of_methodNamed B.named
  have hlocks := B.notSynchronized
  have hin : meth.name = "<init>" := (name_of_methodNamed B.named B.method).1
  subst hsz
  have hK := hKA.1
  have hD := hD0
  generalize hAe : (fun q : Nat => s.heap.size ≤ q) = A
  have hA : ∀ q : Nat, s.heap.size ≤ q → A q := fun q h => by rw [← hAe]; exact h
  have hS : va_S A s.heap s.heap [] := va_S.rf
  have hP : va_P D vwCl [] s.heap := hP
  have hl := lv_entry ([.ref q]) (n := 1) (Nat.le_of_ble_eq_true rfl)
  rw [lg_entry_eq]
  generalize (lg_sl ([.ref q]) ++ List.replicate (1 - (lg_sl ([.ref q])).length) Slot.unset).toArray = ls at hl ⊢
  have hl : lv_has ls 1 [(0, .ref q)] := hl
  have z0_ := hts (.initialized RX2) (by decide +kernel)
  have z1_ := hts (.instanceMethod yX2_init) (by decide +kernel)
  refine lv_aload_n hx hb dX5_init_0 rfl (lv_at hl 0 rfl) ?_
  refine rd_v (va_runIN (As := []) (rest := []) ⟨hx, hb, hml, hown, hts⟩ (c_X2_init l D cy q _) ⟨(va_cnB 0 hts gX5_init_X2_init_n1 rfl rfl rfl (hKA.2 (.methodLinkNest RX5 1 yX2_init RX10) (by decide +kernel)) z0_ (by decide +kernel) ⟨Nat.le_of_ble_eq_true rfl, Nat.le_of_ble_eq_true rfl⟩), rfl, z1_⟩ (pS hKA pE (dE (A := A))) rfl rfl hl.1 rfl (lv_room (Nat.le_of_ble_eq_true rfl)) dX5_init_1 ⟨Nat.le_of_ble_eq_true rfl, Nat.le_of_ble_eq_true rfl⟩) hP hS hA (fun H locs hwr1 hP hS => ?_)
  exact W.vret hx hb hr (fun t ht hW => ⟨⟨(), rfl, trivial, trivial⟩, hS.F ht⟩) hS.2.2 dX5_init_4

set_option maxHeartbeats 4000000 in
set_option maxRecDepth 100000 in
theorem c_X3_init (l : Launch) (D : va_G) (cy : Nat → ClassId) (g : Nat) (sz : Nat)  : Met l yX3_init wsX3_init ({ frames := 1, cells := 7, slots := 43, locals := 12 }) (va_Pc [.ref g] (kPre D cy [(g, .inr (3, [.int 0, .int 0, .int 0, .int 0, .long 0, .long 0, .int 0, .int 0, .int 0, .null, .null, .null, .null, .null, .null, .null]))] sz)) (va_Qv (fun (_ : Nat × Nat × Nat × Nat × Nat × Nat × Nat) => True) (fun (u : Nat × Nat × Nat × Nat × Nat × Nat × Nat) t => va_P D vwCl ([(g, .inr (3, [.int 6, .int 6, .int 1, .int 0, .long 0, .long 0, .int 0, .int 0, .int 0, .ref u.1, .ref u.2.1, .ref u.2.2.1, .ref u.2.2.2.1, .ref u.2.2.2.2.1, .ref u.2.2.2.2.2.1, .ref u.2.2.2.2.2.2])), (u.1, .inl (cy 1, 5, .inl (fun _ => 0))), (u.2.1, .inl (cy 1, 5, .inl (fun _ => 0))), (u.2.2.1, .inl (cy 1, 5, .inl (fun _ => 0))), (u.2.2.2.1, .inl (cy 1, 6, .inl (fun _ => 0))), (u.2.2.2.2.1, .inl (cy 1, 6, .inl (fun _ => 0))), (u.2.2.2.2.2.1, .inl (cy 1, 8, .inl (fun _ => 0))), (u.2.2.2.2.2.2, .inl (cy 1, 8, .inl (fun _ => 0)))]) t.heap ∧ va_D (va_A [(g, .inr (3, [.int 0, .int 0, .int 0, .int 0, .long 0, .long 0, .int 0, .int 0, .int 0, .null, .null, .null, .null, .null, .null, .null]))] sz) ([(g, .inr (3, [.int 6, .int 6, .int 1, .int 0, .long 0, .long 0, .int 0, .int 0, .int 0, .ref u.1, .ref u.2.1, .ref u.2.2.1, .ref u.2.2.2.1, .ref u.2.2.2.2.1, .ref u.2.2.2.2.2.1, .ref u.2.2.2.2.2.2])), (u.1, .inl (cy 1, 5, .inl (fun _ => 0))), (u.2.1, .inl (cy 1, 5, .inl (fun _ => 0))), (u.2.2.1, .inl (cy 1, 5, .inl (fun _ => 0))), (u.2.2.2.1, .inl (cy 1, 6, .inl (fun _ => 0))), (u.2.2.2.2.1, .inl (cy 1, 6, .inl (fun _ => 0))), (u.2.2.2.2.2.1, .inl (cy 1, 8, .inl (fun _ => 0))), (u.2.2.2.2.2.2, .inl (cy 1, 8, .inl (fun _ => 0)))])) (va_A [(g, .inr (3, [.int 0, .int 0, .int 0, .int 0, .long 0, .long 0, .int 0, .int 0, .int 0, .null, .null, .null, .null, .null, .null, .null]))] sz)) 7 43 (va_A [(g, .inr (3, [.int 0, .int 0, .int 0, .int 0, .long 0, .long 0, .int 0, .int 0, .int 0, .null, .null, .null, .null, .null, .null, .null]))] sz) := by
  refine Met.ofW (cc := cX3_init) (maxL := 1) (ret := none) (by decide) rfl ?_
  intro p e s m args below meth c s₁ B hml hv
  obtain ⟨rfl, hsz, hP, hKA, hD0⟩ := hv
  have hx := B.exec
  have hb := B.bytes
  have hr := B.returns
  have hts := atoms_spec (ws := wsX3_init) B.pre
  have hown : s.vm.findClass RX3 = some m.cls := findClass_of_methodNamed B.named
  have hlocks := B.notSynchronized
  have hin : meth.name = "<init>" := (name_of_methodNamed B.named B.method).1
  subst hsz
  have hK := hKA.1
  have hD := hD0.self (sz := s.heap.size)
  generalize hAe : va_A [(g, .inr (3, [.int 0, .int 0, .int 0, .int 0, .long 0, .long 0, .int 0, .int 0, .int 0, .null, .null, .null, .null, .null, .null, .null]))] s.heap.size = A at hD ⊢
  have hA : ∀ q : Nat, s.heap.size ≤ q → A q := fun q h => by rw [← hAe]; exact Or.inr h
  have hS : va_S A s.heap s.heap [] := va_S.rf
  have hP : va_P D vwCl [(g, .inr (3, [.int 0, .int 0, .int 0, .int 0, .long 0, .long 0, .int 0, .int 0, .int 0, .null, .null, .null, .null, .null, .null, .null]))] s.heap := hP
  have hl := lv_entry ([.ref g]) (n := 1) (Nat.le_of_ble_eq_true rfl)
  rw [lg_entry_eq]
  generalize (lg_sl ([.ref g]) ++ List.replicate (1 - (lg_sl ([.ref g])).length) Slot.unset).toArray = ls at hl ⊢
  have hl : lv_has ls 1 [(0, .ref g)] := hl
  have z0_ := hts (.methodLink RX3 3 objectInit) (by decide +kernel)
  have z1_ := hts (.instanceMethod objectInit) (by decide +kernel)
  have z2_ := hts (.code objectInit ⟨#[0xb1]⟩ 1 none) (by decide +kernel)
  have z3_ := hts (.arrayClass .int) (by decide +kernel)
  have z4_ := hts (.fieldLink RX3 9 "HeardSeen$Garden" "kinds" "[I") (by decide +kernel)
  have zi3_ : ∀ w ∈ u_ws RX3 TX3 16, w ∈ wsX3_init := by decide +kernel
  have z6_ := hts (.fieldLink RX3 15 "HeardSeen$Garden" "squares" "[I") (by decide +kernel)
  have z7_ := hts (.fieldLink RX3 18 "HeardSeen$Garden" "voices" "[I") (by decide +kernel)
  have z8_ := hts (.fieldLink RX3 21 "HeardSeen$Garden" "tellers" "[I") (by decide +kernel)
  have z9_ := hts (.fieldLink RX3 24 "HeardSeen$Garden" "listeners" "[I") (by decide +kernel)
  have z10_ := hts (.fieldLink RX3 27 "HeardSeen$Garden" "witnesses" "[I") (by decide +kernel)
  have z11_ := hts (.fieldLink RX3 30 "HeardSeen$Garden" "claims" "[I") (by decide +kernel)
  have z12_ := hts (.fieldLink RX3 33 "HeardSeen$Garden" "wide" "I") (by decide +kernel)
  have z13_ := hts (.fieldLink RX3 37 "HeardSeen$Garden" "high" "I") (by decide +kernel)
  have z14_ := hts (.fieldLink RX3 40 "HeardSeen$Garden" "drown" "I") (by decide +kernel)
  refine lv_aload_n hx hb dX3_init_0 rfl (lv_at hl 0 rfl) ?_
  refine W.objInit hx hb hown z0_ z1_ z2_ rfl (by rw [hml]; exact hl.1) rfl dX3_init_1 (Nat.le_of_ble_eq_true rfl) (Nat.le_of_ble_eq_true rfl) ?_
  refine W.eq (g2 := F0 m 4 ls []) rfl ?_
  refine lv_aload_n hx hb dX3_init_4 rfl (lv_at hl 0 rfl) ?_
  refine lv_iconst (v := 5) hx hb dX3_init_5 (by decide) ?_
  refine my_newa (atype := .int) (ty := .int) (N' := 5) (a0 := (5, .inl (fun _ => 0))) hx hb z3_ rfl hK hP hD hS hA 1 rfl (a0I 5) (by decide) (by decide +kernel) (by decide +kernel) (Nat.le_of_ble_eq_true rfl) (Nat.le_of_ble_eq_true rfl) dX3_init_6 (fun q1 H hP hD hS => ?_)
  have hP : va_P D vwCl [(g, .inr (3, [.int 0, .int 0, .int 0, .int 0, .long 0, .long 0, .int 0, .int 0, .int 0, .null, .null, .null, .null, .null, .null, .null])), (q1, .inl (cy 1, 5, .inl (fun _ => 0)))] H := hP
  have hD : va_D A [(g, .inr (3, [.int 0, .int 0, .int 0, .int 0, .long 0, .long 0, .int 0, .int 0, .int 0, .null, .null, .null, .null, .null, .null, .null])), (q1, .inl (cy 1, 5, .inl (fun _ => 0)))] := hD
  refine W.widen (k := 1) (n := 5) (Nat.le_of_ble_eq_true rfl) (Nat.le_of_ble_eq_true rfl) ?_
  refine va_putF (D := D) (ci := 3) (v := .ref q1) (ty := .array .int) (C := RX3) (T := TX3) (N := 16) hx hb hts zi3_ tyX3 tyX3_ok nmX3 hown hK hP hD hS 0 rfl rfl 9 (by decide) z4_ (fun _ h9 => h9) rfl hin rfl (by decide +kernel) rfl rfl (Nat.le_of_ble_eq_true rfl) dX3_init_8 (fun H locs hP hD hS => ?_)
  have hP : va_P D vwCl [(g, .inr (3, [.int 0, .int 0, .int 0, .int 0, .long 0, .long 0, .int 0, .int 0, .int 0, .ref q1, .null, .null, .null, .null, .null, .null])), (q1, .inl (cy 1, 5, .inl (fun _ => 0)))] H := hP
  have hD : va_D A [(g, .inr (3, [.int 0, .int 0, .int 0, .int 0, .long 0, .long 0, .int 0, .int 0, .int 0, .ref q1, .null, .null, .null, .null, .null, .null])), (q1, .inl (cy 1, 5, .inl (fun _ => 0)))] := hD
  refine lv_aload_n hx hb dX3_init_11 rfl (lv_at hl 0 rfl) ?_
  refine lv_iconst (v := 5) hx hb dX3_init_12 (by decide) ?_
  refine my_newa (atype := .int) (ty := .int) (N' := 5) (a0 := (5, .inl (fun _ => 0))) hx hb z3_ rfl hK hP hD hS hA 1 rfl (a0I 5) (by decide) (by decide +kernel) (by decide +kernel) (Nat.le_of_ble_eq_true rfl) (Nat.le_of_ble_eq_true rfl) dX3_init_13 (fun q2 H hP hD hS => ?_)
  have hP : va_P D vwCl [(g, .inr (3, [.int 0, .int 0, .int 0, .int 0, .long 0, .long 0, .int 0, .int 0, .int 0, .ref q1, .null, .null, .null, .null, .null, .null])), (q1, .inl (cy 1, 5, .inl (fun _ => 0))), (q2, .inl (cy 1, 5, .inl (fun _ => 0)))] H := hP
  have hD : va_D A [(g, .inr (3, [.int 0, .int 0, .int 0, .int 0, .long 0, .long 0, .int 0, .int 0, .int 0, .ref q1, .null, .null, .null, .null, .null, .null])), (q1, .inl (cy 1, 5, .inl (fun _ => 0))), (q2, .inl (cy 1, 5, .inl (fun _ => 0)))] := hD
  refine W.widen (k := 2) (n := 10) (Nat.le_of_ble_eq_true rfl) (Nat.le_of_ble_eq_true rfl) ?_
  refine va_putF (D := D) (ci := 3) (v := .ref q2) (ty := .array .int) (C := RX3) (T := TX3) (N := 16) hx hb hts zi3_ tyX3 tyX3_ok nmX3 hown hK hP hD hS 0 rfl rfl 10 (by decide) z6_ (fun _ h9 => h9) rfl hin rfl (by decide +kernel) rfl rfl (Nat.le_of_ble_eq_true rfl) dX3_init_15 (fun H locs hP hD hS => ?_)
  have hP : va_P D vwCl [(g, .inr (3, [.int 0, .int 0, .int 0, .int 0, .long 0, .long 0, .int 0, .int 0, .int 0, .ref q1, .ref q2, .null, .null, .null, .null, .null])), (q1, .inl (cy 1, 5, .inl (fun _ => 0))), (q2, .inl (cy 1, 5, .inl (fun _ => 0)))] H := hP
  have hD : va_D A [(g, .inr (3, [.int 0, .int 0, .int 0, .int 0, .long 0, .long 0, .int 0, .int 0, .int 0, .ref q1, .ref q2, .null, .null, .null, .null, .null])), (q1, .inl (cy 1, 5, .inl (fun _ => 0))), (q2, .inl (cy 1, 5, .inl (fun _ => 0)))] := hD
  refine lv_aload_n hx hb dX3_init_18 rfl (lv_at hl 0 rfl) ?_
  refine lv_iconst (v := 5) hx hb dX3_init_19 (by decide) ?_
  refine my_newa (atype := .int) (ty := .int) (N' := 5) (a0 := (5, .inl (fun _ => 0))) hx hb z3_ rfl hK hP hD hS hA 1 rfl (a0I 5) (by decide) (by decide +kernel) (by decide +kernel) (Nat.le_of_ble_eq_true rfl) (Nat.le_of_ble_eq_true rfl) dX3_init_20 (fun q3 H hP hD hS => ?_)
  have hP : va_P D vwCl [(g, .inr (3, [.int 0, .int 0, .int 0, .int 0, .long 0, .long 0, .int 0, .int 0, .int 0, .ref q1, .ref q2, .null, .null, .null, .null, .null])), (q1, .inl (cy 1, 5, .inl (fun _ => 0))), (q2, .inl (cy 1, 5, .inl (fun _ => 0))), (q3, .inl (cy 1, 5, .inl (fun _ => 0)))] H := hP
  have hD : va_D A [(g, .inr (3, [.int 0, .int 0, .int 0, .int 0, .long 0, .long 0, .int 0, .int 0, .int 0, .ref q1, .ref q2, .null, .null, .null, .null, .null])), (q1, .inl (cy 1, 5, .inl (fun _ => 0))), (q2, .inl (cy 1, 5, .inl (fun _ => 0))), (q3, .inl (cy 1, 5, .inl (fun _ => 0)))] := hD
  refine W.widen (k := 3) (n := 15) (Nat.le_of_ble_eq_true rfl) (Nat.le_of_ble_eq_true rfl) ?_
  refine va_putF (D := D) (ci := 3) (v := .ref q3) (ty := .array .int) (C := RX3) (T := TX3) (N := 16) hx hb hts zi3_ tyX3 tyX3_ok nmX3 hown hK hP hD hS 0 rfl rfl 11 (by decide) z7_ (fun _ h9 => h9) rfl hin rfl (by decide +kernel) rfl rfl (Nat.le_of_ble_eq_true rfl) dX3_init_22 (fun H locs hP hD hS => ?_)
  have hP : va_P D vwCl [(g, .inr (3, [.int 0, .int 0, .int 0, .int 0, .long 0, .long 0, .int 0, .int 0, .int 0, .ref q1, .ref q2, .ref q3, .null, .null, .null, .null])), (q1, .inl (cy 1, 5, .inl (fun _ => 0))), (q2, .inl (cy 1, 5, .inl (fun _ => 0))), (q3, .inl (cy 1, 5, .inl (fun _ => 0)))] H := hP
  have hD : va_D A [(g, .inr (3, [.int 0, .int 0, .int 0, .int 0, .long 0, .long 0, .int 0, .int 0, .int 0, .ref q1, .ref q2, .ref q3, .null, .null, .null, .null])), (q1, .inl (cy 1, 5, .inl (fun _ => 0))), (q2, .inl (cy 1, 5, .inl (fun _ => 0))), (q3, .inl (cy 1, 5, .inl (fun _ => 0)))] := hD
  refine lv_aload_n hx hb dX3_init_25 rfl (lv_at hl 0 rfl) ?_
  refine lv_bipush (v := 6) hx hb dX3_init_26 (by decide) ?_
  refine my_newa (atype := .int) (ty := .int) (N' := 6) (a0 := (6, .inl (fun _ => 0))) hx hb z3_ rfl hK hP hD hS hA 1 rfl (a0I 6) (by decide) (by decide +kernel) (by decide +kernel) (Nat.le_of_ble_eq_true rfl) (Nat.le_of_ble_eq_true rfl) dX3_init_28 (fun q4 H hP hD hS => ?_)
  have hP : va_P D vwCl [(g, .inr (3, [.int 0, .int 0, .int 0, .int 0, .long 0, .long 0, .int 0, .int 0, .int 0, .ref q1, .ref q2, .ref q3, .null, .null, .null, .null])), (q1, .inl (cy 1, 5, .inl (fun _ => 0))), (q2, .inl (cy 1, 5, .inl (fun _ => 0))), (q3, .inl (cy 1, 5, .inl (fun _ => 0))), (q4, .inl (cy 1, 6, .inl (fun _ => 0)))] H := hP
  have hD : va_D A [(g, .inr (3, [.int 0, .int 0, .int 0, .int 0, .long 0, .long 0, .int 0, .int 0, .int 0, .ref q1, .ref q2, .ref q3, .null, .null, .null, .null])), (q1, .inl (cy 1, 5, .inl (fun _ => 0))), (q2, .inl (cy 1, 5, .inl (fun _ => 0))), (q3, .inl (cy 1, 5, .inl (fun _ => 0))), (q4, .inl (cy 1, 6, .inl (fun _ => 0)))] := hD
  refine W.widen (k := 4) (n := 21) (Nat.le_of_ble_eq_true rfl) (Nat.le_of_ble_eq_true rfl) ?_
  refine va_putF (D := D) (ci := 3) (v := .ref q4) (ty := .array .int) (C := RX3) (T := TX3) (N := 16) hx hb hts zi3_ tyX3 tyX3_ok nmX3 hown hK hP hD hS 0 rfl rfl 12 (by decide) z8_ (fun _ h9 => h9) rfl hin rfl (by decide +kernel) rfl rfl (Nat.le_of_ble_eq_true rfl) dX3_init_30 (fun H locs hP hD hS => ?_)
  have hP : va_P D vwCl [(g, .inr (3, [.int 0, .int 0, .int 0, .int 0, .long 0, .long 0, .int 0, .int 0, .int 0, .ref q1, .ref q2, .ref q3, .ref q4, .null, .null, .null])), (q1, .inl (cy 1, 5, .inl (fun _ => 0))), (q2, .inl (cy 1, 5, .inl (fun _ => 0))), (q3, .inl (cy 1, 5, .inl (fun _ => 0))), (q4, .inl (cy 1, 6, .inl (fun _ => 0)))] H := hP
  have hD : va_D A [(g, .inr (3, [.int 0, .int 0, .int 0, .int 0, .long 0, .long 0, .int 0, .int 0, .int 0, .ref q1, .ref q2, .ref q3, .ref q4, .null, .null, .null])), (q1, .inl (cy 1, 5, .inl (fun _ => 0))), (q2, .inl (cy 1, 5, .inl (fun _ => 0))), (q3, .inl (cy 1, 5, .inl (fun _ => 0))), (q4, .inl (cy 1, 6, .inl (fun _ => 0)))] := hD
  refine lv_aload_n hx hb dX3_init_33 rfl (lv_at hl 0 rfl) ?_
  refine lv_bipush (v := 6) hx hb dX3_init_34 (by decide) ?_
  refine my_newa (atype := .int) (ty := .int) (N' := 6) (a0 := (6, .inl (fun _ => 0))) hx hb z3_ rfl hK hP hD hS hA 1 rfl (a0I 6) (by decide) (by decide +kernel) (by decide +kernel) (Nat.le_of_ble_eq_true rfl) (Nat.le_of_ble_eq_true rfl) dX3_init_36 (fun q5 H hP hD hS => ?_)
  have hP : va_P D vwCl [(g, .inr (3, [.int 0, .int 0, .int 0, .int 0, .long 0, .long 0, .int 0, .int 0, .int 0, .ref q1, .ref q2, .ref q3, .ref q4, .null, .null, .null])), (q1, .inl (cy 1, 5, .inl (fun _ => 0))), (q2, .inl (cy 1, 5, .inl (fun _ => 0))), (q3, .inl (cy 1, 5, .inl (fun _ => 0))), (q4, .inl (cy 1, 6, .inl (fun _ => 0))), (q5, .inl (cy 1, 6, .inl (fun _ => 0)))] H := hP
  have hD : va_D A [(g, .inr (3, [.int 0, .int 0, .int 0, .int 0, .long 0, .long 0, .int 0, .int 0, .int 0, .ref q1, .ref q2, .ref q3, .ref q4, .null, .null, .null])), (q1, .inl (cy 1, 5, .inl (fun _ => 0))), (q2, .inl (cy 1, 5, .inl (fun _ => 0))), (q3, .inl (cy 1, 5, .inl (fun _ => 0))), (q4, .inl (cy 1, 6, .inl (fun _ => 0))), (q5, .inl (cy 1, 6, .inl (fun _ => 0)))] := hD
  refine W.widen (k := 5) (n := 27) (Nat.le_of_ble_eq_true rfl) (Nat.le_of_ble_eq_true rfl) ?_
  refine va_putF (D := D) (ci := 3) (v := .ref q5) (ty := .array .int) (C := RX3) (T := TX3) (N := 16) hx hb hts zi3_ tyX3 tyX3_ok nmX3 hown hK hP hD hS 0 rfl rfl 13 (by decide) z9_ (fun _ h9 => h9) rfl hin rfl (by decide +kernel) rfl rfl (Nat.le_of_ble_eq_true rfl) dX3_init_38 (fun H locs hP hD hS => ?_)
  have hP : va_P D vwCl [(g, .inr (3, [.int 0, .int 0, .int 0, .int 0, .long 0, .long 0, .int 0, .int 0, .int 0, .ref q1, .ref q2, .ref q3, .ref q4, .ref q5, .null, .null])), (q1, .inl (cy 1, 5, .inl (fun _ => 0))), (q2, .inl (cy 1, 5, .inl (fun _ => 0))), (q3, .inl (cy 1, 5, .inl (fun _ => 0))), (q4, .inl (cy 1, 6, .inl (fun _ => 0))), (q5, .inl (cy 1, 6, .inl (fun _ => 0)))] H := hP
  have hD : va_D A [(g, .inr (3, [.int 0, .int 0, .int 0, .int 0, .long 0, .long 0, .int 0, .int 0, .int 0, .ref q1, .ref q2, .ref q3, .ref q4, .ref q5, .null, .null])), (q1, .inl (cy 1, 5, .inl (fun _ => 0))), (q2, .inl (cy 1, 5, .inl (fun _ => 0))), (q3, .inl (cy 1, 5, .inl (fun _ => 0))), (q4, .inl (cy 1, 6, .inl (fun _ => 0))), (q5, .inl (cy 1, 6, .inl (fun _ => 0)))] := hD
  refine lv_aload_n hx hb dX3_init_41 rfl (lv_at hl 0 rfl) ?_
  refine lv_bipush (v := 8) hx hb dX3_init_42 (by decide) ?_
  refine my_newa (atype := .int) (ty := .int) (N' := 8) (a0 := (8, .inl (fun _ => 0))) hx hb z3_ rfl hK hP hD hS hA 1 rfl (a0I 8) (by decide) (by decide +kernel) (by decide +kernel) (Nat.le_of_ble_eq_true rfl) (Nat.le_of_ble_eq_true rfl) dX3_init_44 (fun q6 H hP hD hS => ?_)
  have hP : va_P D vwCl [(g, .inr (3, [.int 0, .int 0, .int 0, .int 0, .long 0, .long 0, .int 0, .int 0, .int 0, .ref q1, .ref q2, .ref q3, .ref q4, .ref q5, .null, .null])), (q1, .inl (cy 1, 5, .inl (fun _ => 0))), (q2, .inl (cy 1, 5, .inl (fun _ => 0))), (q3, .inl (cy 1, 5, .inl (fun _ => 0))), (q4, .inl (cy 1, 6, .inl (fun _ => 0))), (q5, .inl (cy 1, 6, .inl (fun _ => 0))), (q6, .inl (cy 1, 8, .inl (fun _ => 0)))] H := hP
  have hD : va_D A [(g, .inr (3, [.int 0, .int 0, .int 0, .int 0, .long 0, .long 0, .int 0, .int 0, .int 0, .ref q1, .ref q2, .ref q3, .ref q4, .ref q5, .null, .null])), (q1, .inl (cy 1, 5, .inl (fun _ => 0))), (q2, .inl (cy 1, 5, .inl (fun _ => 0))), (q3, .inl (cy 1, 5, .inl (fun _ => 0))), (q4, .inl (cy 1, 6, .inl (fun _ => 0))), (q5, .inl (cy 1, 6, .inl (fun _ => 0))), (q6, .inl (cy 1, 8, .inl (fun _ => 0)))] := hD
  refine W.widen (k := 6) (n := 35) (Nat.le_of_ble_eq_true rfl) (Nat.le_of_ble_eq_true rfl) ?_
  refine va_putF (D := D) (ci := 3) (v := .ref q6) (ty := .array .int) (C := RX3) (T := TX3) (N := 16) hx hb hts zi3_ tyX3 tyX3_ok nmX3 hown hK hP hD hS 0 rfl rfl 14 (by decide) z10_ (fun _ h9 => h9) rfl hin rfl (by decide +kernel) rfl rfl (Nat.le_of_ble_eq_true rfl) dX3_init_46 (fun H locs hP hD hS => ?_)
  have hP : va_P D vwCl [(g, .inr (3, [.int 0, .int 0, .int 0, .int 0, .long 0, .long 0, .int 0, .int 0, .int 0, .ref q1, .ref q2, .ref q3, .ref q4, .ref q5, .ref q6, .null])), (q1, .inl (cy 1, 5, .inl (fun _ => 0))), (q2, .inl (cy 1, 5, .inl (fun _ => 0))), (q3, .inl (cy 1, 5, .inl (fun _ => 0))), (q4, .inl (cy 1, 6, .inl (fun _ => 0))), (q5, .inl (cy 1, 6, .inl (fun _ => 0))), (q6, .inl (cy 1, 8, .inl (fun _ => 0)))] H := hP
  have hD : va_D A [(g, .inr (3, [.int 0, .int 0, .int 0, .int 0, .long 0, .long 0, .int 0, .int 0, .int 0, .ref q1, .ref q2, .ref q3, .ref q4, .ref q5, .ref q6, .null])), (q1, .inl (cy 1, 5, .inl (fun _ => 0))), (q2, .inl (cy 1, 5, .inl (fun _ => 0))), (q3, .inl (cy 1, 5, .inl (fun _ => 0))), (q4, .inl (cy 1, 6, .inl (fun _ => 0))), (q5, .inl (cy 1, 6, .inl (fun _ => 0))), (q6, .inl (cy 1, 8, .inl (fun _ => 0)))] := hD
  refine lv_aload_n hx hb dX3_init_49 rfl (lv_at hl 0 rfl) ?_
  refine lv_bipush (v := 8) hx hb dX3_init_50 (by decide) ?_
  refine my_newa (atype := .int) (ty := .int) (N' := 8) (a0 := (8, .inl (fun _ => 0))) hx hb z3_ rfl hK hP hD hS hA 1 rfl (a0I 8) (by decide) (by decide +kernel) (by decide +kernel) (Nat.le_of_ble_eq_true rfl) (Nat.le_of_ble_eq_true rfl) dX3_init_52 (fun q7 H hP hD hS => ?_)
  have hP : va_P D vwCl [(g, .inr (3, [.int 0, .int 0, .int 0, .int 0, .long 0, .long 0, .int 0, .int 0, .int 0, .ref q1, .ref q2, .ref q3, .ref q4, .ref q5, .ref q6, .null])), (q1, .inl (cy 1, 5, .inl (fun _ => 0))), (q2, .inl (cy 1, 5, .inl (fun _ => 0))), (q3, .inl (cy 1, 5, .inl (fun _ => 0))), (q4, .inl (cy 1, 6, .inl (fun _ => 0))), (q5, .inl (cy 1, 6, .inl (fun _ => 0))), (q6, .inl (cy 1, 8, .inl (fun _ => 0))), (q7, .inl (cy 1, 8, .inl (fun _ => 0)))] H := hP
  have hD : va_D A [(g, .inr (3, [.int 0, .int 0, .int 0, .int 0, .long 0, .long 0, .int 0, .int 0, .int 0, .ref q1, .ref q2, .ref q3, .ref q4, .ref q5, .ref q6, .null])), (q1, .inl (cy 1, 5, .inl (fun _ => 0))), (q2, .inl (cy 1, 5, .inl (fun _ => 0))), (q3, .inl (cy 1, 5, .inl (fun _ => 0))), (q4, .inl (cy 1, 6, .inl (fun _ => 0))), (q5, .inl (cy 1, 6, .inl (fun _ => 0))), (q6, .inl (cy 1, 8, .inl (fun _ => 0))), (q7, .inl (cy 1, 8, .inl (fun _ => 0)))] := hD
  refine W.widen (k := 7) (n := 43) (Nat.le_of_ble_eq_true rfl) (Nat.le_of_ble_eq_true rfl) ?_
  refine va_putF (D := D) (ci := 3) (v := .ref q7) (ty := .array .int) (C := RX3) (T := TX3) (N := 16) hx hb hts zi3_ tyX3 tyX3_ok nmX3 hown hK hP hD hS 0 rfl rfl 15 (by decide) z11_ (fun _ h9 => h9) rfl hin rfl (by decide +kernel) rfl rfl (Nat.le_of_ble_eq_true rfl) dX3_init_54 (fun H locs hP hD hS => ?_)
  have hP : va_P D vwCl [(g, .inr (3, [.int 0, .int 0, .int 0, .int 0, .long 0, .long 0, .int 0, .int 0, .int 0, .ref q1, .ref q2, .ref q3, .ref q4, .ref q5, .ref q6, .ref q7])), (q1, .inl (cy 1, 5, .inl (fun _ => 0))), (q2, .inl (cy 1, 5, .inl (fun _ => 0))), (q3, .inl (cy 1, 5, .inl (fun _ => 0))), (q4, .inl (cy 1, 6, .inl (fun _ => 0))), (q5, .inl (cy 1, 6, .inl (fun _ => 0))), (q6, .inl (cy 1, 8, .inl (fun _ => 0))), (q7, .inl (cy 1, 8, .inl (fun _ => 0)))] H := hP
  have hD : va_D A [(g, .inr (3, [.int 0, .int 0, .int 0, .int 0, .long 0, .long 0, .int 0, .int 0, .int 0, .ref q1, .ref q2, .ref q3, .ref q4, .ref q5, .ref q6, .ref q7])), (q1, .inl (cy 1, 5, .inl (fun _ => 0))), (q2, .inl (cy 1, 5, .inl (fun _ => 0))), (q3, .inl (cy 1, 5, .inl (fun _ => 0))), (q4, .inl (cy 1, 6, .inl (fun _ => 0))), (q5, .inl (cy 1, 6, .inl (fun _ => 0))), (q6, .inl (cy 1, 8, .inl (fun _ => 0))), (q7, .inl (cy 1, 8, .inl (fun _ => 0)))] := hD
  refine lv_aload_n hx hb dX3_init_57 rfl (lv_at hl 0 rfl) ?_
  refine lv_bipush (v := 6) hx hb dX3_init_58 (by decide) ?_
  refine va_put (D := D) (ci := 3) (v := .int 6) (ty := .int) (C := RX3) (T := TX3) (N := 16) hx hb hts zi3_ tyX3 tyX3_ok nmX3 hown hK hP hD hS 0 rfl rfl 0 (by decide) z12_ (fun _ h9 => h9) rfl (by decide +kernel) rfl rfl (Nat.le_of_ble_eq_true rfl) dX3_init_60 (fun H locs hP hD hS => ?_)
  have hP : va_P D vwCl [(g, .inr (3, [.int 6, .int 0, .int 0, .int 0, .long 0, .long 0, .int 0, .int 0, .int 0, .ref q1, .ref q2, .ref q3, .ref q4, .ref q5, .ref q6, .ref q7])), (q1, .inl (cy 1, 5, .inl (fun _ => 0))), (q2, .inl (cy 1, 5, .inl (fun _ => 0))), (q3, .inl (cy 1, 5, .inl (fun _ => 0))), (q4, .inl (cy 1, 6, .inl (fun _ => 0))), (q5, .inl (cy 1, 6, .inl (fun _ => 0))), (q6, .inl (cy 1, 8, .inl (fun _ => 0))), (q7, .inl (cy 1, 8, .inl (fun _ => 0)))] H := hP
  have hD : va_D A [(g, .inr (3, [.int 6, .int 0, .int 0, .int 0, .long 0, .long 0, .int 0, .int 0, .int 0, .ref q1, .ref q2, .ref q3, .ref q4, .ref q5, .ref q6, .ref q7])), (q1, .inl (cy 1, 5, .inl (fun _ => 0))), (q2, .inl (cy 1, 5, .inl (fun _ => 0))), (q3, .inl (cy 1, 5, .inl (fun _ => 0))), (q4, .inl (cy 1, 6, .inl (fun _ => 0))), (q5, .inl (cy 1, 6, .inl (fun _ => 0))), (q6, .inl (cy 1, 8, .inl (fun _ => 0))), (q7, .inl (cy 1, 8, .inl (fun _ => 0)))] := hD
  refine lv_aload_n hx hb dX3_init_63 rfl (lv_at hl 0 rfl) ?_
  refine lv_bipush (v := 6) hx hb dX3_init_64 (by decide) ?_
  refine va_put (D := D) (ci := 3) (v := .int 6) (ty := .int) (C := RX3) (T := TX3) (N := 16) hx hb hts zi3_ tyX3 tyX3_ok nmX3 hown hK hP hD hS 0 rfl rfl 1 (by decide) z13_ (fun _ h9 => h9) rfl (by decide +kernel) rfl rfl (Nat.le_of_ble_eq_true rfl) dX3_init_66 (fun H locs hP hD hS => ?_)
  have hP : va_P D vwCl [(g, .inr (3, [.int 6, .int 6, .int 0, .int 0, .long 0, .long 0, .int 0, .int 0, .int 0, .ref q1, .ref q2, .ref q3, .ref q4, .ref q5, .ref q6, .ref q7])), (q1, .inl (cy 1, 5, .inl (fun _ => 0))), (q2, .inl (cy 1, 5, .inl (fun _ => 0))), (q3, .inl (cy 1, 5, .inl (fun _ => 0))), (q4, .inl (cy 1, 6, .inl (fun _ => 0))), (q5, .inl (cy 1, 6, .inl (fun _ => 0))), (q6, .inl (cy 1, 8, .inl (fun _ => 0))), (q7, .inl (cy 1, 8, .inl (fun _ => 0)))] H := hP
  have hD : va_D A [(g, .inr (3, [.int 6, .int 6, .int 0, .int 0, .long 0, .long 0, .int 0, .int 0, .int 0, .ref q1, .ref q2, .ref q3, .ref q4, .ref q5, .ref q6, .ref q7])), (q1, .inl (cy 1, 5, .inl (fun _ => 0))), (q2, .inl (cy 1, 5, .inl (fun _ => 0))), (q3, .inl (cy 1, 5, .inl (fun _ => 0))), (q4, .inl (cy 1, 6, .inl (fun _ => 0))), (q5, .inl (cy 1, 6, .inl (fun _ => 0))), (q6, .inl (cy 1, 8, .inl (fun _ => 0))), (q7, .inl (cy 1, 8, .inl (fun _ => 0)))] := hD
  refine lv_aload_n hx hb dX3_init_69 rfl (lv_at hl 0 rfl) ?_
  refine lv_iconst (v := 1) hx hb dX3_init_70 (by decide) ?_
  refine va_put (D := D) (ci := 3) (v := .int 1) (ty := .int) (C := RX3) (T := TX3) (N := 16) hx hb hts zi3_ tyX3 tyX3_ok nmX3 hown hK hP hD hS 0 rfl rfl 2 (by decide) z14_ (fun _ h9 => h9) rfl (by decide +kernel) rfl rfl (Nat.le_of_ble_eq_true rfl) dX3_init_71 (fun H locs hP hD hS => ?_)
  have hP : va_P D vwCl [(g, .inr (3, [.int 6, .int 6, .int 1, .int 0, .long 0, .long 0, .int 0, .int 0, .int 0, .ref q1, .ref q2, .ref q3, .ref q4, .ref q5, .ref q6, .ref q7])), (q1, .inl (cy 1, 5, .inl (fun _ => 0))), (q2, .inl (cy 1, 5, .inl (fun _ => 0))), (q3, .inl (cy 1, 5, .inl (fun _ => 0))), (q4, .inl (cy 1, 6, .inl (fun _ => 0))), (q5, .inl (cy 1, 6, .inl (fun _ => 0))), (q6, .inl (cy 1, 8, .inl (fun _ => 0))), (q7, .inl (cy 1, 8, .inl (fun _ => 0)))] H := hP
  have hD : va_D A [(g, .inr (3, [.int 6, .int 6, .int 1, .int 0, .long 0, .long 0, .int 0, .int 0, .int 0, .ref q1, .ref q2, .ref q3, .ref q4, .ref q5, .ref q6, .ref q7])), (q1, .inl (cy 1, 5, .inl (fun _ => 0))), (q2, .inl (cy 1, 5, .inl (fun _ => 0))), (q3, .inl (cy 1, 5, .inl (fun _ => 0))), (q4, .inl (cy 1, 6, .inl (fun _ => 0))), (q5, .inl (cy 1, 6, .inl (fun _ => 0))), (q6, .inl (cy 1, 8, .inl (fun _ => 0))), (q7, .inl (cy 1, 8, .inl (fun _ => 0)))] := hD
  refine W.widen (k := 7) (n := 43) (Nat.le_of_ble_eq_true rfl) (Nat.le_of_ble_eq_true rfl) ?_
  have hP9 := hP.sub (ws' := [(g, .inr (3, [.int 6, .int 6, .int 1, .int 0, .long 0, .long 0, .int 0, .int 0, .int 0, .ref q1, .ref q2, .ref q3, .ref q4, .ref q5, .ref q6, .ref q7])), (q1, .inl (cy 1, 5, .inl (fun _ => 0))), (q2, .inl (cy 1, 5, .inl (fun _ => 0))), (q3, .inl (cy 1, 5, .inl (fun _ => 0))), (q4, .inl (cy 1, 6, .inl (fun _ => 0))), (q5, .inl (cy 1, 6, .inl (fun _ => 0))), (q6, .inl (cy 1, 8, .inl (fun _ => 0))), (q7, .inl (cy 1, 8, .inl (fun _ => 0)))]) [0, 1, 2, 3, 4, 5, 6, 7] rfl
  have hD9 := hD.sub (ws' := [(g, .inr (3, [.int 6, .int 6, .int 1, .int 0, .long 0, .long 0, .int 0, .int 0, .int 0, .ref q1, .ref q2, .ref q3, .ref q4, .ref q5, .ref q6, .ref q7])), (q1, .inl (cy 1, 5, .inl (fun _ => 0))), (q2, .inl (cy 1, 5, .inl (fun _ => 0))), (q3, .inl (cy 1, 5, .inl (fun _ => 0))), (q4, .inl (cy 1, 6, .inl (fun _ => 0))), (q5, .inl (cy 1, 6, .inl (fun _ => 0))), (q6, .inl (cy 1, 8, .inl (fun _ => 0))), (q7, .inl (cy 1, 8, .inl (fun _ => 0)))]) [0, 1, 2, 3, 4, 5, 6, 7] (by decide) rfl
  exact W.vret hx hb hr (fun t ht hW => ⟨⟨(q1, q2, q3, q4, q5, q6, q7), rfl, trivial, by rw [ht]; exact hP9, hD9⟩, hS.F ht⟩) hS.2.2 dX3_init_74

set_option maxHeartbeats 4000000 in
set_option maxRecDepth 100000 in
theorem c_X4_init (l : Launch) (D : va_G) (cy : Nat → ClassId) (w g : Nat) (sz : Nat)  : Met l yX4_init wsX4_init ({ frames := 4, cells := 11, slots := 88, locals := 72 }) (va_Pc [.ref w, .ref g] (kPre D cy [(w, .inr (4, [.null, .null, .null, .null, .null, .null, .null, .int 0, .long 0]))] sz)) (va_Qv (fun (_ : Nat × Nat × Nat × Nat × Nat × Nat × Nat × Nat × Nat × Nat × Nat) => True) (fun (u : Nat × Nat × Nat × Nat × Nat × Nat × Nat × Nat × Nat × Nat × Nat) t => va_P D vwCl ([(w, .inr (4, [.ref g, .ref u.1, .ref u.2.1, .ref u.2.2.1, .ref u.2.2.2.1, .ref u.2.2.2.2.1, .ref u.2.2.2.2.2.1, .int 0, .long 0])), (u.1, .inr (7, [])), (u.2.1, .inl (cy 4, 6, .inr (.inr (.inr (.inr (va_up (va_up (va_up (va_up (va_up (va_up (fun _ => none) (0 : Int32).toNatClampNeg (some u.1)) (1 : Int32).toNatClampNeg (some u.2.2.2.2.2.2.1)) (2 : Int32).toNatClampNeg (some u.2.2.2.2.2.2.2.1)) (3 : Int32).toNatClampNeg (some u.2.2.2.2.2.2.2.2.1)) (4 : Int32).toNatClampNeg (some u.2.2.2.2.2.2.2.2.2.1)) (5 : Int32).toNatClampNeg (some u.2.2.2.2.2.2.2.2.2.2))))))), (u.2.2.1, .inl (cy 1, 5, .inl (fun _ => 0))), (u.2.2.2.1, .inl (cy 1, 5, .inl (fun _ => 0))), (u.2.2.2.2.1, .inl (cy 1, 36, .inl (fun _ => 0))), (u.2.2.2.2.2.1, .inl (cy 1, 36, .inl (fun _ => 0))), (u.2.2.2.2.2.2.1, .inr (2, [])), (u.2.2.2.2.2.2.2.1, .inr (1, [])), (u.2.2.2.2.2.2.2.2.1, .inr (9, [])), (u.2.2.2.2.2.2.2.2.2.1, .inr (5, [])), (u.2.2.2.2.2.2.2.2.2.2, .inr (0, []))]) t.heap ∧ va_D (va_A [(w, .inr (4, [.null, .null, .null, .null, .null, .null, .null, .int 0, .long 0]))] sz) ([(w, .inr (4, [.ref g, .ref u.1, .ref u.2.1, .ref u.2.2.1, .ref u.2.2.2.1, .ref u.2.2.2.2.1, .ref u.2.2.2.2.2.1, .int 0, .long 0])), (u.1, .inr (7, [])), (u.2.1, .inl (cy 4, 6, .inr (.inr (.inr (.inr (va_up (va_up (va_up (va_up (va_up (va_up (fun _ => none) (0 : Int32).toNatClampNeg (some u.1)) (1 : Int32).toNatClampNeg (some u.2.2.2.2.2.2.1)) (2 : Int32).toNatClampNeg (some u.2.2.2.2.2.2.2.1)) (3 : Int32).toNatClampNeg (some u.2.2.2.2.2.2.2.2.1)) (4 : Int32).toNatClampNeg (some u.2.2.2.2.2.2.2.2.2.1)) (5 : Int32).toNatClampNeg (some u.2.2.2.2.2.2.2.2.2.2))))))), (u.2.2.1, .inl (cy 1, 5, .inl (fun _ => 0))), (u.2.2.2.1, .inl (cy 1, 5, .inl (fun _ => 0))), (u.2.2.2.2.1, .inl (cy 1, 36, .inl (fun _ => 0))), (u.2.2.2.2.2.1, .inl (cy 1, 36, .inl (fun _ => 0))), (u.2.2.2.2.2.2.1, .inr (2, [])), (u.2.2.2.2.2.2.2.1, .inr (1, [])), (u.2.2.2.2.2.2.2.2.1, .inr (9, [])), (u.2.2.2.2.2.2.2.2.2.1, .inr (5, [])), (u.2.2.2.2.2.2.2.2.2.2, .inr (0, []))])) (va_A [(w, .inr (4, [.null, .null, .null, .null, .null, .null, .null, .int 0, .long 0]))] sz)) 11 88 (va_A [(w, .inr (4, [.null, .null, .null, .null, .null, .null, .null, .int 0, .long 0]))] sz) := by
  refine Met.ofW (cc := cX4_init) (maxL := 2) (ret := none) (by decide) rfl ?_
  intro p e s m args below meth c s₁ B hml hv
  obtain ⟨rfl, hsz, hP, hKA, hD0⟩ := hv
  have hx := B.exec
  have hb := B.bytes
  have hr := B.returns
  have hts := atoms_spec (ws := wsX4_init) B.pre
  have hown : s.vm.findClass RX4 = some m.cls := findClass_of_methodNamed B.named
  have hlocks := B.notSynchronized
  have hin : meth.name = "<init>" := (name_of_methodNamed B.named B.method).1
  subst hsz
  have hK := hKA.1
  have hD := hD0.self (sz := s.heap.size)
  generalize hAe : va_A [(w, .inr (4, [.null, .null, .null, .null, .null, .null, .null, .int 0, .long 0]))] s.heap.size = A at hD ⊢
  have hA : ∀ q : Nat, s.heap.size ≤ q → A q := fun q h => by rw [← hAe]; exact Or.inr h
  have hS : va_S A s.heap s.heap [] := va_S.rf
  have hP : va_P D vwCl [(w, .inr (4, [.null, .null, .null, .null, .null, .null, .null, .int 0, .long 0]))] s.heap := hP
  have hl := lv_entry ([.ref w, .ref g]) (n := 2) (Nat.le_of_ble_eq_true rfl)
  rw [lg_entry_eq]
  generalize (lg_sl ([.ref w, .ref g]) ++ List.replicate (2 - (lg_sl ([.ref w, .ref g])).length) Slot.unset).toArray = ls at hl ⊢
  have hl : lv_has ls 2 [(0, .ref w), (1, .ref g)] := hl
  have z0_ := hts (.methodLink RX4 3 objectInit) (by decide +kernel)
  have z1_ := hts (.instanceMethod objectInit) (by decide +kernel)
  have z2_ := hts (.code objectInit ⟨#[0xb1]⟩ 1 none) (by decide +kernel)
  have z3_ := hts (.classLink RX4 9 RX7) (by decide +kernel)
  have z4_ := hts (.instantiable RX7 0) (by decide +kernel)
  have z5_ := hts (.initialized RX7) (by decide +kernel)
  have zi7_ : ∀ w ∈ u_ws RX7 TX7 0, w ∈ wsX4_init := by decide +kernel
  have z7_ := hts (.instanceMethod yX7_init) (by decide +kernel)
  have z8_ := hts (.fieldLink RX4 12 "HeardSeen$Law" "plain" "LHeardSeen$Person;") (by decide +kernel)
  have zi4_ : ∀ w ∈ u_ws RX4 TX4 9, w ∈ wsX4_init := by decide +kernel
  have z10_ := hts (.fieldLink RX4 18 "HeardSeen$Law" "kinds" "[LHeardSeen$Person;") (by decide +kernel)
  have z11_ := hts (.arrayClass .int) (by decide +kernel)
  have z12_ := hts (.fieldLink RX4 22 "HeardSeen$Law" "seenBy" "[I") (by decide +kernel)
  have z13_ := hts (.fieldLink RX4 26 "HeardSeen$Law" "heardBy" "[I") (by decide +kernel)
  have z14_ := hts (.fieldLink RX4 29 "HeardSeen$Law" "seenFrom" "[I") (by decide +kernel)
  have z15_ := hts (.fieldLink RX4 32 "HeardSeen$Law" "heardFrom" "[I") (by decide +kernel)
  have z16_ := hts (.fieldLink RX4 35 "HeardSeen$Law" "g" "LHeardSeen$Garden;") (by decide +kernel)
  have z17_ := hts (.classLink RX4 39 RX2) (by decide +kernel)
  have z18_ := hts (.instantiable RX2 0) (by decide +kernel)
  have z19_ := hts (.initialized RX2) (by decide +kernel)
  have zi2_ : ∀ w ∈ u_ws RX2 TX2 0, w ∈ wsX4_init := by decide +kernel
  have z21_ := hts (.instanceMethod yX2_init) (by decide +kernel)
  have z22_ := hts (.classLink RX4 42 RX1) (by decide +kernel)
  have z23_ := hts (.instantiable RX1 0) (by decide +kernel)
  have z24_ := hts (.initialized RX1) (by decide +kernel)
  have zi1_ : ∀ w ∈ u_ws RX1 TX1 0, w ∈ wsX4_init := by decide +kernel
  have z26_ := hts (.instanceMethod yX1_init) (by decide +kernel)
  have z27_ := hts (.classLink RX4 45 RX9) (by decide +kernel)
  have z28_ := hts (.instantiable RX9 0) (by decide +kernel)
  have z29_ := hts (.initialized RX9) (by decide +kernel)
  have zi9_ : ∀ w ∈ u_ws RX9 TX9 0, w ∈ wsX4_init := by decide +kernel
  have z31_ := hts (.instanceMethod yX9_init) (by decide +kernel)
  have z32_ := hts (.classLink RX4 48 RX5) (by decide +kernel)
  have z33_ := hts (.instantiable RX5 0) (by decide +kernel)
  have z34_ := hts (.initialized RX5) (by decide +kernel)
  have zi5_ : ∀ w ∈ u_ws RX5 TX5 0, w ∈ wsX4_init := by decide +kernel
  have z36_ := hts (.instanceMethod yX5_init) (by decide +kernel)
  have z37_ := hts (.classLink RX4 51 RX0) (by decide +kernel)
  have z38_ := hts (.instantiable RX0 0) (by decide +kernel)
  have z39_ := hts (.initialized RX0) (by decide +kernel)
  have zi0_ : ∀ w ∈ u_ws RX0 TX0 0, w ∈ wsX4_init := by decide +kernel
  have z41_ := hts (.instanceMethod yX0_init) (by decide +kernel)
  refine lv_aload_n hx hb dX4_init_0 rfl (lv_at hl 0 rfl) ?_
  refine W.objInit hx hb hown z0_ z1_ z2_ rfl (by rw [hml]; exact hl.1) rfl dX4_init_1 (Nat.le_of_ble_eq_true rfl) (Nat.le_of_ble_eq_true rfl) ?_
  refine W.eq (g2 := F0 m 4 ls []) rfl ?_
  refine lv_aload_n hx hb dX4_init_4 rfl (lv_at hl 0 rfl) ?_
  refine va_new (ci := 7) (fs := []) (C := RX7) (T := TX7) (N := 0) hx hb hts zi7_ tyX7 tyX7_ok hown z3_ z4_ z5_ hK hP hD hS hA rfl (fun j hj => absurd hj (Nat.not_lt_zero j)) (Nat.le_of_ble_eq_true rfl) (Nat.le_of_ble_eq_true rfl) dX4_init_5 (fun q1 H hP hD hS => ?_)
  have hP : va_P D vwCl [(w, .inr (4, [.null, .null, .null, .null, .null, .null, .null, .int 0, .long 0])), (q1, .inr (7, []))] H := hP
  have hD : va_D A [(w, .inr (4, [.null, .null, .null, .null, .null, .null, .null, .int 0, .long 0])), (q1, .inr (7, []))] := hD
  refine W.widen (k := 1) (n := 0) (Nat.le_of_ble_eq_true rfl) (Nat.le_of_ble_eq_true rfl) ?_
  refine lv_dup hx hb dX4_init_8 rfl ?_
  refine rd_v (va_runIN (As := []) (rest := [.ref q1, .ref w]) ⟨hx, hb, hml, hown, hts⟩ (c_X7_init l D cy q1 _) ⟨(va_cnB 0 hts gX4_init_X7_init_n11 rfl rfl rfl (hKA.2 (.methodLinkNest RX4 11 yX7_init RX10) (by decide +kernel)) z5_ (by decide +kernel) ⟨Nat.le_of_ble_eq_true rfl, Nat.le_of_ble_eq_true rfl⟩), rfl, z7_⟩ (pS hKA pE (dE (A := A))) rfl rfl hl.1 rfl (lv_room (Nat.le_of_ble_eq_true rfl)) dX4_init_9 ⟨Nat.le_of_ble_eq_true rfl, Nat.le_of_ble_eq_true rfl⟩) hP hS hA (fun H locs hwr2 hP hS => ?_)
  refine va_putF (D := D) (ci := 4) (v := .ref q1) (ty := .object "HeardSeen$Person") (C := RX4) (T := TX4) (N := 9) hx hb hts zi4_ tyX4 tyX4_ok nmX4 hown hK hP hD hS 0 rfl rfl 1 (by decide) z8_ (fun _ h9 => h9) rfl hin rfl (by decide +kernel) rfl rfl (Nat.le_of_ble_eq_true rfl) dX4_init_12 (fun H locs hP hD hS => ?_)
  have hP : va_P D vwCl [(w, .inr (4, [.null, .ref q1, .null, .null, .null, .null, .null, .int 0, .long 0])), (q1, .inr (7, []))] H := hP
  have hD : va_D A [(w, .inr (4, [.null, .ref q1, .null, .null, .null, .null, .null, .int 0, .long 0])), (q1, .inr (7, []))] := hD
  refine lv_aload_n hx hb dX4_init_15 rfl (lv_at hl 0 rfl) ?_
  refine lv_bipush (v := 6) hx hb dX4_init_16 (by decide) ?_
  refine my_newq hx hb hown z3_ (hKA.2 (.arrayOver (.object RX7)) (by decide +kernel)) hK hP hD hS hA 4 rfl (by decide) (N' := 6) (by decide +kernel) (by decide +kernel) (Nat.le_of_ble_eq_true rfl) (Nat.le_of_ble_eq_true rfl) dX4_init_18 (fun q3 H hP hD hS => ?_)
  have hP : va_P D vwCl [(w, .inr (4, [.null, .ref q1, .null, .null, .null, .null, .null, .int 0, .long 0])), (q1, .inr (7, [])), (q3, .inl (cy 4, 6, .inr (.inr (.inr (.inr (fun _ => none))))))] H := hP
  have hD : va_D A [(w, .inr (4, [.null, .ref q1, .null, .null, .null, .null, .null, .int 0, .long 0])), (q1, .inr (7, [])), (q3, .inl (cy 4, 6, .inr (.inr (.inr (.inr (fun _ => none))))))] := hD
  refine W.widen (k := 2) (n := 6) (Nat.le_of_ble_eq_true rfl) (Nat.le_of_ble_eq_true rfl) ?_
  refine va_putF (D := D) (ci := 4) (v := .ref q3) (ty := .array (.object "HeardSeen$Person")) (C := RX4) (T := TX4) (N := 9) hx hb hts zi4_ tyX4 tyX4_ok nmX4 hown hK hP hD hS 0 rfl rfl 2 (by decide) z10_ (fun _ h9 => h9) rfl hin rfl (by decide +kernel) rfl rfl (Nat.le_of_ble_eq_true rfl) dX4_init_21 (fun H locs hP hD hS => ?_)
  have hP : va_P D vwCl [(w, .inr (4, [.null, .ref q1, .ref q3, .null, .null, .null, .null, .int 0, .long 0])), (q1, .inr (7, [])), (q3, .inl (cy 4, 6, .inr (.inr (.inr (.inr (fun _ => none))))))] H := hP
  have hD : va_D A [(w, .inr (4, [.null, .ref q1, .ref q3, .null, .null, .null, .null, .int 0, .long 0])), (q1, .inr (7, [])), (q3, .inl (cy 4, 6, .inr (.inr (.inr (.inr (fun _ => none))))))] := hD
  refine lv_aload_n hx hb dX4_init_24 rfl (lv_at hl 0 rfl) ?_
  refine lv_iconst (v := 5) hx hb dX4_init_25 (by decide) ?_
  refine my_newa (atype := .int) (ty := .int) (N' := 5) (a0 := (5, .inl (fun _ => 0))) hx hb z11_ rfl hK hP hD hS hA 1 rfl (a0I 5) (by decide) (by decide +kernel) (by decide +kernel) (Nat.le_of_ble_eq_true rfl) (Nat.le_of_ble_eq_true rfl) dX4_init_26 (fun q4 H hP hD hS => ?_)
  have hP : va_P D vwCl [(w, .inr (4, [.null, .ref q1, .ref q3, .null, .null, .null, .null, .int 0, .long 0])), (q1, .inr (7, [])), (q3, .inl (cy 4, 6, .inr (.inr (.inr (.inr (fun _ => none)))))), (q4, .inl (cy 1, 5, .inl (fun _ => 0)))] H := hP
  have hD : va_D A [(w, .inr (4, [.null, .ref q1, .ref q3, .null, .null, .null, .null, .int 0, .long 0])), (q1, .inr (7, [])), (q3, .inl (cy 4, 6, .inr (.inr (.inr (.inr (fun _ => none)))))), (q4, .inl (cy 1, 5, .inl (fun _ => 0)))] := hD
  refine W.widen (k := 3) (n := 11) (Nat.le_of_ble_eq_true rfl) (Nat.le_of_ble_eq_true rfl) ?_
  refine va_putF (D := D) (ci := 4) (v := .ref q4) (ty := .array .int) (C := RX4) (T := TX4) (N := 9) hx hb hts zi4_ tyX4 tyX4_ok nmX4 hown hK hP hD hS 0 rfl rfl 3 (by decide) z12_ (fun _ h9 => h9) rfl hin rfl (by decide +kernel) rfl rfl (Nat.le_of_ble_eq_true rfl) dX4_init_28 (fun H locs hP hD hS => ?_)
  have hP : va_P D vwCl [(w, .inr (4, [.null, .ref q1, .ref q3, .ref q4, .null, .null, .null, .int 0, .long 0])), (q1, .inr (7, [])), (q3, .inl (cy 4, 6, .inr (.inr (.inr (.inr (fun _ => none)))))), (q4, .inl (cy 1, 5, .inl (fun _ => 0)))] H := hP
  have hD : va_D A [(w, .inr (4, [.null, .ref q1, .ref q3, .ref q4, .null, .null, .null, .int 0, .long 0])), (q1, .inr (7, [])), (q3, .inl (cy 4, 6, .inr (.inr (.inr (.inr (fun _ => none)))))), (q4, .inl (cy 1, 5, .inl (fun _ => 0)))] := hD
  refine lv_aload_n hx hb dX4_init_31 rfl (lv_at hl 0 rfl) ?_
  refine lv_iconst (v := 5) hx hb dX4_init_32 (by decide) ?_
  refine my_newa (atype := .int) (ty := .int) (N' := 5) (a0 := (5, .inl (fun _ => 0))) hx hb z11_ rfl hK hP hD hS hA 1 rfl (a0I 5) (by decide) (by decide +kernel) (by decide +kernel) (Nat.le_of_ble_eq_true rfl) (Nat.le_of_ble_eq_true rfl) dX4_init_33 (fun q5 H hP hD hS => ?_)
  have hP : va_P D vwCl [(w, .inr (4, [.null, .ref q1, .ref q3, .ref q4, .null, .null, .null, .int 0, .long 0])), (q1, .inr (7, [])), (q3, .inl (cy 4, 6, .inr (.inr (.inr (.inr (fun _ => none)))))), (q4, .inl (cy 1, 5, .inl (fun _ => 0))), (q5, .inl (cy 1, 5, .inl (fun _ => 0)))] H := hP
  have hD : va_D A [(w, .inr (4, [.null, .ref q1, .ref q3, .ref q4, .null, .null, .null, .int 0, .long 0])), (q1, .inr (7, [])), (q3, .inl (cy 4, 6, .inr (.inr (.inr (.inr (fun _ => none)))))), (q4, .inl (cy 1, 5, .inl (fun _ => 0))), (q5, .inl (cy 1, 5, .inl (fun _ => 0)))] := hD
  refine W.widen (k := 4) (n := 16) (Nat.le_of_ble_eq_true rfl) (Nat.le_of_ble_eq_true rfl) ?_
  refine va_putF (D := D) (ci := 4) (v := .ref q5) (ty := .array .int) (C := RX4) (T := TX4) (N := 9) hx hb hts zi4_ tyX4 tyX4_ok nmX4 hown hK hP hD hS 0 rfl rfl 4 (by decide) z13_ (fun _ h9 => h9) rfl hin rfl (by decide +kernel) rfl rfl (Nat.le_of_ble_eq_true rfl) dX4_init_35 (fun H locs hP hD hS => ?_)
  have hP : va_P D vwCl [(w, .inr (4, [.null, .ref q1, .ref q3, .ref q4, .ref q5, .null, .null, .int 0, .long 0])), (q1, .inr (7, [])), (q3, .inl (cy 4, 6, .inr (.inr (.inr (.inr (fun _ => none)))))), (q4, .inl (cy 1, 5, .inl (fun _ => 0))), (q5, .inl (cy 1, 5, .inl (fun _ => 0)))] H := hP
  have hD : va_D A [(w, .inr (4, [.null, .ref q1, .ref q3, .ref q4, .ref q5, .null, .null, .int 0, .long 0])), (q1, .inr (7, [])), (q3, .inl (cy 4, 6, .inr (.inr (.inr (.inr (fun _ => none)))))), (q4, .inl (cy 1, 5, .inl (fun _ => 0))), (q5, .inl (cy 1, 5, .inl (fun _ => 0)))] := hD
  refine lv_aload_n hx hb dX4_init_38 rfl (lv_at hl 0 rfl) ?_
  refine lv_bipush (v := 36) hx hb dX4_init_39 (by decide) ?_
  refine my_newa (atype := .int) (ty := .int) (N' := 36) (a0 := (36, .inl (fun _ => 0))) hx hb z11_ rfl hK hP hD hS hA 1 rfl (a0I 36) (by decide) (by decide +kernel) (by decide +kernel) (Nat.le_of_ble_eq_true rfl) (Nat.le_of_ble_eq_true rfl) dX4_init_41 (fun q6 H hP hD hS => ?_)
  have hP : va_P D vwCl [(w, .inr (4, [.null, .ref q1, .ref q3, .ref q4, .ref q5, .null, .null, .int 0, .long 0])), (q1, .inr (7, [])), (q3, .inl (cy 4, 6, .inr (.inr (.inr (.inr (fun _ => none)))))), (q4, .inl (cy 1, 5, .inl (fun _ => 0))), (q5, .inl (cy 1, 5, .inl (fun _ => 0))), (q6, .inl (cy 1, 36, .inl (fun _ => 0)))] H := hP
  have hD : va_D A [(w, .inr (4, [.null, .ref q1, .ref q3, .ref q4, .ref q5, .null, .null, .int 0, .long 0])), (q1, .inr (7, [])), (q3, .inl (cy 4, 6, .inr (.inr (.inr (.inr (fun _ => none)))))), (q4, .inl (cy 1, 5, .inl (fun _ => 0))), (q5, .inl (cy 1, 5, .inl (fun _ => 0))), (q6, .inl (cy 1, 36, .inl (fun _ => 0)))] := hD
  refine W.widen (k := 5) (n := 52) (Nat.le_of_ble_eq_true rfl) (Nat.le_of_ble_eq_true rfl) ?_
  refine va_putF (D := D) (ci := 4) (v := .ref q6) (ty := .array .int) (C := RX4) (T := TX4) (N := 9) hx hb hts zi4_ tyX4 tyX4_ok nmX4 hown hK hP hD hS 0 rfl rfl 5 (by decide) z14_ (fun _ h9 => h9) rfl hin rfl (by decide +kernel) rfl rfl (Nat.le_of_ble_eq_true rfl) dX4_init_43 (fun H locs hP hD hS => ?_)
  have hP : va_P D vwCl [(w, .inr (4, [.null, .ref q1, .ref q3, .ref q4, .ref q5, .ref q6, .null, .int 0, .long 0])), (q1, .inr (7, [])), (q3, .inl (cy 4, 6, .inr (.inr (.inr (.inr (fun _ => none)))))), (q4, .inl (cy 1, 5, .inl (fun _ => 0))), (q5, .inl (cy 1, 5, .inl (fun _ => 0))), (q6, .inl (cy 1, 36, .inl (fun _ => 0)))] H := hP
  have hD : va_D A [(w, .inr (4, [.null, .ref q1, .ref q3, .ref q4, .ref q5, .ref q6, .null, .int 0, .long 0])), (q1, .inr (7, [])), (q3, .inl (cy 4, 6, .inr (.inr (.inr (.inr (fun _ => none)))))), (q4, .inl (cy 1, 5, .inl (fun _ => 0))), (q5, .inl (cy 1, 5, .inl (fun _ => 0))), (q6, .inl (cy 1, 36, .inl (fun _ => 0)))] := hD
  refine lv_aload_n hx hb dX4_init_46 rfl (lv_at hl 0 rfl) ?_
  refine lv_bipush (v := 36) hx hb dX4_init_47 (by decide) ?_
  refine my_newa (atype := .int) (ty := .int) (N' := 36) (a0 := (36, .inl (fun _ => 0))) hx hb z11_ rfl hK hP hD hS hA 1 rfl (a0I 36) (by decide) (by decide +kernel) (by decide +kernel) (Nat.le_of_ble_eq_true rfl) (Nat.le_of_ble_eq_true rfl) dX4_init_49 (fun q7 H hP hD hS => ?_)
  have hP : va_P D vwCl [(w, .inr (4, [.null, .ref q1, .ref q3, .ref q4, .ref q5, .ref q6, .null, .int 0, .long 0])), (q1, .inr (7, [])), (q3, .inl (cy 4, 6, .inr (.inr (.inr (.inr (fun _ => none)))))), (q4, .inl (cy 1, 5, .inl (fun _ => 0))), (q5, .inl (cy 1, 5, .inl (fun _ => 0))), (q6, .inl (cy 1, 36, .inl (fun _ => 0))), (q7, .inl (cy 1, 36, .inl (fun _ => 0)))] H := hP
  have hD : va_D A [(w, .inr (4, [.null, .ref q1, .ref q3, .ref q4, .ref q5, .ref q6, .null, .int 0, .long 0])), (q1, .inr (7, [])), (q3, .inl (cy 4, 6, .inr (.inr (.inr (.inr (fun _ => none)))))), (q4, .inl (cy 1, 5, .inl (fun _ => 0))), (q5, .inl (cy 1, 5, .inl (fun _ => 0))), (q6, .inl (cy 1, 36, .inl (fun _ => 0))), (q7, .inl (cy 1, 36, .inl (fun _ => 0)))] := hD
  refine W.widen (k := 6) (n := 88) (Nat.le_of_ble_eq_true rfl) (Nat.le_of_ble_eq_true rfl) ?_
  refine va_putF (D := D) (ci := 4) (v := .ref q7) (ty := .array .int) (C := RX4) (T := TX4) (N := 9) hx hb hts zi4_ tyX4 tyX4_ok nmX4 hown hK hP hD hS 0 rfl rfl 6 (by decide) z15_ (fun _ h9 => h9) rfl hin rfl (by decide +kernel) rfl rfl (Nat.le_of_ble_eq_true rfl) dX4_init_51 (fun H locs hP hD hS => ?_)
  have hP : va_P D vwCl [(w, .inr (4, [.null, .ref q1, .ref q3, .ref q4, .ref q5, .ref q6, .ref q7, .int 0, .long 0])), (q1, .inr (7, [])), (q3, .inl (cy 4, 6, .inr (.inr (.inr (.inr (fun _ => none)))))), (q4, .inl (cy 1, 5, .inl (fun _ => 0))), (q5, .inl (cy 1, 5, .inl (fun _ => 0))), (q6, .inl (cy 1, 36, .inl (fun _ => 0))), (q7, .inl (cy 1, 36, .inl (fun _ => 0)))] H := hP
  have hD : va_D A [(w, .inr (4, [.null, .ref q1, .ref q3, .ref q4, .ref q5, .ref q6, .ref q7, .int 0, .long 0])), (q1, .inr (7, [])), (q3, .inl (cy 4, 6, .inr (.inr (.inr (.inr (fun _ => none)))))), (q4, .inl (cy 1, 5, .inl (fun _ => 0))), (q5, .inl (cy 1, 5, .inl (fun _ => 0))), (q6, .inl (cy 1, 36, .inl (fun _ => 0))), (q7, .inl (cy 1, 36, .inl (fun _ => 0)))] := hD
  refine lv_aload_n hx hb dX4_init_54 rfl (lv_at hl 0 rfl) ?_
  refine lv_aload_n hx hb dX4_init_55 rfl (lv_at hl 1 rfl) ?_
  refine va_putF (D := D) (ci := 4) (v := .ref g) (ty := .object "HeardSeen$Garden") (C := RX4) (T := TX4) (N := 9) hx hb hts zi4_ tyX4 tyX4_ok nmX4 hown hK hP hD hS 0 rfl rfl 0 (by decide) z16_ (fun _ h9 => h9) rfl hin rfl (by decide +kernel) rfl rfl (Nat.le_of_ble_eq_true rfl) dX4_init_56 (fun H locs hP hD hS => ?_)
  have hP : va_P D vwCl [(w, .inr (4, [.ref g, .ref q1, .ref q3, .ref q4, .ref q5, .ref q6, .ref q7, .int 0, .long 0])), (q1, .inr (7, [])), (q3, .inl (cy 4, 6, .inr (.inr (.inr (.inr (fun _ => none)))))), (q4, .inl (cy 1, 5, .inl (fun _ => 0))), (q5, .inl (cy 1, 5, .inl (fun _ => 0))), (q6, .inl (cy 1, 36, .inl (fun _ => 0))), (q7, .inl (cy 1, 36, .inl (fun _ => 0)))] H := hP
  have hD : va_D A [(w, .inr (4, [.ref g, .ref q1, .ref q3, .ref q4, .ref q5, .ref q6, .ref q7, .int 0, .long 0])), (q1, .inr (7, [])), (q3, .inl (cy 4, 6, .inr (.inr (.inr (.inr (fun _ => none)))))), (q4, .inl (cy 1, 5, .inl (fun _ => 0))), (q5, .inl (cy 1, 5, .inl (fun _ => 0))), (q6, .inl (cy 1, 36, .inl (fun _ => 0))), (q7, .inl (cy 1, 36, .inl (fun _ => 0)))] := hD
  refine lv_aload_n hx hb dX4_init_59 rfl (lv_at hl 0 rfl) ?_
  refine va_get (D := D) (ci := 4) (v := .ref q3) (C := RX4) (T := TX4) (N := 9) hx hb hts zi4_ hown hK hP 0 rfl rfl 2 (by decide) z10_ (fun _ h9 => h9) rfl dX4_init_60 ?_
  refine lv_iconst (v := 0) hx hb dX4_init_63 (by decide) ?_
  refine lv_aload_n hx hb dX4_init_64 rfl (lv_at hl 0 rfl) ?_
  refine va_get (D := D) (ci := 4) (v := .ref q1) (C := RX4) (T := TX4) (N := 9) hx hb hts zi4_ hown hK hP 0 rfl rfl 1 (by decide) z8_ (fun _ h9 => h9) rfl dX4_init_65 ?_
  refine va_astq hx hb hK hP hD hS 2 4 1 7 rfl rfl rfl rfl (by rw [vp_in_iff]; decide +kernel) dX4_init_68 (fun H locs hP hD hS => ?_)
  have hP : va_P D vwCl [(w, .inr (4, [.ref g, .ref q1, .ref q3, .ref q4, .ref q5, .ref q6, .ref q7, .int 0, .long 0])), (q1, .inr (7, [])), (q3, .inl (cy 4, 6, .inr (.inr (.inr (.inr (va_up (fun _ => none) (0 : Int32).toNatClampNeg (some q1))))))), (q4, .inl (cy 1, 5, .inl (fun _ => 0))), (q5, .inl (cy 1, 5, .inl (fun _ => 0))), (q6, .inl (cy 1, 36, .inl (fun _ => 0))), (q7, .inl (cy 1, 36, .inl (fun _ => 0)))] H := hP
  have hD : va_D A [(w, .inr (4, [.ref g, .ref q1, .ref q3, .ref q4, .ref q5, .ref q6, .ref q7, .int 0, .long 0])), (q1, .inr (7, [])), (q3, .inl (cy 4, 6, .inr (.inr (.inr (.inr (va_up (fun _ => none) (0 : Int32).toNatClampNeg (some q1))))))), (q4, .inl (cy 1, 5, .inl (fun _ => 0))), (q5, .inl (cy 1, 5, .inl (fun _ => 0))), (q6, .inl (cy 1, 36, .inl (fun _ => 0))), (q7, .inl (cy 1, 36, .inl (fun _ => 0)))] := hD
  refine lv_aload_n hx hb dX4_init_69 rfl (lv_at hl 0 rfl) ?_
  refine va_get (D := D) (ci := 4) (v := .ref q3) (C := RX4) (T := TX4) (N := 9) hx hb hts zi4_ hown hK hP 0 rfl rfl 2 (by decide) z10_ (fun _ h9 => h9) rfl dX4_init_70 ?_
  refine lv_iconst (v := 1) hx hb dX4_init_73 (by decide) ?_
  refine va_new (ci := 2) (fs := []) (C := RX2) (T := TX2) (N := 0) hx hb hts zi2_ tyX2 tyX2_ok hown z17_ z18_ z19_ hK hP hD hS hA rfl (fun j hj => absurd hj (Nat.not_lt_zero j)) (Nat.le_of_ble_eq_true rfl) (Nat.le_of_ble_eq_true rfl) dX4_init_74 (fun q8 H hP hD hS => ?_)
  have hP : va_P D vwCl [(w, .inr (4, [.ref g, .ref q1, .ref q3, .ref q4, .ref q5, .ref q6, .ref q7, .int 0, .long 0])), (q1, .inr (7, [])), (q3, .inl (cy 4, 6, .inr (.inr (.inr (.inr (va_up (fun _ => none) (0 : Int32).toNatClampNeg (some q1))))))), (q4, .inl (cy 1, 5, .inl (fun _ => 0))), (q5, .inl (cy 1, 5, .inl (fun _ => 0))), (q6, .inl (cy 1, 36, .inl (fun _ => 0))), (q7, .inl (cy 1, 36, .inl (fun _ => 0))), (q8, .inr (2, []))] H := hP
  have hD : va_D A [(w, .inr (4, [.ref g, .ref q1, .ref q3, .ref q4, .ref q5, .ref q6, .ref q7, .int 0, .long 0])), (q1, .inr (7, [])), (q3, .inl (cy 4, 6, .inr (.inr (.inr (.inr (va_up (fun _ => none) (0 : Int32).toNatClampNeg (some q1))))))), (q4, .inl (cy 1, 5, .inl (fun _ => 0))), (q5, .inl (cy 1, 5, .inl (fun _ => 0))), (q6, .inl (cy 1, 36, .inl (fun _ => 0))), (q7, .inl (cy 1, 36, .inl (fun _ => 0))), (q8, .inr (2, []))] := hD
  refine W.widen (k := 7) (n := 88) (Nat.le_of_ble_eq_true rfl) (Nat.le_of_ble_eq_true rfl) ?_
  refine lv_dup hx hb dX4_init_77 rfl ?_
  refine rd_v (va_runIN (As := []) (rest := [.ref q8, .int 1, .ref q3]) ⟨hx, hb, hml, hown, hts⟩ (c_X2_init l D cy q8 _) ⟨(va_cnB 0 hts gX4_init_X2_init_n41 rfl rfl rfl (hKA.2 (.methodLinkNest RX4 41 yX2_init RX10) (by decide +kernel)) z19_ (by decide +kernel) ⟨Nat.le_of_ble_eq_true rfl, Nat.le_of_ble_eq_true rfl⟩), rfl, z21_⟩ (pS hKA pE (dE (A := A))) rfl rfl hl.1 rfl (lv_room (Nat.le_of_ble_eq_true rfl)) dX4_init_78 ⟨Nat.le_of_ble_eq_true rfl, Nat.le_of_ble_eq_true rfl⟩) hP hS hA (fun H locs hwr9 hP hS => ?_)
  refine va_astqO hx hb hK hP hD hS 2 4 7 2 rfl rfl (hKA.2 (.castable RX2 RX7) (by decide +kernel)) rfl rfl (by rw [vp_in_iff]; decide +kernel) dX4_init_81 (fun H locs hP hD hS => ?_)
  have hP : va_P D vwCl [(w, .inr (4, [.ref g, .ref q1, .ref q3, .ref q4, .ref q5, .ref q6, .ref q7, .int 0, .long 0])), (q1, .inr (7, [])), (q3, .inl (cy 4, 6, .inr (.inr (.inr (.inr (va_up (va_up (fun _ => none) (0 : Int32).toNatClampNeg (some q1)) (1 : Int32).toNatClampNeg (some q8))))))), (q4, .inl (cy 1, 5, .inl (fun _ => 0))), (q5, .inl (cy 1, 5, .inl (fun _ => 0))), (q6, .inl (cy 1, 36, .inl (fun _ => 0))), (q7, .inl (cy 1, 36, .inl (fun _ => 0))), (q8, .inr (2, []))] H := hP
  have hD : va_D A [(w, .inr (4, [.ref g, .ref q1, .ref q3, .ref q4, .ref q5, .ref q6, .ref q7, .int 0, .long 0])), (q1, .inr (7, [])), (q3, .inl (cy 4, 6, .inr (.inr (.inr (.inr (va_up (va_up (fun _ => none) (0 : Int32).toNatClampNeg (some q1)) (1 : Int32).toNatClampNeg (some q8))))))), (q4, .inl (cy 1, 5, .inl (fun _ => 0))), (q5, .inl (cy 1, 5, .inl (fun _ => 0))), (q6, .inl (cy 1, 36, .inl (fun _ => 0))), (q7, .inl (cy 1, 36, .inl (fun _ => 0))), (q8, .inr (2, []))] := hD
  refine lv_aload_n hx hb dX4_init_82 rfl (lv_at hl 0 rfl) ?_
  refine va_get (D := D) (ci := 4) (v := .ref q3) (C := RX4) (T := TX4) (N := 9) hx hb hts zi4_ hown hK hP 0 rfl rfl 2 (by decide) z10_ (fun _ h9 => h9) rfl dX4_init_83 ?_
  refine lv_iconst (v := 2) hx hb dX4_init_86 (by decide) ?_
  refine va_new (ci := 1) (fs := []) (C := RX1) (T := TX1) (N := 0) hx hb hts zi1_ tyX1 tyX1_ok hown z22_ z23_ z24_ hK hP hD hS hA rfl (fun j hj => absurd hj (Nat.not_lt_zero j)) (Nat.le_of_ble_eq_true rfl) (Nat.le_of_ble_eq_true rfl) dX4_init_87 (fun q10 H hP hD hS => ?_)
  have hP : va_P D vwCl [(w, .inr (4, [.ref g, .ref q1, .ref q3, .ref q4, .ref q5, .ref q6, .ref q7, .int 0, .long 0])), (q1, .inr (7, [])), (q3, .inl (cy 4, 6, .inr (.inr (.inr (.inr (va_up (va_up (fun _ => none) (0 : Int32).toNatClampNeg (some q1)) (1 : Int32).toNatClampNeg (some q8))))))), (q4, .inl (cy 1, 5, .inl (fun _ => 0))), (q5, .inl (cy 1, 5, .inl (fun _ => 0))), (q6, .inl (cy 1, 36, .inl (fun _ => 0))), (q7, .inl (cy 1, 36, .inl (fun _ => 0))), (q8, .inr (2, [])), (q10, .inr (1, []))] H := hP
  have hD : va_D A [(w, .inr (4, [.ref g, .ref q1, .ref q3, .ref q4, .ref q5, .ref q6, .ref q7, .int 0, .long 0])), (q1, .inr (7, [])), (q3, .inl (cy 4, 6, .inr (.inr (.inr (.inr (va_up (va_up (fun _ => none) (0 : Int32).toNatClampNeg (some q1)) (1 : Int32).toNatClampNeg (some q8))))))), (q4, .inl (cy 1, 5, .inl (fun _ => 0))), (q5, .inl (cy 1, 5, .inl (fun _ => 0))), (q6, .inl (cy 1, 36, .inl (fun _ => 0))), (q7, .inl (cy 1, 36, .inl (fun _ => 0))), (q8, .inr (2, [])), (q10, .inr (1, []))] := hD
  refine W.widen (k := 8) (n := 88) (Nat.le_of_ble_eq_true rfl) (Nat.le_of_ble_eq_true rfl) ?_
  refine lv_dup hx hb dX4_init_90 rfl ?_
  refine rd_v (va_runIN (As := []) (rest := [.ref q10, .int 2, .ref q3]) ⟨hx, hb, hml, hown, hts⟩ (c_X1_init l D cy q10 _) ⟨(va_cnB 0 hts gX4_init_X1_init_n44 rfl rfl rfl (hKA.2 (.methodLinkNest RX4 44 yX1_init RX10) (by decide +kernel)) z24_ (by decide +kernel) ⟨Nat.le_of_ble_eq_true rfl, Nat.le_of_ble_eq_true rfl⟩), rfl, z26_⟩ (pS hKA pE (dE (A := A))) rfl rfl hl.1 rfl (lv_room (Nat.le_of_ble_eq_true rfl)) dX4_init_91 ⟨Nat.le_of_ble_eq_true rfl, Nat.le_of_ble_eq_true rfl⟩) hP hS hA (fun H locs hwr11 hP hS => ?_)
  refine va_astqO hx hb hK hP hD hS 2 4 8 1 rfl rfl (hKA.2 (.castable RX1 RX7) (by decide +kernel)) rfl rfl (by rw [vp_in_iff]; decide +kernel) dX4_init_94 (fun H locs hP hD hS => ?_)
  have hP : va_P D vwCl [(w, .inr (4, [.ref g, .ref q1, .ref q3, .ref q4, .ref q5, .ref q6, .ref q7, .int 0, .long 0])), (q1, .inr (7, [])), (q3, .inl (cy 4, 6, .inr (.inr (.inr (.inr (va_up (va_up (va_up (fun _ => none) (0 : Int32).toNatClampNeg (some q1)) (1 : Int32).toNatClampNeg (some q8)) (2 : Int32).toNatClampNeg (some q10))))))), (q4, .inl (cy 1, 5, .inl (fun _ => 0))), (q5, .inl (cy 1, 5, .inl (fun _ => 0))), (q6, .inl (cy 1, 36, .inl (fun _ => 0))), (q7, .inl (cy 1, 36, .inl (fun _ => 0))), (q8, .inr (2, [])), (q10, .inr (1, []))] H := hP
  have hD : va_D A [(w, .inr (4, [.ref g, .ref q1, .ref q3, .ref q4, .ref q5, .ref q6, .ref q7, .int 0, .long 0])), (q1, .inr (7, [])), (q3, .inl (cy 4, 6, .inr (.inr (.inr (.inr (va_up (va_up (va_up (fun _ => none) (0 : Int32).toNatClampNeg (some q1)) (1 : Int32).toNatClampNeg (some q8)) (2 : Int32).toNatClampNeg (some q10))))))), (q4, .inl (cy 1, 5, .inl (fun _ => 0))), (q5, .inl (cy 1, 5, .inl (fun _ => 0))), (q6, .inl (cy 1, 36, .inl (fun _ => 0))), (q7, .inl (cy 1, 36, .inl (fun _ => 0))), (q8, .inr (2, [])), (q10, .inr (1, []))] := hD
  refine lv_aload_n hx hb dX4_init_95 rfl (lv_at hl 0 rfl) ?_
  refine va_get (D := D) (ci := 4) (v := .ref q3) (C := RX4) (T := TX4) (N := 9) hx hb hts zi4_ hown hK hP 0 rfl rfl 2 (by decide) z10_ (fun _ h9 => h9) rfl dX4_init_96 ?_
  refine lv_iconst (v := 3) hx hb dX4_init_99 (by decide) ?_
  refine va_new (ci := 9) (fs := []) (C := RX9) (T := TX9) (N := 0) hx hb hts zi9_ tyX9 tyX9_ok hown z27_ z28_ z29_ hK hP hD hS hA rfl (fun j hj => absurd hj (Nat.not_lt_zero j)) (Nat.le_of_ble_eq_true rfl) (Nat.le_of_ble_eq_true rfl) dX4_init_100 (fun q12 H hP hD hS => ?_)
  have hP : va_P D vwCl [(w, .inr (4, [.ref g, .ref q1, .ref q3, .ref q4, .ref q5, .ref q6, .ref q7, .int 0, .long 0])), (q1, .inr (7, [])), (q3, .inl (cy 4, 6, .inr (.inr (.inr (.inr (va_up (va_up (va_up (fun _ => none) (0 : Int32).toNatClampNeg (some q1)) (1 : Int32).toNatClampNeg (some q8)) (2 : Int32).toNatClampNeg (some q10))))))), (q4, .inl (cy 1, 5, .inl (fun _ => 0))), (q5, .inl (cy 1, 5, .inl (fun _ => 0))), (q6, .inl (cy 1, 36, .inl (fun _ => 0))), (q7, .inl (cy 1, 36, .inl (fun _ => 0))), (q8, .inr (2, [])), (q10, .inr (1, [])), (q12, .inr (9, []))] H := hP
  have hD : va_D A [(w, .inr (4, [.ref g, .ref q1, .ref q3, .ref q4, .ref q5, .ref q6, .ref q7, .int 0, .long 0])), (q1, .inr (7, [])), (q3, .inl (cy 4, 6, .inr (.inr (.inr (.inr (va_up (va_up (va_up (fun _ => none) (0 : Int32).toNatClampNeg (some q1)) (1 : Int32).toNatClampNeg (some q8)) (2 : Int32).toNatClampNeg (some q10))))))), (q4, .inl (cy 1, 5, .inl (fun _ => 0))), (q5, .inl (cy 1, 5, .inl (fun _ => 0))), (q6, .inl (cy 1, 36, .inl (fun _ => 0))), (q7, .inl (cy 1, 36, .inl (fun _ => 0))), (q8, .inr (2, [])), (q10, .inr (1, [])), (q12, .inr (9, []))] := hD
  refine W.widen (k := 9) (n := 88) (Nat.le_of_ble_eq_true rfl) (Nat.le_of_ble_eq_true rfl) ?_
  refine lv_dup hx hb dX4_init_103 rfl ?_
  refine rd_v (va_runIN (As := []) (rest := [.ref q12, .int 3, .ref q3]) ⟨hx, hb, hml, hown, hts⟩ (c_X9_init l D cy q12 _) ⟨(va_cnB 0 hts gX4_init_X9_init_n47 rfl rfl rfl (hKA.2 (.methodLinkNest RX4 47 yX9_init RX10) (by decide +kernel)) z29_ (by decide +kernel) ⟨Nat.le_of_ble_eq_true rfl, Nat.le_of_ble_eq_true rfl⟩), rfl, z31_⟩ (pS hKA pE (dE (A := A))) rfl rfl hl.1 rfl (lv_room (Nat.le_of_ble_eq_true rfl)) dX4_init_104 ⟨Nat.le_of_ble_eq_true rfl, Nat.le_of_ble_eq_true rfl⟩) hP hS hA (fun H locs hwr13 hP hS => ?_)
  refine va_astqO hx hb hK hP hD hS 2 4 9 9 rfl rfl (hKA.2 (.castable RX9 RX7) (by decide +kernel)) rfl rfl (by rw [vp_in_iff]; decide +kernel) dX4_init_107 (fun H locs hP hD hS => ?_)
  have hP : va_P D vwCl [(w, .inr (4, [.ref g, .ref q1, .ref q3, .ref q4, .ref q5, .ref q6, .ref q7, .int 0, .long 0])), (q1, .inr (7, [])), (q3, .inl (cy 4, 6, .inr (.inr (.inr (.inr (va_up (va_up (va_up (va_up (fun _ => none) (0 : Int32).toNatClampNeg (some q1)) (1 : Int32).toNatClampNeg (some q8)) (2 : Int32).toNatClampNeg (some q10)) (3 : Int32).toNatClampNeg (some q12))))))), (q4, .inl (cy 1, 5, .inl (fun _ => 0))), (q5, .inl (cy 1, 5, .inl (fun _ => 0))), (q6, .inl (cy 1, 36, .inl (fun _ => 0))), (q7, .inl (cy 1, 36, .inl (fun _ => 0))), (q8, .inr (2, [])), (q10, .inr (1, [])), (q12, .inr (9, []))] H := hP
  have hD : va_D A [(w, .inr (4, [.ref g, .ref q1, .ref q3, .ref q4, .ref q5, .ref q6, .ref q7, .int 0, .long 0])), (q1, .inr (7, [])), (q3, .inl (cy 4, 6, .inr (.inr (.inr (.inr (va_up (va_up (va_up (va_up (fun _ => none) (0 : Int32).toNatClampNeg (some q1)) (1 : Int32).toNatClampNeg (some q8)) (2 : Int32).toNatClampNeg (some q10)) (3 : Int32).toNatClampNeg (some q12))))))), (q4, .inl (cy 1, 5, .inl (fun _ => 0))), (q5, .inl (cy 1, 5, .inl (fun _ => 0))), (q6, .inl (cy 1, 36, .inl (fun _ => 0))), (q7, .inl (cy 1, 36, .inl (fun _ => 0))), (q8, .inr (2, [])), (q10, .inr (1, [])), (q12, .inr (9, []))] := hD
  refine lv_aload_n hx hb dX4_init_108 rfl (lv_at hl 0 rfl) ?_
  refine va_get (D := D) (ci := 4) (v := .ref q3) (C := RX4) (T := TX4) (N := 9) hx hb hts zi4_ hown hK hP 0 rfl rfl 2 (by decide) z10_ (fun _ h9 => h9) rfl dX4_init_109 ?_
  refine lv_iconst (v := 4) hx hb dX4_init_112 (by decide) ?_
  refine va_new (ci := 5) (fs := []) (C := RX5) (T := TX5) (N := 0) hx hb hts zi5_ tyX5 tyX5_ok hown z32_ z33_ z34_ hK hP hD hS hA rfl (fun j hj => absurd hj (Nat.not_lt_zero j)) (Nat.le_of_ble_eq_true rfl) (Nat.le_of_ble_eq_true rfl) dX4_init_113 (fun q14 H hP hD hS => ?_)
  have hP : va_P D vwCl [(w, .inr (4, [.ref g, .ref q1, .ref q3, .ref q4, .ref q5, .ref q6, .ref q7, .int 0, .long 0])), (q1, .inr (7, [])), (q3, .inl (cy 4, 6, .inr (.inr (.inr (.inr (va_up (va_up (va_up (va_up (fun _ => none) (0 : Int32).toNatClampNeg (some q1)) (1 : Int32).toNatClampNeg (some q8)) (2 : Int32).toNatClampNeg (some q10)) (3 : Int32).toNatClampNeg (some q12))))))), (q4, .inl (cy 1, 5, .inl (fun _ => 0))), (q5, .inl (cy 1, 5, .inl (fun _ => 0))), (q6, .inl (cy 1, 36, .inl (fun _ => 0))), (q7, .inl (cy 1, 36, .inl (fun _ => 0))), (q8, .inr (2, [])), (q10, .inr (1, [])), (q12, .inr (9, [])), (q14, .inr (5, []))] H := hP
  have hD : va_D A [(w, .inr (4, [.ref g, .ref q1, .ref q3, .ref q4, .ref q5, .ref q6, .ref q7, .int 0, .long 0])), (q1, .inr (7, [])), (q3, .inl (cy 4, 6, .inr (.inr (.inr (.inr (va_up (va_up (va_up (va_up (fun _ => none) (0 : Int32).toNatClampNeg (some q1)) (1 : Int32).toNatClampNeg (some q8)) (2 : Int32).toNatClampNeg (some q10)) (3 : Int32).toNatClampNeg (some q12))))))), (q4, .inl (cy 1, 5, .inl (fun _ => 0))), (q5, .inl (cy 1, 5, .inl (fun _ => 0))), (q6, .inl (cy 1, 36, .inl (fun _ => 0))), (q7, .inl (cy 1, 36, .inl (fun _ => 0))), (q8, .inr (2, [])), (q10, .inr (1, [])), (q12, .inr (9, [])), (q14, .inr (5, []))] := hD
  refine W.widen (k := 10) (n := 88) (Nat.le_of_ble_eq_true rfl) (Nat.le_of_ble_eq_true rfl) ?_
  refine lv_dup hx hb dX4_init_116 rfl ?_
  refine rd_v (va_runIN (As := []) (rest := [.ref q14, .int 4, .ref q3]) ⟨hx, hb, hml, hown, hts⟩ (c_X5_init l D cy q14 _) ⟨(va_cnB 0 hts gX4_init_X5_init_n50 rfl rfl rfl (hKA.2 (.methodLinkNest RX4 50 yX5_init RX10) (by decide +kernel)) z34_ (by decide +kernel) ⟨Nat.le_of_ble_eq_true rfl, Nat.le_of_ble_eq_true rfl⟩), rfl, z36_⟩ (pS hKA pE (dE (A := A))) rfl rfl hl.1 rfl (lv_room (Nat.le_of_ble_eq_true rfl)) dX4_init_117 ⟨Nat.le_of_ble_eq_true rfl, Nat.le_of_ble_eq_true rfl⟩) hP hS hA (fun H locs hwr15 hP hS => ?_)
  refine va_astqO hx hb hK hP hD hS 2 4 10 5 rfl rfl (hKA.2 (.castable RX5 RX7) (by decide +kernel)) rfl rfl (by rw [vp_in_iff]; decide +kernel) dX4_init_120 (fun H locs hP hD hS => ?_)
  have hP : va_P D vwCl [(w, .inr (4, [.ref g, .ref q1, .ref q3, .ref q4, .ref q5, .ref q6, .ref q7, .int 0, .long 0])), (q1, .inr (7, [])), (q3, .inl (cy 4, 6, .inr (.inr (.inr (.inr (va_up (va_up (va_up (va_up (va_up (fun _ => none) (0 : Int32).toNatClampNeg (some q1)) (1 : Int32).toNatClampNeg (some q8)) (2 : Int32).toNatClampNeg (some q10)) (3 : Int32).toNatClampNeg (some q12)) (4 : Int32).toNatClampNeg (some q14))))))), (q4, .inl (cy 1, 5, .inl (fun _ => 0))), (q5, .inl (cy 1, 5, .inl (fun _ => 0))), (q6, .inl (cy 1, 36, .inl (fun _ => 0))), (q7, .inl (cy 1, 36, .inl (fun _ => 0))), (q8, .inr (2, [])), (q10, .inr (1, [])), (q12, .inr (9, [])), (q14, .inr (5, []))] H := hP
  have hD : va_D A [(w, .inr (4, [.ref g, .ref q1, .ref q3, .ref q4, .ref q5, .ref q6, .ref q7, .int 0, .long 0])), (q1, .inr (7, [])), (q3, .inl (cy 4, 6, .inr (.inr (.inr (.inr (va_up (va_up (va_up (va_up (va_up (fun _ => none) (0 : Int32).toNatClampNeg (some q1)) (1 : Int32).toNatClampNeg (some q8)) (2 : Int32).toNatClampNeg (some q10)) (3 : Int32).toNatClampNeg (some q12)) (4 : Int32).toNatClampNeg (some q14))))))), (q4, .inl (cy 1, 5, .inl (fun _ => 0))), (q5, .inl (cy 1, 5, .inl (fun _ => 0))), (q6, .inl (cy 1, 36, .inl (fun _ => 0))), (q7, .inl (cy 1, 36, .inl (fun _ => 0))), (q8, .inr (2, [])), (q10, .inr (1, [])), (q12, .inr (9, [])), (q14, .inr (5, []))] := hD
  refine lv_aload_n hx hb dX4_init_121 rfl (lv_at hl 0 rfl) ?_
  refine va_get (D := D) (ci := 4) (v := .ref q3) (C := RX4) (T := TX4) (N := 9) hx hb hts zi4_ hown hK hP 0 rfl rfl 2 (by decide) z10_ (fun _ h9 => h9) rfl dX4_init_122 ?_
  refine lv_iconst (v := 5) hx hb dX4_init_125 (by decide) ?_
  refine va_new (ci := 0) (fs := []) (C := RX0) (T := TX0) (N := 0) hx hb hts zi0_ tyX0 tyX0_ok hown z37_ z38_ z39_ hK hP hD hS hA rfl (fun j hj => absurd hj (Nat.not_lt_zero j)) (Nat.le_of_ble_eq_true rfl) (Nat.le_of_ble_eq_true rfl) dX4_init_126 (fun q16 H hP hD hS => ?_)
  have hP : va_P D vwCl [(w, .inr (4, [.ref g, .ref q1, .ref q3, .ref q4, .ref q5, .ref q6, .ref q7, .int 0, .long 0])), (q1, .inr (7, [])), (q3, .inl (cy 4, 6, .inr (.inr (.inr (.inr (va_up (va_up (va_up (va_up (va_up (fun _ => none) (0 : Int32).toNatClampNeg (some q1)) (1 : Int32).toNatClampNeg (some q8)) (2 : Int32).toNatClampNeg (some q10)) (3 : Int32).toNatClampNeg (some q12)) (4 : Int32).toNatClampNeg (some q14))))))), (q4, .inl (cy 1, 5, .inl (fun _ => 0))), (q5, .inl (cy 1, 5, .inl (fun _ => 0))), (q6, .inl (cy 1, 36, .inl (fun _ => 0))), (q7, .inl (cy 1, 36, .inl (fun _ => 0))), (q8, .inr (2, [])), (q10, .inr (1, [])), (q12, .inr (9, [])), (q14, .inr (5, [])), (q16, .inr (0, []))] H := hP
  have hD : va_D A [(w, .inr (4, [.ref g, .ref q1, .ref q3, .ref q4, .ref q5, .ref q6, .ref q7, .int 0, .long 0])), (q1, .inr (7, [])), (q3, .inl (cy 4, 6, .inr (.inr (.inr (.inr (va_up (va_up (va_up (va_up (va_up (fun _ => none) (0 : Int32).toNatClampNeg (some q1)) (1 : Int32).toNatClampNeg (some q8)) (2 : Int32).toNatClampNeg (some q10)) (3 : Int32).toNatClampNeg (some q12)) (4 : Int32).toNatClampNeg (some q14))))))), (q4, .inl (cy 1, 5, .inl (fun _ => 0))), (q5, .inl (cy 1, 5, .inl (fun _ => 0))), (q6, .inl (cy 1, 36, .inl (fun _ => 0))), (q7, .inl (cy 1, 36, .inl (fun _ => 0))), (q8, .inr (2, [])), (q10, .inr (1, [])), (q12, .inr (9, [])), (q14, .inr (5, [])), (q16, .inr (0, []))] := hD
  refine W.widen (k := 11) (n := 88) (Nat.le_of_ble_eq_true rfl) (Nat.le_of_ble_eq_true rfl) ?_
  refine lv_dup hx hb dX4_init_129 rfl ?_
  refine rd_v (va_runIN (As := []) (rest := [.ref q16, .int 5, .ref q3]) ⟨hx, hb, hml, hown, hts⟩ (c_X0_init l D cy q16 _) ⟨(va_cnB 0 hts gX4_init_X0_init_n53 rfl rfl rfl (hKA.2 (.methodLinkNest RX4 53 yX0_init RX10) (by decide +kernel)) z39_ (by decide +kernel) ⟨Nat.le_of_ble_eq_true rfl, Nat.le_of_ble_eq_true rfl⟩), rfl, z41_⟩ (pS hKA pE (dE (A := A))) rfl rfl hl.1 rfl (lv_room (Nat.le_of_ble_eq_true rfl)) dX4_init_130 ⟨Nat.le_of_ble_eq_true rfl, Nat.le_of_ble_eq_true rfl⟩) hP hS hA (fun H locs hwr17 hP hS => ?_)
  refine va_astqO hx hb hK hP hD hS 2 4 11 0 rfl rfl (hKA.2 (.castable RX0 RX7) (by decide +kernel)) rfl rfl (by rw [vp_in_iff]; decide +kernel) dX4_init_133 (fun H locs hP hD hS => ?_)
  have hP : va_P D vwCl [(w, .inr (4, [.ref g, .ref q1, .ref q3, .ref q4, .ref q5, .ref q6, .ref q7, .int 0, .long 0])), (q1, .inr (7, [])), (q3, .inl (cy 4, 6, .inr (.inr (.inr (.inr (va_up (va_up (va_up (va_up (va_up (va_up (fun _ => none) (0 : Int32).toNatClampNeg (some q1)) (1 : Int32).toNatClampNeg (some q8)) (2 : Int32).toNatClampNeg (some q10)) (3 : Int32).toNatClampNeg (some q12)) (4 : Int32).toNatClampNeg (some q14)) (5 : Int32).toNatClampNeg (some q16))))))), (q4, .inl (cy 1, 5, .inl (fun _ => 0))), (q5, .inl (cy 1, 5, .inl (fun _ => 0))), (q6, .inl (cy 1, 36, .inl (fun _ => 0))), (q7, .inl (cy 1, 36, .inl (fun _ => 0))), (q8, .inr (2, [])), (q10, .inr (1, [])), (q12, .inr (9, [])), (q14, .inr (5, [])), (q16, .inr (0, []))] H := hP
  have hD : va_D A [(w, .inr (4, [.ref g, .ref q1, .ref q3, .ref q4, .ref q5, .ref q6, .ref q7, .int 0, .long 0])), (q1, .inr (7, [])), (q3, .inl (cy 4, 6, .inr (.inr (.inr (.inr (va_up (va_up (va_up (va_up (va_up (va_up (fun _ => none) (0 : Int32).toNatClampNeg (some q1)) (1 : Int32).toNatClampNeg (some q8)) (2 : Int32).toNatClampNeg (some q10)) (3 : Int32).toNatClampNeg (some q12)) (4 : Int32).toNatClampNeg (some q14)) (5 : Int32).toNatClampNeg (some q16))))))), (q4, .inl (cy 1, 5, .inl (fun _ => 0))), (q5, .inl (cy 1, 5, .inl (fun _ => 0))), (q6, .inl (cy 1, 36, .inl (fun _ => 0))), (q7, .inl (cy 1, 36, .inl (fun _ => 0))), (q8, .inr (2, [])), (q10, .inr (1, [])), (q12, .inr (9, [])), (q14, .inr (5, [])), (q16, .inr (0, []))] := hD
  refine W.widen (k := 11) (n := 88) (Nat.le_of_ble_eq_true rfl) (Nat.le_of_ble_eq_true rfl) ?_
  have hP9 := hP.sub (ws' := [(w, .inr (4, [.ref g, .ref q1, .ref q3, .ref q4, .ref q5, .ref q6, .ref q7, .int 0, .long 0])), (q1, .inr (7, [])), (q3, .inl (cy 4, 6, .inr (.inr (.inr (.inr (va_up (va_up (va_up (va_up (va_up (va_up (fun _ => none) (0 : Int32).toNatClampNeg (some q1)) (1 : Int32).toNatClampNeg (some q8)) (2 : Int32).toNatClampNeg (some q10)) (3 : Int32).toNatClampNeg (some q12)) (4 : Int32).toNatClampNeg (some q14)) (5 : Int32).toNatClampNeg (some q16))))))), (q4, .inl (cy 1, 5, .inl (fun _ => 0))), (q5, .inl (cy 1, 5, .inl (fun _ => 0))), (q6, .inl (cy 1, 36, .inl (fun _ => 0))), (q7, .inl (cy 1, 36, .inl (fun _ => 0))), (q8, .inr (2, [])), (q10, .inr (1, [])), (q12, .inr (9, [])), (q14, .inr (5, [])), (q16, .inr (0, []))]) [0, 1, 2, 3, 4, 5, 6, 7, 8, 9, 10, 11] rfl
  have hD9 := hD.sub (ws' := [(w, .inr (4, [.ref g, .ref q1, .ref q3, .ref q4, .ref q5, .ref q6, .ref q7, .int 0, .long 0])), (q1, .inr (7, [])), (q3, .inl (cy 4, 6, .inr (.inr (.inr (.inr (va_up (va_up (va_up (va_up (va_up (va_up (fun _ => none) (0 : Int32).toNatClampNeg (some q1)) (1 : Int32).toNatClampNeg (some q8)) (2 : Int32).toNatClampNeg (some q10)) (3 : Int32).toNatClampNeg (some q12)) (4 : Int32).toNatClampNeg (some q14)) (5 : Int32).toNatClampNeg (some q16))))))), (q4, .inl (cy 1, 5, .inl (fun _ => 0))), (q5, .inl (cy 1, 5, .inl (fun _ => 0))), (q6, .inl (cy 1, 36, .inl (fun _ => 0))), (q7, .inl (cy 1, 36, .inl (fun _ => 0))), (q8, .inr (2, [])), (q10, .inr (1, [])), (q12, .inr (9, [])), (q14, .inr (5, [])), (q16, .inr (0, []))]) [0, 1, 2, 3, 4, 5, 6, 7, 8, 9, 10, 11] (by decide) rfl
  exact W.vret hx hb hr (fun t ht hW => ⟨⟨(q1, q3, q4, q5, q6, q7, q8, q10, q12, q14, q16), rfl, trivial, by rw [ht]; exact hP9, hD9⟩, hS.F ht⟩) hS.2.2 dX4_init_134

set_option maxHeartbeats 4000000 in
set_option maxRecDepth 100000 in
theorem c_X6_init (l : Launch) (D : va_G) (cy : Nat → ClassId) (pa g w : Nat) (sz : Nat)  : Met l yX6_init wsX6_init ({ frames := 1, cells := 3, slots := 2340, locals := 12 }) (va_Pc [.ref pa, .ref g, .ref w] (kPre D cy [(pa, .inr (6, [.null, .null, .null, .null, .null]))] sz)) (va_Qv (fun (_ : Nat × Nat × Nat) => True) (fun (u : Nat × Nat × Nat) t => va_P D vwCl ([(pa, .inr (6, [.ref g, .ref w, .ref u.1, .ref u.2.1, .ref u.2.2])), (u.1, .inl (cy 1, 36, .inl (fun _ => 0))), (u.2.1, .inl (cy 1, 1152, .inl (fun _ => 0))), (u.2.2, .inl (cy 1, 1152, .inl (fun _ => 0)))]) t.heap ∧ va_D (va_A [(pa, .inr (6, [.null, .null, .null, .null, .null]))] sz) ([(pa, .inr (6, [.ref g, .ref w, .ref u.1, .ref u.2.1, .ref u.2.2])), (u.1, .inl (cy 1, 36, .inl (fun _ => 0))), (u.2.1, .inl (cy 1, 1152, .inl (fun _ => 0))), (u.2.2, .inl (cy 1, 1152, .inl (fun _ => 0)))])) (va_A [(pa, .inr (6, [.null, .null, .null, .null, .null]))] sz)) 3 2340 (va_A [(pa, .inr (6, [.null, .null, .null, .null, .null]))] sz) := by
  refine Met.ofW (cc := cX6_init) (maxL := 3) (ret := none) (by decide) rfl ?_
  intro p e s m args below meth c s₁ B hml hv
  obtain ⟨rfl, hsz, hP, hKA, hD0⟩ := hv
  have hx := B.exec
  have hb := B.bytes
  have hr := B.returns
  have hts := atoms_spec (ws := wsX6_init) B.pre
  have hown : s.vm.findClass RX6 = some m.cls := findClass_of_methodNamed B.named
  have hlocks := B.notSynchronized
  have hin : meth.name = "<init>" := (name_of_methodNamed B.named B.method).1
  subst hsz
  have hK := hKA.1
  have hD := hD0.self (sz := s.heap.size)
  generalize hAe : va_A [(pa, .inr (6, [.null, .null, .null, .null, .null]))] s.heap.size = A at hD ⊢
  have hA : ∀ q : Nat, s.heap.size ≤ q → A q := fun q h => by rw [← hAe]; exact Or.inr h
  have hS : va_S A s.heap s.heap [] := va_S.rf
  have hP : va_P D vwCl [(pa, .inr (6, [.null, .null, .null, .null, .null]))] s.heap := hP
  have hl := lv_entry ([.ref pa, .ref g, .ref w]) (n := 3) (Nat.le_of_ble_eq_true rfl)
  rw [lg_entry_eq]
  generalize (lg_sl ([.ref pa, .ref g, .ref w]) ++ List.replicate (3 - (lg_sl ([.ref pa, .ref g, .ref w])).length) Slot.unset).toArray = ls at hl ⊢
  have hl : lv_has ls 3 [(0, .ref pa), (1, .ref g), (2, .ref w)] := hl
  have z0_ := hts (.methodLink RX6 5 objectInit) (by decide +kernel)
  have z1_ := hts (.instanceMethod objectInit) (by decide +kernel)
  have z2_ := hts (.code objectInit ⟨#[0xb1]⟩ 1 none) (by decide +kernel)
  have z3_ := hts (.arrayClass .int) (by decide +kernel)
  have z4_ := hts (.fieldLink RX6 11 "HeardSeen$Paths" "far" "[I") (by decide +kernel)
  have zi6_ : ∀ w ∈ u_ws RX6 TX6 5, w ∈ wsX6_init := by decide +kernel
  have z6_ := hts (.fieldLink RX6 15 "HeardSeen$Paths" "steps" "[I") (by decide +kernel)
  have z7_ := hts (.fieldLink RX6 18 "HeardSeen$Paths" "queue" "[I") (by decide +kernel)
  have z8_ := hts (.fieldLink RX6 21 "HeardSeen$Paths" "g" "LHeardSeen$Garden;") (by decide +kernel)
  have z9_ := hts (.fieldLink RX6 25 "HeardSeen$Paths" "law" "LHeardSeen$Law;") (by decide +kernel)
  refine lv_aload_n hx hb dX6_init_0 rfl (lv_at hl 0 rfl) ?_
  refine W.objInit hx hb hown z0_ z1_ z2_ rfl (by rw [hml]; exact hl.1) rfl dX6_init_1 (Nat.le_of_ble_eq_true rfl) (Nat.le_of_ble_eq_true rfl) ?_
  refine W.eq (g2 := F0 m 4 ls []) rfl ?_
  refine lv_aload_n hx hb dX6_init_4 rfl (lv_at hl 0 rfl) ?_
  refine lv_bipush (v := 36) hx hb dX6_init_5 (by decide) ?_
  refine my_newa (atype := .int) (ty := .int) (N' := 36) (a0 := (36, .inl (fun _ => 0))) hx hb z3_ rfl hK hP hD hS hA 1 rfl (a0I 36) (by decide) (by decide +kernel) (by decide +kernel) (Nat.le_of_ble_eq_true rfl) (Nat.le_of_ble_eq_true rfl) dX6_init_7 (fun q1 H hP hD hS => ?_)
  have hP : va_P D vwCl [(pa, .inr (6, [.null, .null, .null, .null, .null])), (q1, .inl (cy 1, 36, .inl (fun _ => 0)))] H := hP
  have hD : va_D A [(pa, .inr (6, [.null, .null, .null, .null, .null])), (q1, .inl (cy 1, 36, .inl (fun _ => 0)))] := hD
  refine W.widen (k := 1) (n := 36) (Nat.le_of_ble_eq_true rfl) (Nat.le_of_ble_eq_true rfl) ?_
  refine va_putF (D := D) (ci := 6) (v := .ref q1) (ty := .array .int) (C := RX6) (T := TX6) (N := 5) hx hb hts zi6_ tyX6 tyX6_ok nmX6 hown hK hP hD hS 0 rfl rfl 2 (by decide) z4_ (fun _ h9 => h9) rfl hin rfl (by decide +kernel) rfl rfl (Nat.le_of_ble_eq_true rfl) dX6_init_9 (fun H locs hP hD hS => ?_)
  have hP : va_P D vwCl [(pa, .inr (6, [.null, .null, .ref q1, .null, .null])), (q1, .inl (cy 1, 36, .inl (fun _ => 0)))] H := hP
  have hD : va_D A [(pa, .inr (6, [.null, .null, .ref q1, .null, .null])), (q1, .inl (cy 1, 36, .inl (fun _ => 0)))] := hD
  refine lv_aload_n hx hb dX6_init_12 rfl (lv_at hl 0 rfl) ?_
  refine lv_sipush (v := 1152) hx hb dX6_init_13 (by decide) ?_
  refine my_newa (atype := .int) (ty := .int) (N' := 1152) (a0 := (1152, .inl (fun _ => 0))) hx hb z3_ rfl hK hP hD hS hA 1 rfl (a0I 1152) (by decide) (by decide +kernel) (by decide +kernel) (Nat.le_of_ble_eq_true rfl) (Nat.le_of_ble_eq_true rfl) dX6_init_16 (fun q2 H hP hD hS => ?_)
  have hP : va_P D vwCl [(pa, .inr (6, [.null, .null, .ref q1, .null, .null])), (q1, .inl (cy 1, 36, .inl (fun _ => 0))), (q2, .inl (cy 1, 1152, .inl (fun _ => 0)))] H := hP
  have hD : va_D A [(pa, .inr (6, [.null, .null, .ref q1, .null, .null])), (q1, .inl (cy 1, 36, .inl (fun _ => 0))), (q2, .inl (cy 1, 1152, .inl (fun _ => 0)))] := hD
  refine W.widen (k := 2) (n := 1188) (Nat.le_of_ble_eq_true rfl) (Nat.le_of_ble_eq_true rfl) ?_
  refine va_putF (D := D) (ci := 6) (v := .ref q2) (ty := .array .int) (C := RX6) (T := TX6) (N := 5) hx hb hts zi6_ tyX6 tyX6_ok nmX6 hown hK hP hD hS 0 rfl rfl 3 (by decide) z6_ (fun _ h9 => h9) rfl hin rfl (by decide +kernel) rfl rfl (Nat.le_of_ble_eq_true rfl) dX6_init_18 (fun H locs hP hD hS => ?_)
  have hP : va_P D vwCl [(pa, .inr (6, [.null, .null, .ref q1, .ref q2, .null])), (q1, .inl (cy 1, 36, .inl (fun _ => 0))), (q2, .inl (cy 1, 1152, .inl (fun _ => 0)))] H := hP
  have hD : va_D A [(pa, .inr (6, [.null, .null, .ref q1, .ref q2, .null])), (q1, .inl (cy 1, 36, .inl (fun _ => 0))), (q2, .inl (cy 1, 1152, .inl (fun _ => 0)))] := hD
  refine lv_aload_n hx hb dX6_init_21 rfl (lv_at hl 0 rfl) ?_
  refine lv_sipush (v := 1152) hx hb dX6_init_22 (by decide) ?_
  refine my_newa (atype := .int) (ty := .int) (N' := 1152) (a0 := (1152, .inl (fun _ => 0))) hx hb z3_ rfl hK hP hD hS hA 1 rfl (a0I 1152) (by decide) (by decide +kernel) (by decide +kernel) (Nat.le_of_ble_eq_true rfl) (Nat.le_of_ble_eq_true rfl) dX6_init_25 (fun q3 H hP hD hS => ?_)
  have hP : va_P D vwCl [(pa, .inr (6, [.null, .null, .ref q1, .ref q2, .null])), (q1, .inl (cy 1, 36, .inl (fun _ => 0))), (q2, .inl (cy 1, 1152, .inl (fun _ => 0))), (q3, .inl (cy 1, 1152, .inl (fun _ => 0)))] H := hP
  have hD : va_D A [(pa, .inr (6, [.null, .null, .ref q1, .ref q2, .null])), (q1, .inl (cy 1, 36, .inl (fun _ => 0))), (q2, .inl (cy 1, 1152, .inl (fun _ => 0))), (q3, .inl (cy 1, 1152, .inl (fun _ => 0)))] := hD
  refine W.widen (k := 3) (n := 2340) (Nat.le_of_ble_eq_true rfl) (Nat.le_of_ble_eq_true rfl) ?_
  refine va_putF (D := D) (ci := 6) (v := .ref q3) (ty := .array .int) (C := RX6) (T := TX6) (N := 5) hx hb hts zi6_ tyX6 tyX6_ok nmX6 hown hK hP hD hS 0 rfl rfl 4 (by decide) z7_ (fun _ h9 => h9) rfl hin rfl (by decide +kernel) rfl rfl (Nat.le_of_ble_eq_true rfl) dX6_init_27 (fun H locs hP hD hS => ?_)
  have hP : va_P D vwCl [(pa, .inr (6, [.null, .null, .ref q1, .ref q2, .ref q3])), (q1, .inl (cy 1, 36, .inl (fun _ => 0))), (q2, .inl (cy 1, 1152, .inl (fun _ => 0))), (q3, .inl (cy 1, 1152, .inl (fun _ => 0)))] H := hP
  have hD : va_D A [(pa, .inr (6, [.null, .null, .ref q1, .ref q2, .ref q3])), (q1, .inl (cy 1, 36, .inl (fun _ => 0))), (q2, .inl (cy 1, 1152, .inl (fun _ => 0))), (q3, .inl (cy 1, 1152, .inl (fun _ => 0)))] := hD
  refine lv_aload_n hx hb dX6_init_30 rfl (lv_at hl 0 rfl) ?_
  refine lv_aload_n hx hb dX6_init_31 rfl (lv_at hl 1 rfl) ?_
  refine va_putF (D := D) (ci := 6) (v := .ref g) (ty := .object "HeardSeen$Garden") (C := RX6) (T := TX6) (N := 5) hx hb hts zi6_ tyX6 tyX6_ok nmX6 hown hK hP hD hS 0 rfl rfl 0 (by decide) z8_ (fun _ h9 => h9) rfl hin rfl (by decide +kernel) rfl rfl (Nat.le_of_ble_eq_true rfl) dX6_init_32 (fun H locs hP hD hS => ?_)
  have hP : va_P D vwCl [(pa, .inr (6, [.ref g, .null, .ref q1, .ref q2, .ref q3])), (q1, .inl (cy 1, 36, .inl (fun _ => 0))), (q2, .inl (cy 1, 1152, .inl (fun _ => 0))), (q3, .inl (cy 1, 1152, .inl (fun _ => 0)))] H := hP
  have hD : va_D A [(pa, .inr (6, [.ref g, .null, .ref q1, .ref q2, .ref q3])), (q1, .inl (cy 1, 36, .inl (fun _ => 0))), (q2, .inl (cy 1, 1152, .inl (fun _ => 0))), (q3, .inl (cy 1, 1152, .inl (fun _ => 0)))] := hD
  refine lv_aload_n hx hb dX6_init_35 rfl (lv_at hl 0 rfl) ?_
  refine lv_aload_n hx hb dX6_init_36 rfl (lv_at hl 2 rfl) ?_
  refine va_putF (D := D) (ci := 6) (v := .ref w) (ty := .object "HeardSeen$Law") (C := RX6) (T := TX6) (N := 5) hx hb hts zi6_ tyX6 tyX6_ok nmX6 hown hK hP hD hS 0 rfl rfl 1 (by decide) z9_ (fun _ h9 => h9) rfl hin rfl (by decide +kernel) rfl rfl (Nat.le_of_ble_eq_true rfl) dX6_init_37 (fun H locs hP hD hS => ?_)
  have hP : va_P D vwCl [(pa, .inr (6, [.ref g, .ref w, .ref q1, .ref q2, .ref q3])), (q1, .inl (cy 1, 36, .inl (fun _ => 0))), (q2, .inl (cy 1, 1152, .inl (fun _ => 0))), (q3, .inl (cy 1, 1152, .inl (fun _ => 0)))] H := hP
  have hD : va_D A [(pa, .inr (6, [.ref g, .ref w, .ref q1, .ref q2, .ref q3])), (q1, .inl (cy 1, 36, .inl (fun _ => 0))), (q2, .inl (cy 1, 1152, .inl (fun _ => 0))), (q3, .inl (cy 1, 1152, .inl (fun _ => 0)))] := hD
  refine W.widen (k := 3) (n := 2340) (Nat.le_of_ble_eq_true rfl) (Nat.le_of_ble_eq_true rfl) ?_
  have hP9 := hP.sub (ws' := [(pa, .inr (6, [.ref g, .ref w, .ref q1, .ref q2, .ref q3])), (q1, .inl (cy 1, 36, .inl (fun _ => 0))), (q2, .inl (cy 1, 1152, .inl (fun _ => 0))), (q3, .inl (cy 1, 1152, .inl (fun _ => 0)))]) [0, 1, 2, 3] rfl
  have hD9 := hD.sub (ws' := [(pa, .inr (6, [.ref g, .ref w, .ref q1, .ref q2, .ref q3])), (q1, .inl (cy 1, 36, .inl (fun _ => 0))), (q2, .inl (cy 1, 1152, .inl (fun _ => 0))), (q3, .inl (cy 1, 1152, .inl (fun _ => 0)))]) [0, 1, 2, 3] (by decide) rfl
  exact W.vret hx hb hr (fun t ht hW => ⟨⟨(q1, q2, q3), rfl, trivial, by rw [ht]; exact hP9, hD9⟩, hS.F ht⟩) hS.2.2 dX6_init_40

set_option maxHeartbeats 4000000 in
set_option maxRecDepth 100000 in
theorem c_X8_init (l : Launch) (D : va_G) (cy : Nat → ClassId) (pn : Nat) (sz : Nat)  : Met l yX8_init wsX8_init ({ frames := 1, cells := 1, slots := 250, locals := 12 }) (va_Pc [.ref pn] (kPre D cy [(pn, .inr (8, [.null, .int 0, .int 0, .int 0, .int 0, .int 0, .int 0]))] sz)) (va_Qv (fun (_ : Nat) => True) (fun (u : Nat) t => va_P D vwCl ([(pn, .inr (8, [.ref u, .int 0, .int 0, .int 0, .int 0, .int 0, .int 0])), (u, .inl (cy 0, 250, .inl (fun _ => 0)))]) t.heap ∧ va_D (va_A [(pn, .inr (8, [.null, .int 0, .int 0, .int 0, .int 0, .int 0, .int 0]))] sz) ([(pn, .inr (8, [.ref u, .int 0, .int 0, .int 0, .int 0, .int 0, .int 0])), (u, .inl (cy 0, 250, .inl (fun _ => 0)))])) (va_A [(pn, .inr (8, [.null, .int 0, .int 0, .int 0, .int 0, .int 0, .int 0]))] sz)) 1 250 (va_A [(pn, .inr (8, [.null, .int 0, .int 0, .int 0, .int 0, .int 0, .int 0]))] sz) := by
  refine Met.ofW (cc := cX8_init) (maxL := 1) (ret := none) (by decide) rfl ?_
  intro p e s m args below meth c s₁ B hml hv
  obtain ⟨rfl, hsz, hP, hKA, hD0⟩ := hv
  have hx := B.exec
  have hb := B.bytes
  have hr := B.returns
  have hts := atoms_spec (ws := wsX8_init) B.pre
  have hown : s.vm.findClass RX8 = some m.cls := findClass_of_methodNamed B.named
  have hlocks := B.notSynchronized
  have hin : meth.name = "<init>" := (name_of_methodNamed B.named B.method).1
  subst hsz
  have hK := hKA.1
  have hD := hD0.self (sz := s.heap.size)
  generalize hAe : va_A [(pn, .inr (8, [.null, .int 0, .int 0, .int 0, .int 0, .int 0, .int 0]))] s.heap.size = A at hD ⊢
  have hA : ∀ q : Nat, s.heap.size ≤ q → A q := fun q h => by rw [← hAe]; exact Or.inr h
  have hS : va_S A s.heap s.heap [] := va_S.rf
  have hP : va_P D vwCl [(pn, .inr (8, [.null, .int 0, .int 0, .int 0, .int 0, .int 0, .int 0]))] s.heap := hP
  have hl := lv_entry ([.ref pn]) (n := 1) (Nat.le_of_ble_eq_true rfl)
  rw [lg_entry_eq]
  generalize (lg_sl ([.ref pn]) ++ List.replicate (1 - (lg_sl ([.ref pn])).length) Slot.unset).toArray = ls at hl ⊢
  have hl : lv_has ls 1 [(0, .ref pn)] := hl
  have z0_ := hts (.methodLink RX8 3 objectInit) (by decide +kernel)
  have z1_ := hts (.instanceMethod objectInit) (by decide +kernel)
  have z2_ := hts (.code objectInit ⟨#[0xb1]⟩ 1 none) (by decide +kernel)
  have z3_ := hts (.arrayClass .byte) (by decide +kernel)
  have z4_ := hts (.fieldLink RX8 9 "HeardSeen$Plan" "bytes" "[B") (by decide +kernel)
  have zi8_ : ∀ w ∈ u_ws RX8 TX8 7, w ∈ wsX8_init := by decide +kernel
  refine lv_aload_n hx hb dX8_init_0 rfl (lv_at hl 0 rfl) ?_
  refine W.objInit hx hb hown z0_ z1_ z2_ rfl (by rw [hml]; exact hl.1) rfl dX8_init_1 (Nat.le_of_ble_eq_true rfl) (Nat.le_of_ble_eq_true rfl) ?_
  refine W.eq (g2 := F0 m 4 ls []) rfl ?_
  refine lv_aload_n hx hb dX8_init_4 rfl (lv_at hl 0 rfl) ?_
  refine lv_sipush (v := 250) hx hb dX8_init_5 (by decide) ?_
  refine my_newa (atype := .byte) (ty := .byte) (N' := 250) (a0 := (250, .inl (fun _ => 0))) hx hb z3_ rfl hK hP hD hS hA 0 rfl (a0B 250) (by decide) (by decide +kernel) (by decide +kernel) (Nat.le_of_ble_eq_true rfl) (Nat.le_of_ble_eq_true rfl) dX8_init_8 (fun q1 H hP hD hS => ?_)
  have hP : va_P D vwCl [(pn, .inr (8, [.null, .int 0, .int 0, .int 0, .int 0, .int 0, .int 0])), (q1, .inl (cy 0, 250, .inl (fun _ => 0)))] H := hP
  have hD : va_D A [(pn, .inr (8, [.null, .int 0, .int 0, .int 0, .int 0, .int 0, .int 0])), (q1, .inl (cy 0, 250, .inl (fun _ => 0)))] := hD
  refine W.widen (k := 1) (n := 250) (Nat.le_of_ble_eq_true rfl) (Nat.le_of_ble_eq_true rfl) ?_
  refine va_putF (D := D) (ci := 8) (v := .ref q1) (ty := .array .byte) (C := RX8) (T := TX8) (N := 7) hx hb hts zi8_ tyX8 tyX8_ok nmX8 hown hK hP hD hS 0 rfl rfl 0 (by decide) z4_ (fun _ h9 => h9) rfl hin rfl (by decide +kernel) rfl rfl (Nat.le_of_ble_eq_true rfl) dX8_init_10 (fun H locs hP hD hS => ?_)
  have hP : va_P D vwCl [(pn, .inr (8, [.ref q1, .int 0, .int 0, .int 0, .int 0, .int 0, .int 0])), (q1, .inl (cy 0, 250, .inl (fun _ => 0)))] H := hP
  have hD : va_D A [(pn, .inr (8, [.ref q1, .int 0, .int 0, .int 0, .int 0, .int 0, .int 0])), (q1, .inl (cy 0, 250, .inl (fun _ => 0)))] := hD
  refine W.widen (k := 1) (n := 250) (Nat.le_of_ble_eq_true rfl) (Nat.le_of_ble_eq_true rfl) ?_
  have hP9 := hP.sub (ws' := [(pn, .inr (8, [.ref q1, .int 0, .int 0, .int 0, .int 0, .int 0, .int 0])), (q1, .inl (cy 0, 250, .inl (fun _ => 0)))]) [0, 1] rfl
  have hD9 := hD.sub (ws' := [(pn, .inr (8, [.ref q1, .int 0, .int 0, .int 0, .int 0, .int 0, .int 0])), (q1, .inl (cy 0, 250, .inl (fun _ => 0)))]) [0, 1] (by decide) rfl
  exact W.vret hx hb hr (fun t ht hW => ⟨⟨q1, rfl, trivial, by rw [ht]; exact hP9, hD9⟩, hS.F ht⟩) hS.2.2 dX8_init_13
