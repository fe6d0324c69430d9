theorem dX11_digest_0 : decode cX11_digest 0 = .ok (.ldc2_w 279, 3) := by decide +kernel
theorem dX11_digest_3 : decode cX11_digest 3 = .ok (.lstore_n 1, 1) := by decide +kernel
theorem dX11_digest_4 : decode cX11_digest 4 = .ok (.iconst 0, 1) := by decide +kernel
theorem dX11_digest_5 : decode cX11_digest 5 = .ok (.istore_n 3, 1) := by decide +kernel
theorem dX11_digest_6 : decode cX11_digest 6 = .ok (.iload_n 3, 1) := by decide +kernel
theorem dX11_digest_7 : decode cX11_digest 7 = .ok (.bipush 7, 2) := by decide +kernel
theorem dX11_digest_9 : decode cX11_digest 9 = .ok (.if_icmp .ge 22, 3) := by decide +kernel
theorem dX11_digest_12 : decode cX11_digest 12 = .ok (.ldc2_w 277, 3) := by decide +kernel
theorem dX11_digest_15 : decode cX11_digest 15 = .ok (.lload_n 1, 1) := by decide +kernel
theorem dX11_digest_16 : decode cX11_digest 16 = .ok (.lmul, 1) := by decide +kernel
theorem dX11_digest_17 : decode cX11_digest 17 = .ok (.aload_n 0, 1) := by decide +kernel
theorem dX11_digest_18 : decode cX11_digest 18 = .ok (.iload_n 3, 1) := by decide +kernel
set_option maxRecDepth 20000 in
theorem ggX11_digest_X11_counted : GoodIn wsX11_digest wsX11_counted := goodIn_r _ [8, 3, 9, 10, 11, 12, 7, 13, 14, 15, 16, 17, 18, 19, 20, 21, 26, 27, 28, 29, 30, 31, 32, 33, 34, 35, 36, 37, 38, 39, 40, 41, 42, 43, 44] (by decide +kernel) (by decide +kernel)
set_option maxRecDepth 20000 in
theorem gX11_digest_X11_counted : GoodIn wsX11_digest (wsV RX11 274 RX11 yX11_counted wsX11_counted) := goodIn_app (goodIn_of _ (by decide +kernel)) ggX11_digest_X11_counted
theorem dX11_digest_19 : decode cX11_digest 19 = .ok (.invokevirtual 274, 3) := by decide +kernel
theorem dX11_digest_22 : decode cX11_digest 22 = .ok (.i2l, 1) := by decide +kernel
theorem dX11_digest_23 : decode cX11_digest 23 = .ok (.ladd, 1) := by decide +kernel
theorem dX11_digest_24 : decode cX11_digest 24 = .ok (.lstore_n 1, 1) := by decide +kernel
theorem dX11_digest_25 : decode cX11_digest 25 = .ok (.iinc 3 1, 3) := by decide +kernel
theorem dX11_digest_28 : decode cX11_digest 28 = .ok (.goto (-22), 3) := by decide +kernel
theorem dX11_digest_31 : decode cX11_digest 31 = .ok (.ldc2_w 277, 3) := by decide +kernel
theorem dX11_digest_34 : decode cX11_digest 34 = .ok (.ldc2_w 277, 3) := by decide +kernel
theorem dX11_digest_37 : decode cX11_digest 37 = .ok (.ldc2_w 277, 3) := by decide +kernel
theorem dX11_digest_40 : decode cX11_digest 40 = .ok (.lload_n 1, 1) := by decide +kernel
theorem dX11_digest_41 : decode cX11_digest 41 = .ok (.lmul, 1) := by decide +kernel
theorem dX11_digest_42 : decode cX11_digest 42 = .ok (.aload_n 0, 1) := by decide +kernel
theorem dX11_digest_43 : decode cX11_digest 43 = .ok (.getfield 7, 3) := by decide +kernel
theorem dX11_digest_46 : decode cX11_digest 46 = .ok (.iconst 0, 1) := by decide +kernel
theorem dX11_digest_47 : decode cX11_digest 47 = .ok (.iaload, 1) := by decide +kernel
theorem dX11_digest_48 : decode cX11_digest 48 = .ok (.i2l, 1) := by decide +kernel
theorem dX11_digest_49 : decode cX11_digest 49 = .ok (.ladd, 1) := by decide +kernel
theorem dX11_digest_50 : decode cX11_digest 50 = .ok (.lmul, 1) := by decide +kernel
theorem dX11_digest_51 : decode cX11_digest 51 = .ok (.aload_n 0, 1) := by decide +kernel
theorem dX11_digest_52 : decode cX11_digest 52 = .ok (.getfield 7, 3) := by decide +kernel
theorem dX11_digest_55 : decode cX11_digest 55 = .ok (.iconst 2, 1) := by decide +kernel
theorem dX11_digest_56 : decode cX11_digest 56 = .ok (.iaload, 1) := by decide +kernel
theorem dX11_digest_57 : decode cX11_digest 57 = .ok (.i2l, 1) := by decide +kernel
theorem dX11_digest_58 : decode cX11_digest 58 = .ok (.ladd, 1) := by decide +kernel
theorem dX11_digest_59 : decode cX11_digest 59 = .ok (.lmul, 1) := by decide +kernel
theorem dX11_digest_60 : decode cX11_digest 60 = .ok (.aload_n 0, 1) := by decide +kernel
theorem dX11_digest_61 : decode cX11_digest 61 = .ok (.getfield 7, 3) := by decide +kernel
theorem dX11_digest_64 : decode cX11_digest 64 = .ok (.iconst 3, 1) := by decide +kernel
theorem dX11_digest_65 : decode cX11_digest 65 = .ok (.iaload, 1) := by decide +kernel
theorem dX11_digest_66 : decode cX11_digest 66 = .ok (.i2l, 1) := by decide +kernel
theorem dX11_digest_67 : decode cX11_digest 67 = .ok (.ladd, 1) := by decide +kernel
theorem dX11_digest_68 : decode cX11_digest 68 = .ok (.lstore_n 1, 1) := by decide +kernel
theorem dX11_digest_69 : decode cX11_digest 69 = .ok (.aload_n 0, 1) := by decide +kernel
theorem dX11_digest_70 : decode cX11_digest 70 = .ok (.lload_n 1, 1) := by decide +kernel
theorem dX11_digest_71 : decode cX11_digest 71 = .ok (.iconst 5, 1) := by decide +kernel
theorem dX11_digest_72 : decode cX11_digest 72 = .ok (.iconst 3, 1) := by decide +kernel
theorem dX11_digest_73 : decode cX11_digest 73 = .ok (.aload_n 0, 1) := by decide +kernel
set_option maxRecDepth 20000 in
theorem ggX11_digest_X11_people : GoodIn wsX11_digest wsX11_people := goodIn_r _ [13, 3, 26, 27, 28, 29, 30, 31, 32, 33, 34, 35, 36, 37, 38, 39, 40, 41, 42, 43, 44] (by decide +kernel) (by decide +kernel)
set_option maxRecDepth 20000 in
theorem gX11_digest_X11_people : GoodIn wsX11_digest (wsV RX11 53 RX11 yX11_people wsX11_people) := goodIn_app (goodIn_of _ (by decide +kernel)) ggX11_digest_X11_people
theorem dX11_digest_74 : decode cX11_digest 74 = .ok (.invokevirtual 53, 3) := by decide +kernel
theorem dX11_digest_77 : decode cX11_digest 77 = .ok (.imul, 1) := by decide +kernel
set_option maxRecDepth 20000 in
theorem ggX11_digest_X11_sums : GoodIn wsX11_digest wsX11_sums := goodIn_r _ [25, 2, 3, 26, 27, 28, 29, 30, 31, 32, 33, 34, 35, 36, 37, 38, 39, 40, 41, 42, 43, 44] (by decide +kernel) (by decide +kernel)
set_option maxRecDepth 20000 in
theorem gX11_digest_X11_sums : GoodIn wsX11_digest (wsV RX11 281 RX11 yX11_sums wsX11_sums) := goodIn_app (goodIn_of _ (by decide +kernel)) ggX11_digest_X11_sums
theorem dX11_digest_78 : decode cX11_digest 78 = .ok (.invokevirtual 281, 3) := by decide +kernel
theorem dX11_digest_81 : decode cX11_digest 81 = .ok (.lstore_n 1, 1) := by decide +kernel
theorem dX11_digest_82 : decode cX11_digest 82 = .ok (.iconst 0, 1) := by decide +kernel
theorem dX11_digest_83 : decode cX11_digest 83 = .ok (.istore_n 3, 1) := by decide +kernel
theorem dX11_digest_84 : decode cX11_digest 84 = .ok (.iload_n 3, 1) := by decide +kernel
theorem dX11_digest_85 : decode cX11_digest 85 = .ok (.aload_n 0, 1) := by decide +kernel
set_option maxRecDepth 20000 in
theorem ggX11_digest_X11_squares : GoodIn wsX11_digest wsX11_squares := goodIn_r _ [21, 3, 26, 27, 28, 29, 30, 31, 32, 33, 34, 35, 36, 37, 38, 39, 40, 41, 42, 43, 44] (by decide +kernel) (by decide +kernel)
set_option maxRecDepth 20000 in
theorem gX11_digest_X11_squares : GoodIn wsX11_digest (wsV RX11 45 RX11 yX11_squares wsX11_squares) := goodIn_app (goodIn_of _ (by decide +kernel)) ggX11_digest_X11_squares
theorem dX11_digest_86 : decode cX11_digest 86 = .ok (.invokevirtual 45, 3) := by decide +kernel
theorem dX11_digest_89 : decode cX11_digest 89 = .ok (.if_icmp .ge 41, 3) := by decide +kernel
theorem dX11_digest_130 : decode cX11_digest 130 = .ok (.aload_n 0, 1) := by decide +kernel
theorem dX11_digest_131 : decode cX11_digest 131 = .ok (.lload_n 1, 1) := by decide +kernel
theorem dX11_digest_132 : decode cX11_digest 132 = .ok (.bipush 93, 2) := by decide +kernel
theorem dX11_digest_134 : decode cX11_digest 134 = .ok (.iconst 2, 1) := by decide +kernel
theorem dX11_digest_135 : decode cX11_digest 135 = .ok (.aload_n 0, 1) := by decide +kernel
theorem dX11_digest_136 : decode cX11_digest 136 = .ok (.getfield 7, 3) := by decide +kernel
theorem dX11_digest_139 : decode cX11_digest 139 = .ok (.bipush 92, 2) := by decide +kernel
theorem dX11_digest_141 : decode cX11_digest 141 = .ok (.iaload, 1) := by decide +kernel
theorem dX11_digest_142 : decode cX11_digest 142 = .ok (.imul, 1) := by decide +kernel
theorem dX11_digest_143 : decode cX11_digest 143 = .ok (.invokevirtual 281, 3) := by decide +kernel
theorem dX11_digest_146 : decode cX11_digest 146 = .ok (.lstore_n 1, 1) := by decide +kernel
theorem dX11_digest_147 : decode cX11_digest 147 = .ok (.aload_n 0, 1) := by decide +kernel
theorem dX11_digest_148 : decode cX11_digest 148 = .ok (.lload_n 1, 1) := by decide +kernel
theorem dX11_digest_149 : decode cX11_digest 149 = .ok (.bipush 106, 2) := by decide +kernel
theorem dX11_digest_151 : decode cX11_digest 151 = .ok (.iconst 2, 1) := by decide +kernel
theorem dX11_digest_152 : decode cX11_digest 152 = .ok (.aload_n 0, 1) := by decide +kernel
theorem dX11_digest_153 : decode cX11_digest 153 = .ok (.getfield 7, 3) := by decide +kernel
theorem dX11_digest_156 : decode cX11_digest 156 = .ok (.bipush 105, 2) := by decide +kernel
theorem dX11_digest_158 : decode cX11_digest 158 = .ok (.iaload, 1) := by decide +kernel
theorem dX11_digest_159 : decode cX11_digest 159 = .ok (.imul, 1) := by decide +kernel
theorem dX11_digest_160 : decode cX11_digest 160 = .ok (.invokevirtual 281, 3) := by decide +kernel
theorem dX11_digest_163 : decode cX11_digest 163 = .ok (.lreturn, 1) := by decide +kernel
theorem dX11_digest_92 : decode cX11_digest 92 = .ok (.ldc2_w 277, 3) := by decide +kernel
theorem dX11_digest_95 : decode cX11_digest 95 = .ok (.ldc2_w 277, 3) := by decide +kernel
theorem dX11_digest_98 : decode cX11_digest 98 = .ok (.lload_n 1, 1) := by decide +kernel
theorem dX11_digest_99 : decode cX11_digest 99 = .ok (.lmul, 1) := by decide +kernel
theorem dX11_digest_100 : decode cX11_digest 100 = .ok (.aload_n 0, 1) := by decide +kernel
theorem dX11_digest_101 : decode cX11_digest 101 = .ok (.getfield 7, 3) := by decide +kernel
theorem dX11_digest_104 : decode cX11_digest 104 = .ok (.bipush 20, 2) := by decide +kernel
theorem dX11_digest_106 : decode cX11_digest 106 = .ok (.iload_n 3, 1) := by decide +kernel
theorem dX11_digest_107 : decode cX11_digest 107 = .ok (.iadd, 1) := by decide +kernel
theorem dX11_digest_108 : decode cX11_digest 108 = .ok (.iaload, 1) := by decide +kernel
theorem dX11_digest_109 : decode cX11_digest 109 = .ok (.i2l, 1) := by decide +kernel
theorem dX11_digest_110 : decode cX11_digest 110 = .ok (.ladd, 1) := by decide +kernel
theorem dX11_digest_111 : decode cX11_digest 111 = .ok (.lmul, 1) := by decide +kernel
theorem dX11_digest_112 : decode cX11_digest 112 = .ok (.aload_n 0, 1) := by decide +kernel
theorem dX11_digest_113 : decode cX11_digest 113 = .ok (.getfield 7, 3) := by decide +kernel
theorem dX11_digest_116 : decode cX11_digest 116 = .ok (.bipush 56, 2) := by decide +kernel
theorem dX11_digest_118 : decode cX11_digest 118 = .ok (.iload_n 3, 1) := by decide +kernel
theorem dX11_digest_119 : decode cX11_digest 119 = .ok (.iadd, 1) := by decide +kernel
theorem dX11_digest_120 : decode cX11_digest 120 = .ok (.iaload, 1) := by decide +kernel
theorem dX11_digest_121 : decode cX11_digest 121 = .ok (.i2l, 1) := by decide +kernel
theorem dX11_digest_122 : decode cX11_digest 122 = .ok (.ladd, 1) := by decide +kernel
theorem dX11_digest_123 : decode cX11_digest 123 = .ok (.lstore_n 1, 1) := by decide +kernel
theorem dX11_digest_124 : decode cX11_digest 124 = .ok (.iinc 3 1, 3) := by decide +kernel
theorem dX11_digest_127 : decode cX11_digest 127 = .ok (.goto (-43), 3) := by decide +kernel
set_option maxHeartbeats 4000000 in
set_option maxRecDepth 100000 in
theorem mt_digest (l : Launch) (D : va_G) (cy : Nat → ClassId) (mm nw kp ik rf sd fr qu me by_ nx : Nat) (F : Nat → Int32) (sz : Nat) (h0 : F 0 = 6) (h1 : F 1 = 6) (h2 : F 2 = 1) (hz : ∀ k, 3 ≤ k → k < 122 → F k = 0) : Met l yX11_digest wsX11_digest ({ frames := 3, cells := 0, slots := 0, locals := 64 }) (va_Pc [.ref mm] (kPre D cy [(mm, .inr (11, [.ref nw, .ref kp, .ref ik, .ref rf, .int 0, .int 0, .ref sd, .ref fr, .ref qu, .int 0, .ref me, .ref by_, .int 0, .int 0, .int 0, .int 0, .int 0, .ref nx, .int 0])), (nw, .inl (cy 1, 122, .inl F)), (rf, .inl (cy 1, 3, .inl (fun _ => 0)))] sz)) (va_Ql (fun (r : Int64) (_ : Unit) => r = dgF (31 * (31 * (31 * 20441872284509 + 6) + 1) + 0) 36) (fun (u : Unit) t => va_P D vwCl ([]) t.heap ∧ va_D (va_A [(mm, .inr (11, [.ref nw, .ref kp, .ref ik, .ref rf, .int 0, .int 0, .ref sd, .ref fr, .ref qu, .int 0, .ref me, .ref by_, .int 0, .int 0, .int 0, .int 0, .int 0, .ref nx, .int 0])), (nw, .inl (cy 1, 122, .inl F)), (rf, .inl (cy 1, 3, .inl (fun _ => 0)))] sz) ([])) (va_A [(mm, .inr (11, [.ref nw, .ref kp, .ref ik, .ref rf, .int 0, .int 0, .ref sd, .ref fr, .ref qu, .int 0, .ref me, .ref by_, .int 0, .int 0, .int 0, .int 0, .int 0, .ref nx, .int 0])), (nw, .inl (cy 1, 122, .inl F)), (rf, .inl (cy 1, 3, .inl (fun _ => 0)))] sz)) 0 0 (va_A [(mm, .inr (11, [.ref nw, .ref kp, .ref ik, .ref rf, .int 0, .int 0, .ref sd, .ref fr, .ref qu, .int 0, .ref me, .ref by_, .int 0, .int 0, .int 0, .int 0, .int 0, .ref nx, .int 0])), (nw, .inl (cy 1, 122, .inl F)), (rf, .inl (cy 1, 3, .inl (fun _ => 0)))] sz) := by
  refine Met.ofW (cc := cX11_digest) (maxL := 4) (ret := (some .long)) (by decide) rfl ?_
  intro p e s m args below meth c s₁ B hml hv
  obtain ⟨rfl, hsz, hP, hKA, hD0⟩ := hv
  have hx := B.exec
  have hb := B.bytes
  have hr := B.returns
  have hts := atoms_spec (ws := wsX11_digest) B.pre
  have hown : s.vm.findClass RX11 = some m.cls := findClass_of_methodNamed B.named
  have hlocks := B.notSynchronized
  subst hsz
  have hK := hKA.1
  have hD := hD0.self (sz := s.heap.size)
  generalize hAe : va_A [(mm, .inr (11, [.ref nw, .ref kp, .ref ik, .ref rf, .int 0, .int 0, .ref sd, .ref fr, .ref qu, .int 0, .ref me, .ref by_, .int 0, .int 0, .int 0, .int 0, .int 0, .ref nx, .int 0])), (nw, .inl (cy 1, 122, .inl F)), (rf, .inl (cy 1, 3, .inl (fun _ => 0)))] s.heap.size = A at hD ⊢
  have hA : ∀ q : Nat, s.heap.size ≤ q → A q := fun q h => by rw [← hAe]; exact Or.inr h
  have hS : va_S A s.heap s.heap [] := va_S.rf
  have hP : va_P D vwCl [(mm, .inr (11, [.ref nw, .ref kp, .ref ik, .ref rf, .int 0, .int 0, .ref sd, .ref fr, .ref qu, .int 0, .ref me, .ref by_, .int 0, .int 0, .int 0, .int 0, .int 0, .ref nx, .int 0])), (nw, .inl (cy 1, 122, .inl F)), (rf, .inl (cy 1, 3, .inl (fun _ => 0)))] s.heap := hP
  have hl := lv_entry ([.ref mm]) (n := 4) (Nat.le_of_ble_eq_true rfl)
  rw [lg_entry_eq]
  generalize (lg_sl ([.ref mm]) ++ List.replicate (4 - (lg_sl ([.ref mm])).length) Slot.unset).toArray = ls at hl ⊢
  have hl : lv_has ls 4 [(0, .ref mm)] := hl
  have z0_ := hts (.constantLong RX11 279 743) (by decide +kernel)
  have z1_ := hts (.constantLong RX11 277 31) (by decide +kernel)
  have z2_ := hts (.fieldLink RX11 7 "HeardSeenModel" "now" "[I") (by decide +kernel)
  have zi11_ : ∀ w ∈ u_ws RX11 TX11 19, w ∈ wsX11_digest := by decide +kernel
  refine lv_ldc2 hx hb hown z0_ dX11_digest_0 ?_
  refine lv_lstore_n (lv' := [(1, .long 743), (0, .ref mm)]) hx hb dX11_digest_3 rfl hl (by decide) rfl (fun ls hl => ?_)
  refine lv_iconst (v := 0) hx hb dX11_digest_4 (by decide) ?_
  refine lv_istore_n (lv' := [(3, .int 0), (1, .long 743), (0, .ref mm)]) hx hb dX11_digest_5 rfl hl (by decide) rfl (fun ls hl => ?_)
  refine lv_iload_n hx hb dX11_digest_6 rfl (lv_at hl 0 rfl) ?_
  refine lv_bipush (v := 7) hx hb dX11_digest_7 (by decide) ?_
  refine lv_icmp_ge (tgt := 31) hx hb dX11_digest_9 (by decide) (fun c1 => absurd c1 (by decide)) (fun c1 => ?_)
  refine lv_ldc2 hx hb hown z1_ dX11_digest_12 ?_
  refine lv_lload_n hx hb dX11_digest_15 rfl (lv_at hl 1 rfl) ?_
  refine lv_lmul hx hb dX11_digest_16 ?_
  refine lv_topl (fun x2 ex2 => ?_)
  obtain rfl : x2 = 23033 := by rw [ex2]; decide +kernel
  refine lv_aload_n hx hb dX11_digest_17 rfl (lv_at hl 2 rfl) ?_
  refine lv_iload_n hx hb dX11_digest_18 rfl (lv_at hl 0 rfl) ?_
  refine rd_i (va_runV (As := [.int 0]) (rest := [.long 23033]) ⟨hx, hb, hml, hown, hts⟩ (m_counted l D cy mm nw kp ik rf sd fr qu me by_ nx F 0 _ h0 h1 h2 hz) (cwV 1 hts gX11_digest_X11_counted rfl rfl rfl (by decide +kernel) ⟨Nat.le_of_ble_eq_true rfl, Nat.le_of_ble_eq_true rfl⟩) (pV (ci := 11) (k := 0) hKA (hP.sub (ws' := [(mm, .inr (11, [.ref nw, .ref kp, .ref ik, .ref rf, .int 0, .int 0, .ref sd, .ref fr, .ref qu, .int 0, .ref me, .ref by_, .int 0, .int 0, .int 0, .int 0, .int 0, .ref nx, .int 0])), (nw, .inl (cy 1, 122, .inl F))]) [0, 1] rfl) (hD.sub (ws' := [(mm, .inr (11, [.ref nw, .ref kp, .ref ik, .ref rf, .int 0, .int 0, .ref sd, .ref fr, .ref qu, .int 0, .ref me, .ref by_, .int 0, .int 0, .int 0, .int 0, .int 0, .ref nx, .int 0])), (nw, .inl (cy 1, 122, .inl F))]) [0, 1] (by decide) rfl) rfl rfl) rfl rfl hl.1 rfl (lv_room (Nat.le_of_ble_eq_true rfl)) dX11_digest_19 ⟨Nat.le_of_ble_eq_true rfl, Nat.le_of_ble_eq_true rfl⟩) hP hS hA (fun r3 H locs hwr3 hP hS => ?_)
  rcases hwr3 with ⟨rfl, hpr3, hqr3⟩ | ⟨rfl, hrr3⟩
  · skip
    refine lv_i2l hx hb dX11_digest_22 rfl ?_
    refine lv_topl (fun x4 ex4 => ?_)
    obtain rfl : x4 = 0 := by rw [ex4]; decide +kernel
    refine lv_ladd hx hb dX11_digest_23 ?_
    refine lv_topl (fun x5 ex5 => ?_)
    obtain rfl : x5 = 23033 := by rw [ex5]; decide +kernel
    refine lv_lstore_n (lv' := [(1, .long 23033), (3, .int 0), (0, .ref mm)]) hx hb dX11_digest_24 rfl hl (by decide) rfl (fun ls hl => ?_)
    refine lv_iinc (v := 1) (lv' := [(3, .int 1), (1, .long 23033), (0, .ref mm)]) hx hb dX11_digest_25 hl (k := 1) rfl (by decide) (by decide) rfl (fun ls hl => ?_)
    refine lv_goto (tgt := 6) hx hb dX11_digest_28 (by decide) ?_
    refine lv_iload_n hx hb dX11_digest_6 rfl (lv_at hl 0 rfl) ?_
    refine lv_bipush (v := 7) hx hb dX11_digest_7 (by decide) ?_
    refine lv_icmp_ge (tgt := 31) hx hb dX11_digest_9 (by decide) (fun c6 => absurd c6 (by decide)) (fun c6 => ?_)
    refine lv_ldc2 hx hb hown z1_ dX11_digest_12 ?_
    refine lv_lload_n hx hb dX11_digest_15 rfl (lv_at hl 1 rfl) ?_
    refine lv_lmul hx hb dX11_digest_16 ?_
    refine lv_topl (fun x7 ex7 => ?_)
    obtain rfl : x7 = 714023 := by rw [ex7]; decide +kernel
    refine lv_aload_n hx hb dX11_digest_17 rfl (lv_at hl 2 rfl) ?_
    refine lv_iload_n hx hb dX11_digest_18 rfl (lv_at hl 0 rfl) ?_
    refine rd_i (va_runV (As := [.int 1]) (rest := [.long 714023]) ⟨hx, hb, hml, hown, hts⟩ (m_counted l D cy mm nw kp ik rf sd fr qu me by_ nx F 1 _ h0 h1 h2 hz) (cwV 1 hts gX11_digest_X11_counted rfl rfl rfl (by decide +kernel) ⟨Nat.le_of_ble_eq_true rfl, Nat.le_of_ble_eq_true rfl⟩) (pV (ci := 11) (k := 0) hKA (hP.sub (ws' := [(mm, .inr (11, [.ref nw, .ref kp, .ref ik, .ref rf, .int 0, .int 0, .ref sd, .ref fr, .ref qu, .int 0, .ref me, .ref by_, .int 0, .int 0, .int 0, .int 0, .int 0, .ref nx, .int 0])), (nw, .inl (cy 1, 122, .inl F))]) [0, 1] rfl) (hD.sub (ws' := [(mm, .inr (11, [.ref nw, .ref kp, .ref ik, .ref rf, .int 0, .int 0, .ref sd, .ref fr, .ref qu, .int 0, .ref me, .ref by_, .int 0, .int 0, .int 0, .int 0, .int 0, .ref nx, .int 0])), (nw, .inl (cy 1, 122, .inl F))]) [0, 1] (by decide) rfl) rfl rfl) rfl rfl hl.1 rfl (lv_room (Nat.le_of_ble_eq_true rfl)) dX11_digest_19 ⟨Nat.le_of_ble_eq_true rfl, Nat.le_of_ble_eq_true rfl⟩) hP hS hA (fun r8 H locs hwr8 hP hS => ?_)
    rcases hwr8 with ⟨rfl, hpr8, hqr8⟩ | ⟨rfl, hrr8⟩
    · skip
      refine lv_i2l hx hb dX11_digest_22 rfl ?_
      refine lv_topl (fun x9 ex9 => ?_)
      obtain rfl : x9 = 0 := by rw [ex9]; decide +kernel
      refine lv_ladd hx hb dX11_digest_23 ?_
      refine lv_topl (fun x10 ex10 => ?_)
      obtain rfl : x10 = 714023 := by rw [ex10]; decide +kernel
      refine lv_lstore_n (lv' := [(1, .long 714023), (3, .int 1), (0, .ref mm)]) hx hb dX11_digest_24 rfl hl (by decide) rfl (fun ls hl => ?_)
      refine lv_iinc (v := 2) (lv' := [(3, .int 2), (1, .long 714023), (0, .ref mm)]) hx hb dX11_digest_25 hl (k := 1) rfl (by decide) (by decide) rfl (fun ls hl => ?_)
      refine lv_goto (tgt := 6) hx hb dX11_digest_28 (by decide) ?_
      refine lv_iload_n hx hb dX11_digest_6 rfl (lv_at hl 0 rfl) ?_
      refine lv_bipush (v := 7) hx hb dX11_digest_7 (by decide) ?_
      refine lv_icmp_ge (tgt := 31) hx hb dX11_digest_9 (by decide) (fun c11 => absurd c11 (by decide)) (fun c11 => ?_)
      refine lv_ldc2 hx hb hown z1_ dX11_digest_12 ?_
      refine lv_lload_n hx hb dX11_digest_15 rfl (lv_at hl 1 rfl) ?_
      refine lv_lmul hx hb dX11_digest_16 ?_
      refine lv_topl (fun x12 ex12 => ?_)
      obtain rfl : x12 = 22134713 := by rw [ex12]; decide +kernel
      refine lv_aload_n hx hb dX11_digest_17 rfl (lv_at hl 2 rfl) ?_
      refine lv_iload_n hx hb dX11_digest_18 rfl (lv_at hl 0 rfl) ?_
      refine rd_i (va_runV (As := [.int 2]) (rest := [.long 22134713]) ⟨hx, hb, hml, hown, hts⟩ (m_counted l D cy mm nw kp ik rf sd fr qu me by_ nx F 2 _ h0 h1 h2 hz) (cwV 1 hts gX11_digest_X11_counted rfl rfl rfl (by decide +kernel) ⟨Nat.le_of_ble_eq_true rfl, Nat.le_of_ble_eq_true rfl⟩) (pV (ci := 11) (k := 0) hKA (hP.sub (ws' := [(mm, .inr (11, [.ref nw, .ref kp, .ref ik, .ref rf, .int 0, .int 0, .ref sd, .ref fr, .ref qu, .int 0, .ref me, .ref by_, .int 0, .int 0, .int 0, .int 0, .int 0, .ref nx, .int 0])), (nw, .inl (cy 1, 122, .inl F))]) [0, 1] rfl) (hD.sub (ws' := [(mm, .inr (11, [.ref nw, .ref kp, .ref ik, .ref rf, .int 0, .int 0, .ref sd, .ref fr, .ref qu, .int 0, .ref me, .ref by_, .int 0, .int 0, .int 0, .int 0, .int 0, .ref nx, .int 0])), (nw, .inl (cy 1, 122, .inl F))]) [0, 1] (by decide) rfl) rfl rfl) rfl rfl hl.1 rfl (lv_room (Nat.le_of_ble_eq_true rfl)) dX11_digest_19 ⟨Nat.le_of_ble_eq_true rfl, Nat.le_of_ble_eq_true rfl⟩) hP hS hA (fun r13 H locs hwr13 hP hS => ?_)
      rcases hwr13 with ⟨rfl, hpr13, hqr13⟩ | ⟨rfl, hrr13⟩
      · skip
        refine lv_i2l hx hb dX11_digest_22 rfl ?_
        refine lv_topl (fun x14 ex14 => ?_)
        obtain rfl : x14 = 0 := by rw [ex14]; decide +kernel
        refine lv_ladd hx hb dX11_digest_23 ?_
        refine lv_topl (fun x15 ex15 => ?_)
        obtain rfl : x15 = 22134713 := by rw [ex15]; decide +kernel
        refine lv_lstore_n (lv' := [(1, .long 22134713), (3, .int 2), (0, .ref mm)]) hx hb dX11_digest_24 rfl hl (by decide) rfl (fun ls hl => ?_)
        refine lv_iinc (v := 3) (lv' := [(3, .int 3), (1, .long 22134713), (0, .ref mm)]) hx hb dX11_digest_25 hl (k := 1) rfl (by decide) (by decide) rfl (fun ls hl => ?_)
        refine lv_goto (tgt := 6) hx hb dX11_digest_28 (by decide) ?_
        refine lv_iload_n hx hb dX11_digest_6 rfl (lv_at hl 0 rfl) ?_
        refine lv_bipush (v := 7) hx hb dX11_digest_7 (by decide) ?_
        refine lv_icmp_ge (tgt := 31) hx hb dX11_digest_9 (by decide) (fun c16 => absurd c16 (by decide)) (fun c16 => ?_)
        refine lv_ldc2 hx hb hown z1_ dX11_digest_12 ?_
        refine lv_lload_n hx hb dX11_digest_15 rfl (lv_at hl 1 rfl) ?_
        refine lv_lmul hx hb dX11_digest_16 ?_
        refine lv_topl (fun x17 ex17 => ?_)
        obtain rfl : x17 = 686176103 := by rw [ex17]; decide +kernel
        refine lv_aload_n hx hb dX11_digest_17 rfl (lv_at hl 2 rfl) ?_
        refine lv_iload_n hx hb dX11_digest_18 rfl (lv_at hl 0 rfl) ?_
        refine rd_i (va_runV (As := [.int 3]) (rest := [.long 686176103]) ⟨hx, hb, hml, hown, hts⟩ (m_counted l D cy mm nw kp ik rf sd fr qu me by_ nx F 3 _ h0 h1 h2 hz) (cwV 1 hts gX11_digest_X11_counted rfl rfl rfl (by decide +kernel) ⟨Nat.le_of_ble_eq_true rfl, Nat.le_of_ble_eq_true rfl⟩) (pV (ci := 11) (k := 0) hKA (hP.sub (ws' := [(mm, .inr (11, [.ref nw, .ref kp, .ref ik, .ref rf, .int 0, .int 0, .ref sd, .ref fr, .ref qu, .int 0, .ref me, .ref by_, .int 0, .int 0, .int 0, .int 0, .int 0, .ref nx, .int 0])), (nw, .inl (cy 1, 122, .inl F))]) [0, 1] rfl) (hD.sub (ws' := [(mm, .inr (11, [.ref nw, .ref kp, .ref ik, .ref rf, .int 0, .int 0, .ref sd, .ref fr, .ref qu, .int 0, .ref me, .ref by_, .int 0, .int 0, .int 0, .int 0, .int 0, .ref nx, .int 0])), (nw, .inl (cy 1, 122, .inl F))]) [0, 1] (by decide) rfl) rfl rfl) rfl rfl hl.1 rfl (lv_room (Nat.le_of_ble_eq_true rfl)) dX11_digest_19 ⟨Nat.le_of_ble_eq_true rfl, Nat.le_of_ble_eq_true rfl⟩) hP hS hA (fun r18 H locs hwr18 hP hS => ?_)
        rcases hwr18 with ⟨rfl, hpr18, hqr18⟩ | ⟨rfl, hrr18⟩
        · skip
          refine lv_i2l hx hb dX11_digest_22 rfl ?_
          refine lv_topl (fun x19 ex19 => ?_)
          obtain rfl : x19 = 0 := by rw [ex19]; decide +kernel
          refine lv_ladd hx hb dX11_digest_23 ?_
          refine lv_topl (fun x20 ex20 => ?_)
          obtain rfl : x20 = 686176103 := by rw [ex20]; decide +kernel
          refine lv_lstore_n (lv' := [(1, .long 686176103), (3, .int 3), (0, .ref mm)]) hx hb dX11_digest_24 rfl hl (by decide) rfl (fun ls hl => ?_)
          refine lv_iinc (v := 4) (lv' := [(3, .int 4), (1, .long 686176103), (0, .ref mm)]) hx hb dX11_digest_25 hl (k := 1) rfl (by decide) (by decide) rfl (fun ls hl => ?_)
          refine lv_goto (tgt := 6) hx hb dX11_digest_28 (by decide) ?_
          refine lv_iload_n hx hb dX11_digest_6 rfl (lv_at hl 0 rfl) ?_
          refine lv_bipush (v := 7) hx hb dX11_digest_7 (by decide) ?_
          refine lv_icmp_ge (tgt := 31) hx hb dX11_digest_9 (by decide) (fun c21 => absurd c21 (by decide)) (fun c21 => ?_)
          refine lv_ldc2 hx hb hown z1_ dX11_digest_12 ?_
          refine lv_lload_n hx hb dX11_digest_15 rfl (lv_at hl 1 rfl) ?_
          refine lv_lmul hx hb dX11_digest_16 ?_
          refine lv_topl (fun x22 ex22 => ?_)
          obtain rfl : x22 = 21271459193 := by rw [ex22]; decide +kernel
          refine lv_aload_n hx hb dX11_digest_17 rfl (lv_at hl 2 rfl) ?_
          refine lv_iload_n hx hb dX11_digest_18 rfl (lv_at hl 0 rfl) ?_
          refine rd_i (va_runV (As := [.int 4]) (rest := [.long 21271459193]) ⟨hx, hb, hml, hown, hts⟩ (m_counted l D cy mm nw kp ik rf sd fr qu me by_ nx F 4 _ h0 h1 h2 hz) (cwV 1 hts gX11_digest_X11_counted rfl rfl rfl (by decide +kernel) ⟨Nat.le_of_ble_eq_true rfl, Nat.le_of_ble_eq_true rfl⟩) (pV (ci := 11) (k := 0) hKA (hP.sub (ws' := [(mm, .inr (11, [.ref nw, .ref kp, .ref ik, .ref rf, .int 0, .int 0, .ref sd, .ref fr, .ref qu, .int 0, .ref me, .ref by_, .int 0, .int 0, .int 0, .int 0, .int 0, .ref nx, .int 0])), (nw, .inl (cy 1, 122, .inl F))]) [0, 1] rfl) (hD.sub (ws' := [(mm, .inr (11, [.ref nw, .ref kp, .ref ik, .ref rf, .int 0, .int 0, .ref sd, .ref fr, .ref qu, .int 0, .ref me, .ref by_, .int 0, .int 0, .int 0, .int 0, .int 0, .ref nx, .int 0])), (nw, .inl (cy 1, 122, .inl F))]) [0, 1] (by decide) rfl) rfl rfl) rfl rfl hl.1 rfl (lv_room (Nat.le_of_ble_eq_true rfl)) dX11_digest_19 ⟨Nat.le_of_ble_eq_true rfl, Nat.le_of_ble_eq_true rfl⟩) hP hS hA (fun r23 H locs hwr23 hP hS => ?_)
          rcases hwr23 with ⟨rfl, hpr23, hqr23⟩ | ⟨rfl, hrr23⟩
          · skip
            refine lv_i2l hx hb dX11_digest_22 rfl ?_
            refine lv_topl (fun x24 ex24 => ?_)
            obtain rfl : x24 = 0 := by rw [ex24]; decide +kernel
            refine lv_ladd hx hb dX11_digest_23 ?_
            refine lv_topl (fun x25 ex25 => ?_)
            obtain rfl : x25 = 21271459193 := by rw [ex25]; decide +kernel
            refine lv_lstore_n (lv' := [(1, .long 21271459193), (3, .int 4), (0, .ref mm)]) hx hb dX11_digest_24 rfl hl (by decide) rfl (fun ls hl => ?_)
            refine lv_iinc (v := 5) (lv' := [(3, .int 5), (1, .long 21271459193), (0, .ref mm)]) hx hb dX11_digest_25 hl (k := 1) rfl (by decide) (by decide) rfl (fun ls hl => ?_)
            refine lv_goto (tgt := 6) hx hb dX11_digest_28 (by decide) ?_
            refine lv_iload_n hx hb dX11_digest_6 rfl (lv_at hl 0 rfl) ?_
            refine lv_bipush (v := 7) hx hb dX11_digest_7 (by decide) ?_
            refine lv_icmp_ge (tgt := 31) hx hb dX11_digest_9 (by decide) (fun c26 => absurd c26 (by decide)) (fun c26 => ?_)
            refine lv_ldc2 hx hb hown z1_ dX11_digest_12 ?_
            refine lv_lload_n hx hb dX11_digest_15 rfl (lv_at hl 1 rfl) ?_
            refine lv_lmul hx hb dX11_digest_16 ?_
            refine lv_topl (fun x27 ex27 => ?_)
            obtain rfl : x27 = 659415234983 := by rw [ex27]; decide +kernel
            refine lv_aload_n hx hb dX11_digest_17 rfl (lv_at hl 2 rfl) ?_
            refine lv_iload_n hx hb dX11_digest_18 rfl (lv_at hl 0 rfl) ?_
            refine rd_i (va_runV (As := [.int 5]) (rest := [.long 659415234983]) ⟨hx, hb, hml, hown, hts⟩ (m_counted l D cy mm nw kp ik rf sd fr qu me by_ nx F 5 _ h0 h1 h2 hz) (cwV 1 hts gX11_digest_X11_counted rfl rfl rfl (by decide +kernel) ⟨Nat.le_of_ble_eq_true rfl, Nat.le_of_ble_eq_true rfl⟩) (pV (ci := 11) (k := 0) hKA (hP.sub (ws' := [(mm, .inr (11, [.ref nw, .ref kp, .ref ik, .ref rf, .int 0, .int 0, .ref sd, .ref fr, .ref qu, .int 0, .ref me, .ref by_, .int 0, .int 0, .int 0, .int 0, .int 0, .ref nx, .int 0])), (nw, .inl (cy 1, 122, .inl F))]) [0, 1] rfl) (hD.sub (ws' := [(mm, .inr (11, [.ref nw, .ref kp, .ref ik, .ref rf, .int 0, .int 0, .ref sd, .ref fr, .ref qu, .int 0, .ref me, .ref by_, .int 0, .int 0, .int 0, .int 0, .int 0, .ref nx, .int 0])), (nw, .inl (cy 1, 122, .inl F))]) [0, 1] (by decide) rfl) rfl rfl) rfl rfl hl.1 rfl (lv_room (Nat.le_of_ble_eq_true rfl)) dX11_digest_19 ⟨Nat.le_of_ble_eq_true rfl, Nat.le_of_ble_eq_true rfl⟩) hP hS hA (fun r28 H locs hwr28 hP hS => ?_)
            rcases hwr28 with ⟨rfl, hpr28, hqr28⟩ | ⟨rfl, hrr28⟩
            · skip
              refine lv_i2l hx hb dX11_digest_22 rfl ?_
              refine lv_topl (fun x29 ex29 => ?_)
              obtain rfl : x29 = 0 := by rw [ex29]; decide +kernel
              refine lv_ladd hx hb dX11_digest_23 ?_
              refine lv_topl (fun x30 ex30 => ?_)
              obtain rfl : x30 = 659415234983 := by rw [ex30]; decide +kernel
              refine lv_lstore_n (lv' := [(1, .long 659415234983), (3, .int 5), (0, .ref mm)]) hx hb dX11_digest_24 rfl hl (by decide) rfl (fun ls hl => ?_)
              refine lv_iinc (v := 6) (lv' := [(3, .int 6), (1, .long 659415234983), (0, .ref mm)]) hx hb dX11_digest_25 hl (k := 1) rfl (by decide) (by decide) rfl (fun ls hl => ?_)
              refine lv_goto (tgt := 6) hx hb dX11_digest_28 (by decide) ?_
              refine lv_iload_n hx hb dX11_digest_6 rfl (lv_at hl 0 rfl) ?_
              refine lv_bipush (v := 7) hx hb dX11_digest_7 (by decide) ?_
              refine lv_icmp_ge (tgt := 31) hx hb dX11_digest_9 (by decide) (fun c31 => absurd c31 (by decide)) (fun c31 => ?_)
              refine lv_ldc2 hx hb hown z1_ dX11_digest_12 ?_
              refine lv_lload_n hx hb dX11_digest_15 rfl (lv_at hl 1 rfl) ?_
              refine lv_lmul hx hb dX11_digest_16 ?_
              refine lv_topl (fun x32 ex32 => ?_)
              obtain rfl : x32 = 20441872284473 := by rw [ex32]; decide +kernel
              refine lv_aload_n hx hb dX11_digest_17 rfl (lv_at hl 2 rfl) ?_
              refine lv_iload_n hx hb dX11_digest_18 rfl (lv_at hl 0 rfl) ?_
              refine rd_i (va_runV (As := [.int 6]) (rest := [.long 20441872284473]) ⟨hx, hb, hml, hown, hts⟩ (m_counted l D cy mm nw kp ik rf sd fr qu me by_ nx F 6 _ h0 h1 h2 hz) (cwV 1 hts gX11_digest_X11_counted rfl rfl rfl (by decide +kernel) ⟨Nat.le_of_ble_eq_true rfl, Nat.le_of_ble_eq_true rfl⟩) (pV (ci := 11) (k := 0) hKA (hP.sub (ws' := [(mm, .inr (11, [.ref nw, .ref kp, .ref ik, .ref rf, .int 0, .int 0, .ref sd, .ref fr, .ref qu, .int 0, .ref me, .ref by_, .int 0, .int 0, .int 0, .int 0, .int 0, .ref nx, .int 0])), (nw, .inl (cy 1, 122, .inl F))]) [0, 1] rfl) (hD.sub (ws' := [(mm, .inr (11, [.ref nw, .ref kp, .ref ik, .ref rf, .int 0, .int 0, .ref sd, .ref fr, .ref qu, .int 0, .ref me, .ref by_, .int 0, .int 0, .int 0, .int 0, .int 0, .ref nx, .int 0])), (nw, .inl (cy 1, 122, .inl F))]) [0, 1] (by decide) rfl) rfl rfl) rfl rfl hl.1 rfl (lv_room (Nat.le_of_ble_eq_true rfl)) dX11_digest_19 ⟨Nat.le_of_ble_eq_true rfl, Nat.le_of_ble_eq_true rfl⟩) hP hS hA (fun r33 H locs hwr33 hP hS => ?_)
              rcases hwr33 with ⟨rfl, hpr33, hqr33⟩ | ⟨rfl, hrr33⟩
              · exact absurd hqr33 (by decide)
              · skip
                refine lv_i2l hx hb dX11_digest_22 rfl ?_
                refine lv_topl (fun x34 ex34 => ?_)
                obtain rfl : x34 = 36 := by rw [ex34]; decide +kernel
                refine lv_ladd hx hb dX11_digest_23 ?_
                refine lv_topl (fun x35 ex35 => ?_)
                obtain rfl : x35 = 20441872284509 := by rw [ex35]; decide +kernel
                refine lv_lstore_n (lv' := [(1, .long 20441872284509), (3, .int 6), (0, .ref mm)]) hx hb dX11_digest_24 rfl hl (by decide) rfl (fun ls hl => ?_)
                refine lv_iinc (v := 7) (lv' := [(3, .int 7), (1, .long 20441872284509), (0, .ref mm)]) hx hb dX11_digest_25 hl (k := 1) rfl (by decide) (by decide) rfl (fun ls hl => ?_)
                refine lv_goto (tgt := 6) hx hb dX11_digest_28 (by decide) ?_
                refine lv_iload_n hx hb dX11_digest_6 rfl (lv_at hl 0 rfl) ?_
                refine lv_bipush (v := 7) hx hb dX11_digest_7 (by decide) ?_
                refine lv_icmp_ge (tgt := 31) hx hb dX11_digest_9 (by decide) (fun c36 => ?_) (fun c36 => absurd c36 (by decide))
                refine lv_ldc2 hx hb hown z1_ dX11_digest_31 ?_
                refine lv_ldc2 hx hb hown z1_ dX11_digest_34 ?_
                refine lv_ldc2 hx hb hown z1_ dX11_digest_37 ?_
                refine lv_lload_n hx hb dX11_digest_40 rfl (lv_at hl 1 rfl) ?_
                refine lv_lmul hx hb dX11_digest_41 ?_
                refine lv_topl (fun x37 ex37 => ?_)
                obtain rfl : x37 = 633698040819779 := by rw [ex37]; decide +kernel
                refine lv_aload_n hx hb dX11_digest_42 rfl (lv_at hl 2 rfl) ?_
                refine va_get (D := D) (ci := 11) (v := .ref nw) (C := RX11) (T := TX11) (N := 19) hx hb hts zi11_ hown hK hP 0 rfl rfl 0 (by decide) z2_ (fun _ h9 => h9) rfl dX11_digest_43 ?_
                refine lv_iconst (v := 0) hx hb dX11_digest_46 (by decide) ?_
                refine my_iald hx hb hK hP 1 1 rfl rfl (by rw [vp_in_iff]; decide +kernel) (k := 0) (by decide +kernel) dX11_digest_47 ?_
                rw [show F 0 = 6 from h0]
                refine lv_i2l hx hb dX11_digest_48 rfl ?_
                refine lv_topl (fun x38 ex38 => ?_)
                obtain rfl : x38 = 6 := by rw [ex38]; decide +kernel
                refine lv_ladd hx hb dX11_digest_49 ?_
                refine lv_topl (fun x39 ex39 => ?_)
                obtain rfl : x39 = 633698040819785 := by rw [ex39]; decide +kernel
                refine lv_lmul hx hb dX11_digest_50 ?_
                refine lv_topl (fun x40 ex40 => ?_)
                obtain rfl : x40 = 19644639265413335 := by rw [ex40]; decide +kernel
                refine lv_aload_n hx hb dX11_digest_51 rfl (lv_at hl 2 rfl) ?_
                refine va_get (D := D) (ci := 11) (v := .ref nw) (C := RX11) (T := TX11) (N := 19) hx hb hts zi11_ hown hK hP 0 rfl rfl 0 (by decide) z2_ (fun _ h9 => h9) rfl dX11_digest_52 ?_
                refine lv_iconst (v := 2) hx hb dX11_digest_55 (by decide) ?_
                refine my_iald hx hb hK hP 1 1 rfl rfl (by rw [vp_in_iff]; decide +kernel) (k := 2) (by decide +kernel) dX11_digest_56 ?_
                rw [show F 2 = 1 from h2]
                refine lv_i2l hx hb dX11_digest_57 rfl ?_
                refine lv_topl (fun x41 ex41 => ?_)
                obtain rfl : x41 = 1 := by rw [ex41]; decide +kernel
                refine lv_ladd hx hb dX11_digest_58 ?_
                refine lv_topl (fun x42 ex42 => ?_)
                obtain rfl : x42 = 19644639265413336 := by rw [ex42]; decide +kernel
                refine lv_lmul hx hb dX11_digest_59 ?_
                refine lv_topl (fun x43 ex43 => ?_)
                obtain rfl : x43 = 608983817227813416 := by rw [ex43]; decide +kernel
                refine lv_aload_n hx hb dX11_digest_60 rfl (lv_at hl 2 rfl) ?_
                refine va_get (D := D) (ci := 11) (v := .ref nw) (C := RX11) (T := TX11) (N := 19) hx hb hts zi11_ hown hK hP 0 rfl rfl 0 (by decide) z2_ (fun _ h9 => h9) rfl dX11_digest_61 ?_
                refine lv_iconst (v := 3) hx hb dX11_digest_64 (by decide) ?_
                refine my_iald hx hb hK hP 1 1 rfl rfl (by rw [vp_in_iff]; decide +kernel) (k := 3) (by decide +kernel) dX11_digest_65 ?_
                rw [show F 3 = 0 from hz 3 (by decide) (by decide)]
                refine lv_i2l hx hb dX11_digest_66 rfl ?_
                refine lv_topl (fun x44 ex44 => ?_)
                obtain rfl : x44 = 0 := by rw [ex44]; decide +kernel
                refine lv_ladd hx hb dX11_digest_67 ?_
                refine lv_topl (fun x45 ex45 => ?_)
                obtain rfl : x45 = 608983817227813416 := by rw [ex45]; decide +kernel
                refine lv_lstore_n (lv' := [(1, .long 608983817227813416), (3, .int 7), (0, .ref mm)]) hx hb dX11_digest_68 rfl hl (by decide) rfl (fun ls hl => ?_)
                refine lv_aload_n hx hb dX11_digest_69 rfl (lv_at hl 2 rfl) ?_
                refine lv_lload_n hx hb dX11_digest_70 rfl (lv_at hl 0 rfl) ?_
                refine lv_iconst (v := 5) hx hb dX11_digest_71 (by decide) ?_
                refine lv_iconst (v := 3) hx hb dX11_digest_72 (by decide) ?_
                refine lv_aload_n hx hb dX11_digest_73 rfl (lv_at hl 2 rfl) ?_
                refine rd_i (va_runV (As := []) (rest := [.int 3, .int 5, .long 608983817227813416, .ref mm]) ⟨hx, hb, hml, hown, hts⟩ (c_X11_people l D cy mm nw kp ik rf sd fr qu me by_ nx F _) (cwV 0 hts gX11_digest_X11_people rfl rfl rfl (by decide +kernel) ⟨Nat.le_of_ble_eq_true rfl, Nat.le_of_ble_eq_true rfl⟩) (pV (ci := 11) (k := 0) hKA (hP.sub (ws' := [(mm, .inr (11, [.ref nw, .ref kp, .ref ik, .ref rf, .int 0, .int 0, .ref sd, .ref fr, .ref qu, .int 0, .ref me, .ref by_, .int 0, .int 0, .int 0, .int 0, .int 0, .ref nx, .int 0])), (nw, .inl (cy 1, 122, .inl F))]) [0, 1] rfl) (hD.sub (ws' := [(mm, .inr (11, [.ref nw, .ref kp, .ref ik, .ref rf, .int 0, .int 0, .ref sd, .ref fr, .ref qu, .int 0, .ref me, .ref by_, .int 0, .int 0, .int 0, .int 0, .int 0, .ref nx, .int 0])), (nw, .inl (cy 1, 122, .inl F))]) [0, 1] (by decide) rfl) rfl rfl) rfl rfl hl.1 rfl (lv_room (Nat.le_of_ble_eq_true rfl)) dX11_digest_74 ⟨Nat.le_of_ble_eq_true rfl, Nat.le_of_ble_eq_true rfl⟩) hP hS hA (fun r46 H locs hwr46 hP hS => ?_)
                obtain rfl : r46 = 0 := by rw [hwr46]; exact hz 4 (by decide) (by decide)
                refine lv_imul hx hb dX11_digest_77 ?_
                refine lv_topi (fun x47 ex47 => ?_)
                obtain rfl : x47 = 0 := by rw [ex47]; decide +kernel
                refine rd_l (va_runV (As := [.long 608983817227813416, .int 5, .int 0]) (rest := []) ⟨hx, hb, hml, hown, hts⟩ (m_sums l D cy mm nw kp ik rf sd fr qu me by_ nx F 608983817227813416 5 _) (cwV 3 hts gX11_digest_X11_sums rfl rfl rfl (by decide +kernel) ⟨Nat.le_of_ble_eq_true rfl, Nat.le_of_ble_eq_true rfl⟩) (pV (ci := 11) (k := 0) hKA (hP.sub (ws' := [(mm, .inr (11, [.ref nw, .ref kp, .ref ik, .ref rf, .int 0, .int 0, .ref sd, .ref fr, .ref qu, .int 0, .ref me, .ref by_, .int 0, .int 0, .int 0, .int 0, .int 0, .ref nx, .int 0])), (nw, .inl (cy 1, 122, .inl F))]) [0, 1] rfl) (hD.sub (ws' := [(mm, .inr (11, [.ref nw, .ref kp, .ref ik, .ref rf, .int 0, .int 0, .ref sd, .ref fr, .ref qu, .int 0, .ref me, .ref by_, .int 0, .int 0, .int 0, .int 0, .int 0, .ref nx, .int 0])), (nw, .inl (cy 1, 122, .inl F))]) [0, 1] (by decide) rfl) rfl rfl) rfl rfl hl.1 rfl (lv_room (Nat.le_of_ble_eq_true rfl)) dX11_digest_78 ⟨Nat.le_of_ble_eq_true rfl, Nat.le_of_ble_eq_true rfl⟩) hP hS hA (fun r48 H locs hwr48 hP hS => ?_)
                rw [hwr48]
                refine lv_lstore_n (lv' := [(1, .long 608983817227813416), (3, .int 7), (0, .ref mm)]) hx hb dX11_digest_81 rfl hl (by decide) rfl (fun ls hl => ?_)
                refine lv_iconst (v := 0) hx hb dX11_digest_82 (by decide) ?_
                refine lv_istore_n (lv' := [(3, .int 0), (1, .long 608983817227813416), (0, .ref mm)]) hx hb dX11_digest_83 rfl hl (by decide) rfl (fun ls hl => ?_)
                have lp84 : ∀ (n84 : Nat) (k : Nat) (d : Int64), k ≤ 36 → d = dgF (31 * (31 * (31 * 20441872284509 + 6) + 1) + 0) k → 36 - k < n84 → ∀ (H : Heap) (locs : List Loc), va_P D vwCl [(mm, .inr (11, [.ref nw, .ref kp, .ref ik, .ref rf, .int 0, .int 0, .ref sd, .ref fr, .ref qu, .int 0, .ref me, .ref by_, .int 0, .int 0, .int 0, .int 0, .int 0, .ref nx, .int 0])), (nw, .inl (cy 1, 122, .inl F)), (rf, .inl (cy 1, 3, .inl (fun _ => 0)))] H → va_D A [(mm, .inr (11, [.ref nw, .ref kp, .ref ik, .ref rf, .int 0, .int 0, .ref sd, .ref fr, .ref qu, .int 0, .ref me, .ref by_, .int 0, .int 0, .int 0, .int 0, .int 0, .ref nx, .int 0])), (nw, .inl (cy 1, 122, .inl F)), (rf, .inl (cy 1, 3, .inl (fun _ => 0)))] → va_S A s.heap H locs → ∀ ls : Array Slot, lv_has ls 4 [(0, .ref mm), (1, .long d), (3, .int (nI k))] → W p l e (headSpec wsX11_digest ({ frames := 3, cells := 0, slots := 0, locals := 64 })).room s m [.ref mm].toArray below meth c H locs 0 0 (MQ below (va_Ql (fun (r : Int64) (_ : Unit) => r = dgF (31 * (31 * (31 * 20441872284509 + 6) + 1) + 0) 36) (fun (u : Unit) t => va_P D vwCl ([]) t.heap ∧ va_D A ([])) A) [.ref mm].toArray s 0 0 A) (F0 m 84 ls []) := by
                  intro n84
                  induction n84 with
                  | zero => intro k d hk hh hm; exact absurd hm (Nat.not_lt_zero _)
                  | succ n84 ih84 =>
                    intro k d hk hh hm84 H locs hP hD hS ls hl
                    refine lv_iload_n hx hb dX11_digest_84 rfl (lv_at hl 2 rfl) ?_
                    refine lv_aload_n hx hb dX11_digest_85 rfl (lv_at hl 0 rfl) ?_
                    refine rd_i (va_runV (As := []) (rest := [.int (nI k)]) ⟨hx, hb, hml, hown, hts⟩ (c_X11_squares l D cy mm nw kp ik rf sd fr qu me by_ nx F _) (cwV 0 hts gX11_digest_X11_squares rfl rfl rfl (by decide +kernel) ⟨Nat.le_of_ble_eq_true rfl, Nat.le_of_ble_eq_true rfl⟩) (pV (ci := 11) (k := 0) hKA (hP.sub (ws' := [(mm, .inr (11, [.ref nw, .ref kp, .ref ik, .ref rf, .int 0, .int 0, .ref sd, .ref fr, .ref qu, .int 0, .ref me, .ref by_, .int 0, .int 0, .int 0, .int 0, .int 0, .ref nx, .int 0])), (nw, .inl (cy 1, 122, .inl F))]) [0, 1] rfl) (hD.sub (ws' := [(mm, .inr (11, [.ref nw, .ref kp, .ref ik, .ref rf, .int 0, .int 0, .ref sd, .ref fr, .ref qu, .int 0, .ref me, .ref by_, .int 0, .int 0, .int 0, .int 0, .int 0, .ref nx, .int 0])), (nw, .inl (cy 1, 122, .inl F))]) [0, 1] (by decide) rfl) rfl rfl) rfl rfl hl.1 rfl (lv_room (Nat.le_of_ble_eq_true rfl)) dX11_digest_86 ⟨Nat.le_of_ble_eq_true rfl, Nat.le_of_ble_eq_true rfl⟩) hP hS hA (fun r49 H locs hwr49 hP hS => ?_)
                    obtain rfl : r49 = 36 := by rw [hwr49]; rw [h0, h1]; decide
                    refine lv_icmp_ge (tgt := 130) hx hb dX11_digest_89 (by decide) (fun c50 => ?_) (fun c50 => ?_)
                    · skip
                      refine lv_aload_n hx hb dX11_digest_130 rfl (lv_at hl 0 rfl) ?_
                      refine lv_lload_n hx hb dX11_digest_131 rfl (lv_at hl 1 rfl) ?_
                      refine lv_bipush (v := 93) hx hb dX11_digest_132 (by decide) ?_
                      refine lv_iconst (v := 2) hx hb dX11_digest_134 (by decide) ?_
                      refine lv_aload_n hx hb dX11_digest_135 rfl (lv_at hl 0 rfl) ?_
                      refine va_get (D := D) (ci := 11) (v := .ref nw) (C := RX11) (T := TX11) (N := 19) hx hb hts zi11_ hown hK hP 0 rfl rfl 0 (by decide) z2_ (fun _ h9 => h9) rfl dX11_digest_136 ?_
                      refine lv_bipush (v := 92) hx hb dX11_digest_139 (by decide) ?_
                      refine my_iald hx hb hK hP 1 1 rfl rfl (by rw [vp_in_iff]; decide +kernel) (k := 92) (by decide +kernel) dX11_digest_141 ?_
                      rw [show F 92 = 0 from hz 92 (by decide) (by decide)]
                      refine lv_imul hx hb dX11_digest_142 ?_
                      refine lv_topi (fun x51 ex51 => ?_)
                      obtain rfl : x51 = 0 := by rw [ex51]; decide +kernel
                      refine rd_l (va_runV (As := [.long d, .int 93, .int 0]) (rest := []) ⟨hx, hb, hml, hown, hts⟩ (m_sums l D cy mm nw kp ik rf sd fr qu me by_ nx F d 93 _) (cwV 3 hts gX11_digest_X11_sums rfl rfl rfl (by decide +kernel) ⟨Nat.le_of_ble_eq_true rfl, Nat.le_of_ble_eq_true rfl⟩) (pV (ci := 11) (k := 0) hKA (hP.sub (ws' := [(mm, .inr (11, [.ref nw, .ref kp, .ref ik, .ref rf, .int 0, .int 0, .ref sd, .ref fr, .ref qu, .int 0, .ref me, .ref by_, .int 0, .int 0, .int 0, .int 0, .int 0, .ref nx, .int 0])), (nw, .inl (cy 1, 122, .inl F))]) [0, 1] rfl) (hD.sub (ws' := [(mm, .inr (11, [.ref nw, .ref kp, .ref ik, .ref rf, .int 0, .int 0, .ref sd, .ref fr, .ref qu, .int 0, .ref me, .ref by_, .int 0, .int 0, .int 0, .int 0, .int 0, .ref nx, .int 0])), (nw, .inl (cy 1, 122, .inl F))]) [0, 1] (by decide) rfl) rfl rfl) rfl rfl hl.1 rfl (lv_room (Nat.le_of_ble_eq_true rfl)) dX11_digest_143 ⟨Nat.le_of_ble_eq_true rfl, Nat.le_of_ble_eq_true rfl⟩) hP hS hA (fun r52 H locs hwr52 hP hS => ?_)
                      rw [hwr52]
                      refine lv_lstore_n (lv' := [(1, .long d), (0, .ref mm), (3, .int (nI k))]) hx hb dX11_digest_146 rfl hl (by decide) rfl (fun ls hl => ?_)
                      refine lv_aload_n hx hb dX11_digest_147 rfl (lv_at hl 1 rfl) ?_
                      refine lv_lload_n hx hb dX11_digest_148 rfl (lv_at hl 0 rfl) ?_
                      refine lv_bipush (v := 106) hx hb dX11_digest_149 (by decide) ?_
                      refine lv_iconst (v := 2) hx hb dX11_digest_151 (by decide) ?_
                      refine lv_aload_n hx hb dX11_digest_152 rfl (lv_at hl 1 rfl) ?_
                      refine va_get (D := D) (ci := 11) (v := .ref nw) (C := RX11) (T := TX11) (N := 19) hx hb hts zi11_ hown hK hP 0 rfl rfl 0 (by decide) z2_ (fun _ h9 => h9) rfl dX11_digest_153 ?_
                      refine lv_bipush (v := 105) hx hb dX11_digest_156 (by decide) ?_
                      refine my_iald hx hb hK hP 1 1 rfl rfl (by rw [vp_in_iff]; decide +kernel) (k := 105) (by decide +kernel) dX11_digest_158 ?_
                      rw [show F 105 = 0 from hz 105 (by decide) (by decide)]
                      refine lv_imul hx hb dX11_digest_159 ?_
                      refine lv_topi (fun x53 ex53 => ?_)
                      obtain rfl : x53 = 0 := by rw [ex53]; decide +kernel
                      refine rd_l (va_runV (As := [.long d, .int 106, .int 0]) (rest := []) ⟨hx, hb, hml, hown, hts⟩ (m_sums l D cy mm nw kp ik rf sd fr qu me by_ nx F d 106 _) (cwV 3 hts gX11_digest_X11_sums rfl rfl rfl (by decide +kernel) ⟨Nat.le_of_ble_eq_true rfl, Nat.le_of_ble_eq_true rfl⟩) (pV (ci := 11) (k := 0) hKA (hP.sub (ws' := [(mm, .inr (11, [.ref nw, .ref kp, .ref ik, .ref rf, .int 0, .int 0, .ref sd, .ref fr, .ref qu, .int 0, .ref me, .ref by_, .int 0, .int 0, .int 0, .int 0, .int 0, .ref nx, .int 0])), (nw, .inl (cy 1, 122, .inl F))]) [0, 1] rfl) (hD.sub (ws' := [(mm, .inr (11, [.ref nw, .ref kp, .ref ik, .ref rf, .int 0, .int 0, .ref sd, .ref fr, .ref qu, .int 0, .ref me, .ref by_, .int 0, .int 0, .int 0, .int 0, .int 0, .ref nx, .int 0])), (nw, .inl (cy 1, 122, .inl F))]) [0, 1] (by decide) rfl) rfl rfl) rfl rfl hl.1 rfl (lv_room (Nat.le_of_ble_eq_true rfl)) dX11_digest_160 ⟨Nat.le_of_ble_eq_true rfl, Nat.le_of_ble_eq_true rfl⟩) hP hS hA (fun r54 H locs hwr54 hP hS => ?_)
                      rw [hwr54]
                      have hP9 := hP.sub (ws' := []) [] rfl
                      have hD9 := hD.sub (ws' := []) [] (by decide) rfl
                      exact W.lret (v := d) hx hb hr (fun t ht hW => ⟨⟨d, (), rfl, (by have q := nge_of (n := 36) rfl hk (by decide) (by assumption); rw [hh, q]), by rw [ht]; exact hP9, hD9⟩, hS.F ht⟩) hS.2.2 dX11_digest_163
                    · skip
                      have hk36 := nlt_of (n := 36) rfl hk (by decide) (by assumption)
                      refine lv_ldc2 hx hb hown z1_ dX11_digest_92 ?_
                      refine lv_ldc2 hx hb hown z1_ dX11_digest_95 ?_
                      refine lv_lload_n hx hb dX11_digest_98 rfl (lv_at hl 1 rfl) ?_
                      refine lv_lmul hx hb dX11_digest_99 ?_
                      refine lv_aload_n hx hb dX11_digest_100 rfl (lv_at hl 0 rfl) ?_
                      refine va_get (D := D) (ci := 11) (v := .ref nw) (C := RX11) (T := TX11) (N := 19) hx hb hts zi11_ hown hK hP 0 rfl rfl 0 (by decide) z2_ (fun _ h9 => h9) rfl dX11_digest_101 ?_
                      refine lv_bipush (v := 20) hx hb dX11_digest_104 (by decide) ?_
                      refine lv_iload_n hx hb dX11_digest_106 rfl (lv_at hl 2 rfl) ?_
                      refine lv_iadd hx hb dX11_digest_107 ?_
                      refine lv_topi (fun x55 ex55 => ?_)
                      obtain rfl : x55 = nI (20 + k) := by rw [ex55]; exact nI_add _ _
                      refine my_iald hx hb hK hP 1 1 rfl rfl (vp_in_nI (by omega) (by decide)) (nI_clamp (by omega)) dX11_digest_108 ?_
                      rw [show F (20 + k) = 0 from hz (20 + k) (by omega) (by omega)]
                      refine lv_i2l hx hb dX11_digest_109 rfl ?_
                      refine lv_topl (fun x56 ex56 => ?_)
                      obtain rfl : x56 = 0 := by rw [ex56]; decide +kernel
                      refine lv_ladd hx hb dX11_digest_110 ?_
                      refine lv_lmul hx hb dX11_digest_111 ?_
                      refine lv_aload_n hx hb dX11_digest_112 rfl (lv_at hl 0 rfl) ?_
                      refine va_get (D := D) (ci := 11) (v := .ref nw) (C := RX11) (T := TX11) (N := 19) hx hb hts zi11_ hown hK hP 0 rfl rfl 0 (by decide) z2_ (fun _ h9 => h9) rfl dX11_digest_113 ?_
                      refine lv_bipush (v := 56) hx hb dX11_digest_116 (by decide) ?_
                      refine lv_iload_n hx hb dX11_digest_118 rfl (lv_at hl 2 rfl) ?_
                      refine lv_iadd hx hb dX11_digest_119 ?_
                      refine lv_topi (fun x57 ex57 => ?_)
                      obtain rfl : x57 = nI (56 + k) := by rw [ex57]; exact nI_add _ _
                      refine my_iald hx hb hK hP 1 1 rfl rfl (vp_in_nI (by omega) (by decide)) (nI_clamp (by omega)) dX11_digest_120 ?_
                      rw [show F (56 + k) = 0 from hz (56 + k) (by omega) (by omega)]
                      refine lv_i2l hx hb dX11_digest_121 rfl ?_
                      refine lv_topl (fun x58 ex58 => ?_)
                      obtain rfl : x58 = 0 := by rw [ex58]; decide +kernel
                      refine lv_ladd hx hb dX11_digest_122 ?_
                      refine lv_topl (fun x59 ex59 => ?_)
                      refine lv_lstore_n (lv' := [(1, .long x59), (0, .ref mm), (3, .int (nI k))]) hx hb dX11_digest_123 rfl hl (by decide) rfl (fun ls hl => ?_)
                      refine lv_iinc (v := nI (k + 1)) (lv' := [(3, .int (nI (k + 1))), (1, .long x59), (0, .ref mm)]) hx hb dX11_digest_124 hl (k := 2) rfl (nI_1 _) (by decide) rfl (fun ls hl => ?_)
                      refine lv_goto (tgt := 84) hx hb dX11_digest_127 (by decide) ?_
                      exact ih84 (k + 1) x59 (by omega) (by rw [dgF, ← hh]; simp only [*]) (by omega) _ _ (hP.sub (ws' := [(mm, .inr (11, [.ref nw, .ref kp, .ref ik, .ref rf, .int 0, .int 0, .ref sd, .ref fr, .ref qu, .int 0, .ref me, .ref by_, .int 0, .int 0, .int 0, .int 0, .int 0, .ref nx, .int 0])), (nw, .inl (cy 1, 122, .inl F)), (rf, .inl (cy 1, 3, .inl (fun _ => 0)))]) [0, 1, 2] rfl) (hD.sub (ws' := [(mm, .inr (11, [.ref nw, .ref kp, .ref ik, .ref rf, .int 0, .int 0, .ref sd, .ref fr, .ref qu, .int 0, .ref me, .ref by_, .int 0, .int 0, .int 0, .int 0, .int 0, .ref nx, .int 0])), (nw, .inl (cy 1, 122, .inl F)), (rf, .inl (cy 1, 3, .inl (fun _ => 0)))]) [0, 1, 2] (by decide) rfl) hS ls (lv_sub hl [2, 1, 0] rfl)
                exact lp84 (36 - 0 + 1) 0 608983817227813416 (by omega) (by decide +kernel) (Nat.lt_succ_self _) _ _ (hP.sub (ws' := [(mm, .inr (11, [.ref nw, .ref kp, .ref ik, .ref rf, .int 0, .int 0, .ref sd, .ref fr, .ref qu, .int 0, .ref me, .ref by_, .int 0, .int 0, .int 0, .int 0, .int 0, .ref nx, .int 0])), (nw, .inl (cy 1, 122, .inl F)), (rf, .inl (cy 1, 3, .inl (fun _ => 0)))]) [0, 1, 2] rfl) (hD.sub (ws' := [(mm, .inr (11, [.ref nw, .ref kp, .ref ik, .ref rf, .int 0, .int 0, .ref sd, .ref fr, .ref qu, .int 0, .ref me, .ref by_, .int 0, .int 0, .int 0, .int 0, .int 0, .ref nx, .int 0])), (nw, .inl (cy 1, 122, .inl F)), (rf, .inl (cy 1, 3, .inl (fun _ => 0)))]) [0, 1, 2] (by decide) rfl) hS ls (lv_sub hl [2, 1, 0] rfl)
            · exact absurd (by decide) hrr28
          · exact absurd (by decide) hrr23
        · exact absurd (by decide) hrr18
      · exact absurd (by decide) hrr13
    · exact absurd (by decide) hrr8
  · exact absurd (by decide) hrr3
