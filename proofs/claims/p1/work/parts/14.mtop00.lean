theorem dX11_garden_0 : decode cX11_garden 0 = .ok (.iload_n 1, 1) := by decide +kernel
theorem dX11_garden_1 : decode cX11_garden 1 = .ok (.i2l, 1) := by decide +kernel
theorem dX11_garden_2 : decode cX11_garden 2 = .ok (.ldc2_w 56, 3) := by decide +kernel
theorem dX11_garden_5 : decode cX11_garden 5 = .ok (.ldc2_w 58, 3) := by decide +kernel
set_option maxRecDepth 20000 in
theorem ggX11_garden_X11_in : GoodIn wsX11_garden wsX11_in := goodIn_r _ [7] (by decide +kernel) (by decide +kernel)
set_option maxRecDepth 20000 in
theorem gX11_garden_X11_in : GoodIn wsX11_garden (va_wsS RX11 49 yX11_in wsX11_in) := goodIn_app (goodIn_of _ (by decide +kernel)) ggX11_garden_X11_in
theorem dX11_garden_8 : decode cX11_garden 8 = .ok (.invokestatic 49, 3) := by decide +kernel
theorem dX11_garden_11 : decode cX11_garden 11 = .ok (.ifCond .eq 17, 3) := by decide +kernel
theorem dX11_garden_14 : decode cX11_garden 14 = .ok (.iload_n 2, 1) := by decide +kernel
theorem dX11_garden_15 : decode cX11_garden 15 = .ok (.i2l, 1) := by decide +kernel
theorem dX11_garden_16 : decode cX11_garden 16 = .ok (.ldc2_w 56, 3) := by decide +kernel
theorem dX11_garden_19 : decode cX11_garden 19 = .ok (.ldc2_w 58, 3) := by decide +kernel
theorem dX11_garden_22 : decode cX11_garden 22 = .ok (.invokestatic 49, 3) := by decide +kernel
theorem dX11_garden_25 : decode cX11_garden 25 = .ok (.ifCond .ne 10, 3) := by decide +kernel
theorem dX11_garden_35 : decode cX11_garden 35 = .ok (.aload_n 0, 1) := by decide +kernel
theorem dX11_garden_36 : decode cX11_garden 36 = .ok (.getfield 7, 3) := by decide +kernel
theorem dX11_garden_39 : decode cX11_garden 39 = .ok (.iload_n 1, 1) := by decide +kernel
theorem dX11_garden_40 : decode cX11_garden 40 = .ok (.iload_n 2, 1) := by decide +kernel
set_option maxRecDepth 20000 in
theorem ggX11_garden_X11_begin : GoodIn wsX11_garden wsX11_begin := goodIn_r _ [15] (by decide +kernel) (by decide +kernel)
set_option maxRecDepth 20000 in
theorem gX11_garden_X11_begin : GoodIn wsX11_garden (va_wsS RX11 41 yX11_begin wsX11_begin) := goodIn_app (goodIn_of _ (by decide +kernel)) ggX11_garden_X11_begin
theorem dX11_garden_41 : decode cX11_garden 41 = .ok (.invokestatic 41, 3) := by decide +kernel
theorem dX11_garden_44 : decode cX11_garden 44 = .ok (.iload_n 1, 1) := by decide +kernel
theorem dX11_garden_45 : decode cX11_garden 45 = .ok (.iload_n 2, 1) := by decide +kernel
theorem dX11_garden_46 : decode cX11_garden 46 = .ok (.imul, 1) := by decide +kernel
theorem dX11_garden_47 : decode cX11_garden 47 = .ok (.ireturn, 1) := by decide +kernel
theorem dX11_garden_28 : decode cX11_garden 28 = .ok (.aload_n 0, 1) := by decide +kernel
theorem dX11_garden_29 : decode cX11_garden 29 = .ok (.bipush (-2), 2) := by decide +kernel
set_option maxRecDepth 20000 in
theorem ggX11_garden_X11_bad : GoodIn wsX11_garden wsX11_bad := goodIn_r _ [11, 12, 16, 17, 18, 19, 20, 21, 22, 23, 24, 25, 26, 27, 28, 29, 30, 31, 32, 33, 34] (by decide +kernel) (by decide +kernel)
set_option maxRecDepth 20000 in
theorem gX11_garden_X11_bad : GoodIn wsX11_garden (wsV RX11 60 RX11 yX11_bad wsX11_bad) := goodIn_app (goodIn_of _ (by decide +kernel)) ggX11_garden_X11_bad
theorem dX11_garden_31 : decode cX11_garden 31 = .ok (.invokevirtual 60, 3) := by decide +kernel
theorem dX11_garden_34 : decode cX11_garden 34 = .ok (.ireturn, 1) := by decide +kernel
theorem dX11_set_0 : decode cX11_set 0 = .ok (.iload_n 1, 1) := by decide +kernel
theorem dX11_set_1 : decode cX11_set 1 = .ok (.i2l, 1) := by decide +kernel
theorem dX11_set_2 : decode cX11_set 2 = .ok (.lconst 0, 1) := by decide +kernel
theorem dX11_set_3 : decode cX11_set 3 = .ok (.lconst 1, 1) := by decide +kernel
set_option maxRecDepth 20000 in
theorem ggX11_set_X11_in : GoodIn wsX11_set wsX11_in := goodIn_r _ [5] (by decide +kernel) (by decide +kernel)
set_option maxRecDepth 20000 in
theorem gX11_set_X11_in : GoodIn wsX11_set (va_wsS RX11 49 yX11_in wsX11_in) := goodIn_app (goodIn_of _ (by decide +kernel)) ggX11_set_X11_in
theorem dX11_set_4 : decode cX11_set 4 = .ok (.invokestatic 49, 3) := by decide +kernel
theorem dX11_set_7 : decode cX11_set 7 = .ok (.ifCond .eq 11, 3) := by decide +kernel
theorem dX11_set_10 : decode cX11_set 10 = .ok (.aload_n 0, 1) := by decide +kernel
theorem dX11_set_11 : decode cX11_set 11 = .ok (.iload_n 2, 1) := by decide +kernel
set_option maxRecDepth 20000 in
theorem ggX11_set_X11_isSquare : GoodIn wsX11_set wsX11_isSquare := goodIn_r _ [9, 10, 11, 12, 4, 13, 1, 2, 3, 5, 26, 27, 28, 29, 30, 31, 32, 33, 34, 35, 36, 37, 38, 39, 40, 41, 42, 43, 44] (by decide +kernel) (by decide +kernel)
set_option maxRecDepth 20000 in
theorem gX11_set_X11_isSquare : GoodIn wsX11_set (wsV RX11 68 RX11 yX11_isSquare wsX11_isSquare) := goodIn_app (goodIn_of _ (by decide +kernel)) ggX11_set_X11_isSquare
theorem dX11_set_12 : decode cX11_set 12 = .ok (.invokevirtual 68, 3) := by decide +kernel
theorem dX11_set_15 : decode cX11_set 15 = .ok (.ifCond .ne 10, 3) := by decide +kernel
theorem dX11_set_25 : decode cX11_set 25 = .ok (.iload_n 1, 1) := by decide +kernel
theorem dX11_set_26 : decode cX11_set 26 = .ok (.ifCond .ne 8, 3) := by decide +kernel
theorem dX11_set_34 : decode cX11_set 34 = .ok (.bipush 56, 2) := by decide +kernel
theorem dX11_set_36 : decode cX11_set 36 = .ok (.iload_n 2, 1) := by decide +kernel
theorem dX11_set_37 : decode cX11_set 37 = .ok (.iadd, 1) := by decide +kernel
theorem dX11_set_38 : decode cX11_set 38 = .ok (.istore 4, 2) := by decide +kernel
theorem dX11_set_40 : decode cX11_set 40 = .ok (.iload_n 3, 1) := by decide +kernel
theorem dX11_set_41 : decode cX11_set 41 = .ok (.ifCond .eq 7, 3) := by decide +kernel
theorem dX11_set_48 : decode cX11_set 48 = .ok (.iconst 0, 1) := by decide +kernel
theorem dX11_set_49 : decode cX11_set 49 = .ok (.istore 5, 2) := by decide +kernel
theorem dX11_set_51 : decode cX11_set 51 = .ok (.aload_n 0, 1) := by decide +kernel
theorem dX11_set_52 : decode cX11_set 52 = .ok (.getfield 7, 3) := by decide +kernel
theorem dX11_set_55 : decode cX11_set 55 = .ok (.iload 4, 2) := by decide +kernel
theorem dX11_set_57 : decode cX11_set 57 = .ok (.iaload, 1) := by decide +kernel
theorem dX11_set_58 : decode cX11_set 58 = .ok (.iload 5, 2) := by decide +kernel
theorem dX11_set_60 : decode cX11_set 60 = .ok (.if_icmp .eq 19, 3) := by decide +kernel
theorem dX11_set_79 : decode cX11_set 79 = .ok (.aload_n 0, 1) := by decide +kernel
theorem dX11_set_80 : decode cX11_set 80 = .ok (.bipush (-3), 2) := by decide +kernel
set_option maxRecDepth 20000 in
theorem ggX11_set_X11_no : GoodIn wsX11_set wsX11_no := goodIn_r _ [25, 18, 26, 27, 28, 29, 30, 31, 32, 33, 34, 35, 36, 37, 38, 39, 40, 41, 42, 43, 44] (by decide +kernel) (by decide +kernel)
set_option maxRecDepth 20000 in
theorem gX11_set_X11_no : GoodIn wsX11_set (wsV RX11 72 RX11 yX11_no wsX11_no) := goodIn_app (goodIn_of _ (by decide +kernel)) ggX11_set_X11_no
theorem dX11_set_82 : decode cX11_set 82 = .ok (.invokevirtual 72, 3) := by decide +kernel
theorem dX11_set_85 : decode cX11_set 85 = .ok (.ireturn, 1) := by decide +kernel
theorem dX11_set_44 : decode cX11_set 44 = .ok (.iconst 1, 1) := by decide +kernel
theorem dX11_set_45 : decode cX11_set 45 = .ok (.goto 4, 3) := by decide +kernel
theorem dX11_set_63 : decode cX11_set 63 = .ok (.iload_n 1, 1) := by decide +kernel
theorem dX11_set_64 : decode cX11_set 64 = .ok (.ifCond .ne 22, 3) := by decide +kernel
theorem dX11_set_86 : decode cX11_set 86 = .ok (.aload_n 0, 1) := by decide +kernel
theorem dX11_set_87 : decode cX11_set 87 = .ok (.getfield 7, 3) := by decide +kernel
theorem dX11_set_90 : decode cX11_set 90 = .ok (.iload 4, 2) := by decide +kernel
theorem dX11_set_92 : decode cX11_set 92 = .ok (.iload 5, 2) := by decide +kernel
theorem dX11_set_94 : decode cX11_set 94 = .ok (.iastore, 1) := by decide +kernel
theorem dX11_set_95 : decode cX11_set 95 = .ok (.iconst 1, 1) := by decide +kernel
theorem dX11_set_96 : decode cX11_set 96 = .ok (.ireturn, 1) := by decide +kernel
theorem dX11_set_67 : decode cX11_set 67 = .ok (.aload_n 0, 1) := by decide +kernel
theorem dX11_set_68 : decode cX11_set 68 = .ok (.getfield 7, 3) := by decide +kernel
theorem dX11_set_71 : decode cX11_set 71 = .ok (.iload_n 2, 1) := by decide +kernel
theorem dX11_set_72 : decode cX11_set 72 = .ok (.iconst (-1), 1) := by decide +kernel
set_option maxRecDepth 20000 in
theorem ggX11_set_X11_isStood : GoodIn wsX11_set wsX11_isStood := goodIn_r _ [21] (by decide +kernel) (by decide +kernel)
set_option maxRecDepth 20000 in
theorem gX11_set_X11_isStood : GoodIn wsX11_set (va_wsS RX11 64 yX11_isStood wsX11_isStood) := goodIn_app (goodIn_of _ (by decide +kernel)) ggX11_set_X11_isStood
theorem dX11_set_73 : decode cX11_set 73 = .ok (.invokestatic 64, 3) := by decide +kernel
theorem dX11_set_76 : decode cX11_set 76 = .ok (.ifCond .eq 10, 3) := by decide +kernel
theorem dX11_set_29 : decode cX11_set 29 = .ok (.bipush 20, 2) := by decide +kernel
theorem dX11_set_31 : decode cX11_set 31 = .ok (.goto 5, 3) := by decide +kernel
theorem dX11_set_18 : decode cX11_set 18 = .ok (.aload_n 0, 1) := by decide +kernel
theorem dX11_set_19 : decode cX11_set 19 = .ok (.bipush (-2), 2) := by decide +kernel
set_option maxRecDepth 20000 in
theorem ggX11_set_X11_bad : GoodIn wsX11_set wsX11_bad := goodIn_r _ [17, 18, 26, 27, 28, 29, 30, 31, 32, 33, 34, 35, 36, 37, 38, 39, 40, 41, 42, 43, 44] (by decide +kernel) (by decide +kernel)
set_option maxRecDepth 20000 in
theorem gX11_set_X11_bad : GoodIn wsX11_set (wsV RX11 60 RX11 yX11_bad wsX11_bad) := goodIn_app (goodIn_of _ (by decide +kernel)) ggX11_set_X11_bad
theorem dX11_set_21 : decode cX11_set 21 = .ok (.invokevirtual 60, 3) := by decide +kernel
theorem dX11_set_24 : decode cX11_set 24 = .ok (.ireturn, 1) := by decide +kernel
set_option maxHeartbeats 4000000 in
set_option maxRecDepth 100000 in
theorem mt_garden (l : Launch) (D : va_G) (cy : Nat → ClassId) (mm nw kp ik rf sd fr qu me by_ nx : Nat) (F : Nat → Int32) (x y : Int32) (sz : Nat) (h0 : F 0 = 6) (h1 : F 1 = 6) (h2 : F 2 = 1) (hz : ∀ k, 3 ≤ k → k < 122 → F k = 0) : Met l yX11_garden wsX11_garden ({ frames := 1, cells := 0, slots := 0, locals := 25 }) (va_Pc [.ref mm, .int x, .int y] (kPre D cy [(mm, .inr (11, [.ref nw, .ref kp, .ref ik, .ref rf, .int 0, .int 0, .ref sd, .ref fr, .ref qu, .int 0, .ref me, .ref by_, .int 0, .int 0, .int 0, .int 0, .int 0, .ref nx, .int 0])), (nw, .inl (cy 1, 122, .inl F)), (rf, .inl (cy 1, 3, .inl (fun _ => 0)))] sz)) (va_Qi (fun (r : Int32) (_ : Unit) => r = sp_garden x y) (fun (u : Unit) t => va_P D vwCl ([]) t.heap ∧ va_D (va_A [(mm, .inr (11, [.ref nw, .ref kp, .ref ik, .ref rf, .int 0, .int 0, .ref sd, .ref fr, .ref qu, .int 0, .ref me, .ref by_, .int 0, .int 0, .int 0, .int 0, .int 0, .ref nx, .int 0])), (nw, .inl (cy 1, 122, .inl F)), (rf, .inl (cy 1, 3, .inl (fun _ => 0)))] sz) ([])) (va_A [(mm, .inr (11, [.ref nw, .ref kp, .ref ik, .ref rf, .int 0, .int 0, .ref sd, .ref fr, .ref qu, .int 0, .ref me, .ref by_, .int 0, .int 0, .int 0, .int 0, .int 0, .ref nx, .int 0])), (nw, .inl (cy 1, 122, .inl F)), (rf, .inl (cy 1, 3, .inl (fun _ => 0)))] sz)) 0 0 (va_A [(mm, .inr (11, [.ref nw, .ref kp, .ref ik, .ref rf, .int 0, .int 0, .ref sd, .ref fr, .ref qu, .int 0, .ref me, .ref by_, .int 0, .int 0, .int 0, .int 0, .int 0, .ref nx, .int 0])), (nw, .inl (cy 1, 122, .inl F)), (rf, .inl (cy 1, 3, .inl (fun _ => 0)))] sz) := by
  refine Met.ofW (cc := cX11_garden) (maxL := 3) (ret := (some .int)) (by decide) rfl ?_
  intro p e s m args below meth c s₁ B hml hv
  obtain ⟨rfl, hsz, hP, hKA, hD0⟩ := hv
  have hx := B.exec
  have hb := B.bytes
  have hr := B.returns
  have hts := atoms_spec (ws := wsX11_garden) B.pre
  have hown : s.vm.findClass RX11 = some m.cls := findClass_of_methodNamed B.named
  have hlocks := B.notSynchronized
  subst hsz
  have hK := hKA.1
  have hD := hD0.self (sz := s.heap.size)
  generalize hAe : va_A [(mm, .inr (11, [.ref nw, .ref kp, .ref ik, .ref rf, .int 0, .int 0, .ref sd, .ref fr, .ref qu, .int 0, .ref me, .ref by_, .int 0, .int 0, .int 0, .int 0, .int 0, .ref nx, .int 0])), (nw, .inl (cy 1, 122, .inl F)), (rf, .inl (cy 1, 3, .inl (fun _ => 0)))] s.heap.size = A at hD ⊢
  have hA : ∀ q : Nat, s.heap.size ≤ q → A q := fun q h => by rw [← hAe]; exact Or.inr h
  have hS : va_S A s.heap s.heap [] := va_S.rf
  have hP : va_P D vwCl [(mm, .inr (11, [.ref nw, .ref kp, .ref ik, .ref rf, .int 0, .int 0, .ref sd, .ref fr, .ref qu, .int 0, .ref me, .ref by_, .int 0, .int 0, .int 0, .int 0, .int 0, .ref nx, .int 0])), (nw, .inl (cy 1, 122, .inl F)), (rf, .inl (cy 1, 3, .inl (fun _ => 0)))] s.heap := hP
  have hl := lv_entry ([.ref mm, .int x, .int y]) (n := 3) (Nat.le_of_ble_eq_true rfl)
  rw [lg_entry_eq]
  generalize (lg_sl ([.ref mm, .int x, .int y]) ++ List.replicate (3 - (lg_sl ([.ref mm, .int x, .int y])).length) Slot.unset).toArray = ls at hl ⊢
  have hl : lv_has ls 3 [(0, .ref mm), (1, .int x), (2, .int y)] := hl
  have z0_ := hts (.constantLong RX11 56 2) (by decide +kernel)
  have z1_ := hts (.constantLong RX11 58 6) (by decide +kernel)
  have z2_ := hts (.fieldLink RX11 7 "HeardSeenModel" "now" "[I") (by decide +kernel)
  have zi11_ : ∀ w ∈ u_ws RX11 TX11 19, w ∈ wsX11_garden := by decide +kernel
  refine lv_iload_n hx hb dX11_garden_0 rfl (lv_at hl 1 rfl) ?_
  refine lv_i2l hx hb dX11_garden_1 rfl ?_
  refine lv_ldc2 hx hb hown z0_ dX11_garden_2 ?_
  refine lv_ldc2 hx hb hown z1_ dX11_garden_5 ?_
  refine rd_i (va_runS (As := [.long x.toInt64, .long 2, .long 6]) (rest := []) ⟨hx, hb, hml, hown, hts⟩ (c_X11_in l D cy x.toInt64 2 6 _) (va_cwS 3 hts gX11_garden_X11_in rfl rfl rfl (by decide +kernel) ⟨Nat.le_of_ble_eq_true rfl, Nat.le_of_ble_eq_true rfl⟩) (pS hKA pE (dE (A := A))) rfl rfl hl.1 rfl (lv_room (Nat.le_of_ble_eq_true rfl)) dX11_garden_8 ⟨Nat.le_of_ble_eq_true rfl, Nat.le_of_ble_eq_true rfl⟩) hP hS hA (fun r1 H locs hwr1 hP hS => ?_)
  rcases hwr1 with ⟨rfl, har1, hbr1⟩ | ⟨rfl, hnr1⟩
  · skip
    have har1 : 2 ≤ x := (z_w 2 (by decide)).1.mp har1
    have hbr1 : x ≤ 6 := (z_w 6 (by decide)).2.mp hbr1
    refine lv_if_eq (tgt := 28) hx hb dX11_garden_11 (by decide) (fun c2 => absurd c2 (by decide)) (fun c2 => ?_)
    refine lv_iload_n hx hb dX11_garden_14 rfl (lv_at hl 2 rfl) ?_
    refine lv_i2l hx hb dX11_garden_15 rfl ?_
    refine lv_ldc2 hx hb hown z0_ dX11_garden_16 ?_
    refine lv_ldc2 hx hb hown z1_ dX11_garden_19 ?_
    refine rd_i (va_runS (As := [.long y.toInt64, .long 2, .long 6]) (rest := []) ⟨hx, hb, hml, hown, hts⟩ (c_X11_in l D cy y.toInt64 2 6 _) (va_cwS 3 hts gX11_garden_X11_in rfl rfl rfl (by decide +kernel) ⟨Nat.le_of_ble_eq_true rfl, Nat.le_of_ble_eq_true rfl⟩) (pS hKA pE (dE (A := A))) rfl rfl hl.1 rfl (lv_room (Nat.le_of_ble_eq_true rfl)) dX11_garden_22 ⟨Nat.le_of_ble_eq_true rfl, Nat.le_of_ble_eq_true rfl⟩) hP hS hA (fun r3 H locs hwr3 hP hS => ?_)
    rcases hwr3 with ⟨rfl, har3, hbr3⟩ | ⟨rfl, hnr3⟩
    · skip
      have har3 : 2 ≤ y := (z_w 2 (by decide)).1.mp har3
      have hbr3 : y ≤ 6 := (z_w 6 (by decide)).2.mp hbr3
      refine lv_if_ne (tgt := 35) hx hb dX11_garden_25 (by decide) (fun c4 => ?_) (fun c4 => absurd c4 (by decide))
      refine lv_aload_n hx hb dX11_garden_35 rfl (lv_at hl 0 rfl) ?_
      refine va_get (D := D) (ci := 11) (v := .ref nw) (C := RX11) (T := TX11) (N := 19) hx hb hts zi11_ hown hK hP 0 rfl rfl 0 (by decide) z2_ (fun _ h9 => h9) rfl dX11_garden_36 ?_
      refine lv_iload_n hx hb dX11_garden_39 rfl (lv_at hl 1 rfl) ?_
      refine lv_iload_n hx hb dX11_garden_40 rfl (lv_at hl 2 rfl) ?_
      refine wr_v (wr := [(mm, .inr (11, [.ref nw, .ref kp, .ref ik, .ref rf, .int 0, .int 0, .ref sd, .ref fr, .ref qu, .int 0, .ref me, .ref by_, .int 0, .int 0, .int 0, .int 0, .int 0, .ref nx, .int 0])), (rf, .inl (cy 1, 3, .inl (fun _ => 0)))]) (va_runS (As := [.ref nw, .int x, .int y]) (rest := []) ⟨hx, hb, hml, hown, hts⟩ (c_X11_begin l D cy nw F x y _) (va_cwS 3 hts gX11_garden_X11_begin rfl rfl rfl (by decide +kernel) ⟨Nat.le_of_ble_eq_true rfl, Nat.le_of_ble_eq_true rfl⟩) (pS hKA (hP.sub (ws' := [(nw, .inl (cy 1, 122, .inl F))]) [1] rfl) (hD.sub (ws' := [(nw, .inl (cy 1, 122, .inl F))]) [1] (by decide) rfl)) rfl rfl hl.1 rfl (lv_room (Nat.le_of_ble_eq_true rfl)) dX11_garden_41 ⟨Nat.le_of_ble_eq_true rfl, Nat.le_of_ble_eq_true rfl⟩) hP hD hS hA [1] [0, 2] rfl rfl (by decide +kernel) (by decide +kernel) (fun ur5 H locs hwr5 hP hD hS => ?_)
      obtain ⟨row6, rfl⟩ : ∃ z, z = ur5 := ⟨_, rfl⟩
      have hP : va_P D vwCl [(mm, .inr (11, [.ref nw, .ref kp, .ref ik, .ref rf, .int 0, .int 0, .ref sd, .ref fr, .ref qu, .int 0, .ref me, .ref by_, .int 0, .int 0, .int 0, .int 0, .int 0, .ref nx, .int 0])), (rf, .inl (cy 1, 3, .inl (fun _ => 0))), (nw, .inl (cy 1, 122, .inl row6))] H := hP
      have hD : va_D A [(mm, .inr (11, [.ref nw, .ref kp, .ref ik, .ref rf, .int 0, .int 0, .ref sd, .ref fr, .ref qu, .int 0, .ref me, .ref by_, .int 0, .int 0, .int 0, .int 0, .int 0, .ref nx, .int 0])), (rf, .inl (cy 1, 3, .inl (fun _ => 0))), (nw, .inl (cy 1, 122, .inl row6))] := hD
      refine lv_iload_n hx hb dX11_garden_44 rfl (lv_at hl 1 rfl) ?_
      refine lv_iload_n hx hb dX11_garden_45 rfl (lv_at hl 2 rfl) ?_
      refine lv_imul hx hb dX11_garden_46 ?_
      have hP9 := hP.sub (ws' := []) [] rfl
      have hD9 := hD.sub (ws' := []) [] (by decide) rfl
      exact W.iret (v := x * y) hx hb hr (fun t ht hW => ⟨⟨x * y, (), rfl, (by simp [sp_garden, har1, hbr1, har3, hbr3]), by rw [ht]; exact hP9, hD9⟩, hS.F ht⟩) hS.2.2 dX11_garden_47
    · skip
      have hnr3 : ¬ (2 ≤ y ∧ y ≤ 6) := fun q => hnr3 ⟨(z_w 2 (by decide)).1.mpr q.1, (z_w 6 (by decide)).2.mpr q.2⟩
      refine lv_if_ne (tgt := 35) hx hb dX11_garden_25 (by decide) (fun c7 => absurd c7 (by decide)) (fun c7 => ?_)
      refine lv_aload_n hx hb dX11_garden_28 rfl (lv_at hl 0 rfl) ?_
      refine lv_bipush (v := (-2)) hx hb dX11_garden_29 (by decide) ?_
      refine wr_i (wr := [(nw, .inl (cy 1, 122, .inl F))]) (va_runV (As := [.int (-2)]) (rest := []) ⟨hx, hb, hml, hown, hts⟩ (m_bad l D cy mm nw kp ik rf sd fr qu me by_ nx (fun _ => 0) (-2) _) (cwV 1 hts gX11_garden_X11_bad rfl rfl rfl (by decide +kernel) ⟨Nat.le_of_ble_eq_true rfl, Nat.le_of_ble_eq_true rfl⟩) (pV (ci := 11) (k := 0) hKA (hP.sub (ws' := [(mm, .inr (11, [.ref nw, .ref kp, .ref ik, .ref rf, .int 0, .int 0, .ref sd, .ref fr, .ref qu, .int 0, .ref me, .ref by_, .int 0, .int 0, .int 0, .int 0, .int 0, .ref nx, .int 0])), (rf, .inl (cy 1, 3, .inl (fun _ => 0)))]) [0, 2] rfl) (hD.sub (ws' := [(mm, .inr (11, [.ref nw, .ref kp, .ref ik, .ref rf, .int 0, .int 0, .ref sd, .ref fr, .ref qu, .int 0, .ref me, .ref by_, .int 0, .int 0, .int 0, .int 0, .int 0, .ref nx, .int 0])), (rf, .inl (cy 1, 3, .inl (fun _ => 0)))]) [0, 2] (by decide) rfl) rfl rfl) rfl rfl hl.1 rfl (lv_room (Nat.le_of_ble_eq_true rfl)) dX11_garden_31 ⟨Nat.le_of_ble_eq_true rfl, Nat.le_of_ble_eq_true rfl⟩) hP hD hS hA [0, 2] [1] rfl rfl (by decide +kernel) (by decide +kernel) (fun r8 ur8 H locs hwr8 hP hD hS => ?_)
      have hP : va_P D vwCl [(nw, .inl (cy 1, 122, .inl F))] H := hP
      have hD : va_D A [(nw, .inl (cy 1, 122, .inl F))] := hD
      subst hwr8
      have hP9 := hP.sub (ws' := []) [] rfl
      have hD9 := hD.sub (ws' := []) [] (by decide) rfl
      exact W.iret (v := (-2)) hx hb hr (fun t ht hW => ⟨⟨(-2), (), rfl, (by simp [sp_garden, har1, hbr1, hnr3]), by rw [ht]; exact hP9, hD9⟩, hS.F ht⟩) hS.2.2 dX11_garden_34
  · skip
    have hnr1 : ¬ (2 ≤ x ∧ x ≤ 6) := fun q => hnr1 ⟨(z_w 2 (by decide)).1.mpr q.1, (z_w 6 (by decide)).2.mpr q.2⟩
    refine lv_if_eq (tgt := 28) hx hb dX11_garden_11 (by decide) (fun c9 => ?_) (fun c9 => absurd c9 (by decide))
    refine lv_aload_n hx hb dX11_garden_28 rfl (lv_at hl 0 rfl) ?_
    refine lv_bipush (v := (-2)) hx hb dX11_garden_29 (by decide) ?_
    refine wr_i (wr := [(nw, .inl (cy 1, 122, .inl F))]) (va_runV (As := [.int (-2)]) (rest := []) ⟨hx, hb, hml, hown, hts⟩ (m_bad l D cy mm nw kp ik rf sd fr qu me by_ nx (fun _ => 0) (-2) _) (cwV 1 hts gX11_garden_X11_bad rfl rfl rfl (by decide +kernel) ⟨Nat.le_of_ble_eq_true rfl, Nat.le_of_ble_eq_true rfl⟩) (pV (ci := 11) (k := 0) hKA (hP.sub (ws' := [(mm, .inr (11, [.ref nw, .ref kp, .ref ik, .ref rf, .int 0, .int 0, .ref sd, .ref fr, .ref qu, .int 0, .ref me, .ref by_, .int 0, .int 0, .int 0, .int 0, .int 0, .ref nx, .int 0])), (rf, .inl (cy 1, 3, .inl (fun _ => 0)))]) [0, 2] rfl) (hD.sub (ws' := [(mm, .inr (11, [.ref nw, .ref kp, .ref ik, .ref rf, .int 0, .int 0, .ref sd, .ref fr, .ref qu, .int 0, .ref me, .ref by_, .int 0, .int 0, .int 0, .int 0, .int 0, .ref nx, .int 0])), (rf, .inl (cy 1, 3, .inl (fun _ => 0)))]) [0, 2] (by decide) rfl) rfl rfl) rfl rfl hl.1 rfl (lv_room (Nat.le_of_ble_eq_true rfl)) dX11_garden_31 ⟨Nat.le_of_ble_eq_true rfl, Nat.le_of_ble_eq_true rfl⟩) hP hD hS hA [0, 2] [1] rfl rfl (by decide +kernel) (by decide +kernel) (fun r10 ur10 H locs hwr10 hP hD hS => ?_)
    have hP : va_P D vwCl [(nw, .inl (cy 1, 122, .inl F))] H := hP
    have hD : va_D A [(nw, .inl (cy 1, 122, .inl F))] := hD
    subst hwr10
    have hP9 := hP.sub (ws' := []) [] rfl
    have hD9 := hD.sub (ws' := []) [] (by decide) rfl
    exact W.iret (v := (-2)) hx hb hr (fun t ht hW => ⟨⟨(-2), (), rfl, (by simp [sp_garden, hnr1]), by rw [ht]; exact hP9, hD9⟩, hS.F ht⟩) hS.2.2 dX11_garden_34

set_option maxHeartbeats 4000000 in
set_option maxRecDepth 100000 in
theorem mt_set (l : Launch) (D : va_G) (cy : Nat → ClassId) (mm nw kp ik rf sd fr qu me by_ nx : Nat) (F : Nat → Int32) (x y i : Int32) (sz : Nat) (h0 : F 0 = 6) (h1 : F 1 = 6) (h2 : F 2 = 1) (hz : ∀ k, 3 ≤ k → k < 122 → F k = 0) : Met l yX11_set wsX11_set ({ frames := 2, cells := 0, slots := 0, locals := 46 }) (va_Pc [.ref mm, .int x, .int y, .int i] (kPre D cy [(mm, .inr (11, [.ref nw, .ref kp, .ref ik, .ref rf, .int 0, .int 0, .ref sd, .ref fr, .ref qu, .int 0, .ref me, .ref by_, .int 0, .int 0, .int 0, .int 0, .int 0, .ref nx, .int 0])), (nw, .inl (cy 1, 122, .inl F)), (rf, .inl (cy 1, 3, .inl (fun _ => 0)))] sz)) (va_Qi (fun (r : Int32) (_ : Unit) => r = sp_set x y i) (fun (u : Unit) t => va_P D vwCl ([]) t.heap ∧ va_D (va_A [(mm, .inr (11, [.ref nw, .ref kp, .ref ik, .ref rf, .int 0, .int 0, .ref sd, .ref fr, .ref qu, .int 0, .ref me, .ref by_, .int 0, .int 0, .int 0, .int 0, .int 0, .ref nx, .int 0])), (nw, .inl (cy 1, 122, .inl F)), (rf, .inl (cy 1, 3, .inl (fun _ => 0)))] sz) ([])) (va_A [(mm, .inr (11, [.ref nw, .ref kp, .ref ik, .ref rf, .int 0, .int 0, .ref sd, .ref fr, .ref qu, .int 0, .ref me, .ref by_, .int 0, .int 0, .int 0, .int 0, .int 0, .ref nx, .int 0])), (nw, .inl (cy 1, 122, .inl F)), (rf, .inl (cy 1, 3, .inl (fun _ => 0)))] sz)) 0 0 (va_A [(mm, .inr (11, [.ref nw, .ref kp, .ref ik, .ref rf, .int 0, .int 0, .ref sd, .ref fr, .ref qu, .int 0, .ref me, .ref by_, .int 0, .int 0, .int 0, .int 0, .int 0, .ref nx, .int 0])), (nw, .inl (cy 1, 122, .inl F)), (rf, .inl (cy 1, 3, .inl (fun _ => 0)))] sz) := by
  refine Met.ofW (cc := cX11_set) (maxL := 6) (ret := (some .int)) (by decide) rfl ?_
  intro p e s m args below meth c s₁ B hml hv
  obtain ⟨rfl, hsz, hP, hKA, hD0⟩ := hv
  have hx := B.exec
  have hb := B.bytes
  have hr := B.returns
  have hts := atoms_spec (ws := wsX11_set) B.pre
  have hown : s.vm.findClass RX11 = some m.cls := findClass_of_methodNamed B.named
  have hlocks := B.notSynchronized
  subst hsz
  have hK := hKA.1
  have hD := hD0.self (sz := s.heap.size)
  generalize hAe : va_A [(mm, .inr (11, [.ref nw, .ref kp, .ref ik, .ref rf, .int 0, .int 0, .ref sd, .ref fr, .ref qu, .int 0, .ref me, .ref by_, .int 0, .int 0, .int 0, .int 0, .int 0, .ref nx, .int 0])), (nw, .inl (cy 1, 122, .inl F)), (rf, .inl (cy 1, 3, .inl (fun _ => 0)))] s.heap.size = A at hD ⊢
  have hA : ∀ q : Nat, s.heap.size ≤ q → A q := fun q h => by rw [← hAe]; exact Or.inr h
  have hS : va_S A s.heap s.heap [] := va_S.rf
  have hP : va_P D vwCl [(mm, .inr (11, [.ref nw, .ref kp, .ref ik, .ref rf, .int 0, .int 0, .ref sd, .ref fr, .ref qu, .int 0, .ref me, .ref by_, .int 0, .int 0, .int 0, .int 0, .int 0, .ref nx, .int 0])), (nw, .inl (cy 1, 122, .inl F)), (rf, .inl (cy 1, 3, .inl (fun _ => 0)))] s.heap := hP
  have hl := lv_entry ([.ref mm, .int x, .int y, .int i]) (n := 6) (Nat.le_of_ble_eq_true rfl)
  rw [lg_entry_eq]
  generalize (lg_sl ([.ref mm, .int x, .int y, .int i]) ++ List.replicate (6 - (lg_sl ([.ref mm, .int x, .int y, .int i])).length) Slot.unset).toArray = ls at hl ⊢
  have hl : lv_has ls 6 [(0, .ref mm), (1, .int x), (2, .int y), (3, .int i)] := hl
  have z0_ := hts (.fieldLink RX11 7 "HeardSeenModel" "now" "[I") (by decide +kernel)
  have zi11_ : ∀ w ∈ u_ws RX11 TX11 19, w ∈ wsX11_set := by decide +kernel
  refine lv_iload_n hx hb dX11_set_0 rfl (lv_at hl 1 rfl) ?_
  refine lv_i2l hx hb dX11_set_1 rfl ?_
  refine lv_lconst (v := 0) hx hb dX11_set_2 (by decide) ?_
  refine lv_lconst (v := 1) hx hb dX11_set_3 (by decide) ?_
  refine rd_i (va_runS (As := [.long x.toInt64, .long 0, .long 1]) (rest := []) ⟨hx, hb, hml, hown, hts⟩ (c_X11_in l D cy x.toInt64 0 1 _) (va_cwS 3 hts gX11_set_X11_in rfl rfl rfl (by decide +kernel) ⟨Nat.le_of_ble_eq_true rfl, Nat.le_of_ble_eq_true rfl⟩) (pS hKA pE (dE (A := A))) rfl rfl hl.1 rfl (lv_room (Nat.le_of_ble_eq_true rfl)) dX11_set_4 ⟨Nat.le_of_ble_eq_true rfl, Nat.le_of_ble_eq_true rfl⟩) hP hS hA (fun r1 H locs hwr1 hP hS => ?_)
  rcases hwr1 with ⟨rfl, har1, hbr1⟩ | ⟨rfl, hnr1⟩
  · skip
    have har1 : 0 ≤ x := (z_w 0 (by decide)).1.mp har1
    have hbr1 : x ≤ 1 := (z_w 1 (by decide)).2.mp hbr1
    refine lv_if_eq (tgt := 18) hx hb dX11_set_7 (by decide) (fun c2 => absurd c2 (by decide)) (fun c2 => ?_)
    refine lv_aload_n hx hb dX11_set_10 rfl (lv_at hl 0 rfl) ?_
    refine lv_iload_n hx hb dX11_set_11 rfl (lv_at hl 2 rfl) ?_
    refine rd_i (va_runV (As := [.int y]) (rest := []) ⟨hx, hb, hml, hown, hts⟩ (m_isSquare l D cy mm nw kp ik rf sd fr qu me by_ nx F y _ h0 h1 h2 hz) (cwV 1 hts gX11_set_X11_isSquare rfl rfl rfl (by decide +kernel) ⟨Nat.le_of_ble_eq_true rfl, Nat.le_of_ble_eq_true rfl⟩) (pV (ci := 11) (k := 0) hKA (hP.sub (ws' := [(mm, .inr (11, [.ref nw, .ref kp, .ref ik, .ref rf, .int 0, .int 0, .ref sd, .ref fr, .ref qu, .int 0, .ref me, .ref by_, .int 0, .int 0, .int 0, .int 0, .int 0, .ref nx, .int 0])), (nw, .inl (cy 1, 122, .inl F))]) [0, 1] rfl) (hD.sub (ws' := [(mm, .inr (11, [.ref nw, .ref kp, .ref ik, .ref rf, .int 0, .int 0, .ref sd, .ref fr, .ref qu, .int 0, .ref me, .ref by_, .int 0, .int 0, .int 0, .int 0, .int 0, .ref nx, .int 0])), (nw, .inl (cy 1, 122, .inl F))]) [0, 1] (by decide) rfl) rfl rfl) rfl rfl hl.1 rfl (lv_room (Nat.le_of_ble_eq_true rfl)) dX11_set_12 ⟨Nat.le_of_ble_eq_true rfl, Nat.le_of_ble_eq_true rfl⟩) hP hS hA (fun r3 H locs hwr3 hP hS => ?_)
    rcases hwr3 with ⟨rfl, har3, hbr3⟩ | ⟨rfl, hnr3⟩
    · skip
      obtain ⟨jy, hjy, rfl⟩ := z_nn (n := 36) (by decide) har3 hbr3
      refine lv_if_ne (tgt := 25) hx hb dX11_set_15 (by decide) (fun c4 => ?_) (fun c4 => absurd c4 (by decide))
      refine lv_iload_n hx hb dX11_set_25 rfl (lv_at hl 1 rfl) ?_
      refine lv_if_ne (tgt := 34) hx hb dX11_set_26 (by decide) (fun c5 => ?_) (fun c5 => ?_)
      · skip
        refine lv_bipush (v := 56) hx hb dX11_set_34 (by decide) ?_
        refine lv_iload_n hx hb dX11_set_36 rfl (lv_at hl 2 rfl) ?_
        refine lv_iadd hx hb dX11_set_37 ?_
        refine lv_topi (fun x6 ex6 => ?_)
        obtain rfl : x6 = nI (56 + jy) := by rw [ex6]; exact nI_add _ _
        refine lv_istore (lv' := [(4, .int (nI (56 + jy))), (0, .ref mm), (1, .int x), (2, .int (nI jy)), (3, .int i)]) hx hb dX11_set_38 hl (by decide) rfl (fun ls hl => ?_)
        refine lv_iload_n hx hb dX11_set_40 rfl (lv_at hl 4 rfl) ?_
        refine lv_if_eq (tgt := 48) hx hb dX11_set_41 (by decide) (fun c7 => ?_) (fun c7 => ?_)
        · skip
          refine lv_iconst (v := 0) hx hb dX11_set_48 (by decide) ?_
          refine lv_istore (lv' := [(5, .int 0), (4, .int (nI (56 + jy))), (0, .ref mm), (1, .int x), (2, .int (nI jy)), (3, .int i)]) hx hb dX11_set_49 hl (by decide) rfl (fun ls hl => ?_)
          refine lv_aload_n hx hb dX11_set_51 rfl (lv_at hl 2 rfl) ?_
          refine va_get (D := D) (ci := 11) (v := .ref nw) (C := RX11) (T := TX11) (N := 19) hx hb hts zi11_ hown hK hP 0 rfl rfl 0 (by decide) z0_ (fun _ h9 => h9) rfl dX11_set_52 ?_
          refine lv_iload hx hb dX11_set_55 (lv_at hl 1 rfl) ?_
          refine my_iald hx hb hK hP 1 1 rfl rfl (vp_in_nI (by omega) (by decide)) (nI_clamp (by omega)) dX11_set_57 ?_
          rw [show F (56 + jy) = 0 from hz (56 + jy) (by omega) (by omega)]
          refine lv_iload hx hb dX11_set_58 (lv_at hl 0 rfl) ?_
          refine lv_icmp_eq (tgt := 79) hx hb dX11_set_60 (by decide) (fun c8 => ?_) (fun c8 => absurd c8 (by decide))
          refine lv_aload_n hx hb dX11_set_79 rfl (lv_at hl 2 rfl) ?_
          refine lv_bipush (v := (-3)) hx hb dX11_set_80 (by decide) ?_
          refine wr_i (wr := [(nw, .inl (cy 1, 122, .inl F))]) (va_runV (As := [.int (-3)]) (rest := []) ⟨hx, hb, hml, hown, hts⟩ (m_no l D cy mm nw kp ik rf sd fr qu me by_ nx (fun _ => 0) (-3) _) (cwV 1 hts gX11_set_X11_no rfl rfl rfl (by decide +kernel) ⟨Nat.le_of_ble_eq_true rfl, Nat.le_of_ble_eq_true rfl⟩) (pV (ci := 11) (k := 0) hKA (hP.sub (ws' := [(mm, .inr (11, [.ref nw, .ref kp, .ref ik, .ref rf, .int 0, .int 0, .ref sd, .ref fr, .ref qu, .int 0, .ref me, .ref by_, .int 0, .int 0, .int 0, .int 0, .int 0, .ref nx, .int 0])), (rf, .inl (cy 1, 3, .inl (fun _ => 0)))]) [0, 2] rfl) (hD.sub (ws' := [(mm, .inr (11, [.ref nw, .ref kp, .ref ik, .ref rf, .int 0, .int 0, .ref sd, .ref fr, .ref qu, .int 0, .ref me, .ref by_, .int 0, .int 0, .int 0, .int 0, .int 0, .ref nx, .int 0])), (rf, .inl (cy 1, 3, .inl (fun _ => 0)))]) [0, 2] (by decide) rfl) rfl rfl) rfl rfl hl.1 rfl (lv_room (Nat.le_of_ble_eq_true rfl)) dX11_set_82 ⟨Nat.le_of_ble_eq_true rfl, Nat.le_of_ble_eq_true rfl⟩) hP hD hS hA [0, 2] [1] rfl rfl (by decide +kernel) (by decide +kernel) (fun r9 ur9 H locs hwr9 hP hD hS => ?_)
          have hP : va_P D vwCl [(nw, .inl (cy 1, 122, .inl F))] H := hP
          have hD : va_D A [(nw, .inl (cy 1, 122, .inl F))] := hD
          subst hwr9
          have hP9 := hP.sub (ws' := []) [] rfl
          have hD9 := hD.sub (ws' := []) [] (by decide) rfl
          exact W.iret (v := (-3)) hx hb hr (fun t ht hW => ⟨⟨(-3), (), rfl, (by first | (simp [sp_set, har1, hbr1, har3, hbr3, (show i = 0 by assumption)]; done) | (simp [sp_set, har1, hbr1, har3, hbr3, (show ¬ i = 0 by assumption)]; done)), by rw [ht]; exact hP9, hD9⟩, hS.F ht⟩) hS.2.2 dX11_set_85
        · skip
          refine lv_iconst (v := 1) hx hb dX11_set_44 (by decide) ?_
          refine lv_goto (tgt := 49) hx hb dX11_set_45 (by decide) ?_
          refine lv_istore (lv' := [(5, .int 1), (4, .int (nI (56 + jy))), (0, .ref mm), (1, .int x), (2, .int (nI jy)), (3, .int i)]) hx hb dX11_set_49 hl (by decide) rfl (fun ls hl => ?_)
          refine lv_aload_n hx hb dX11_set_51 rfl (lv_at hl 2 rfl) ?_
          refine va_get (D := D) (ci := 11) (v := .ref nw) (C := RX11) (T := TX11) (N := 19) hx hb hts zi11_ hown hK hP 0 rfl rfl 0 (by decide) z0_ (fun _ h9 => h9) rfl dX11_set_52 ?_
          refine lv_iload hx hb dX11_set_55 (lv_at hl 1 rfl) ?_
          refine my_iald hx hb hK hP 1 1 rfl rfl (vp_in_nI (by omega) (by decide)) (nI_clamp (by omega)) dX11_set_57 ?_
          rw [show F (56 + jy) = 0 from hz (56 + jy) (by omega) (by omega)]
          refine lv_iload hx hb dX11_set_58 (lv_at hl 0 rfl) ?_
          refine lv_icmp_eq (tgt := 79) hx hb dX11_set_60 (by decide) (fun c10 => absurd c10 (by decide)) (fun c10 => ?_)
          refine lv_iload_n hx hb dX11_set_63 rfl (lv_at hl 3 rfl) ?_
          refine lv_if_ne (tgt := 86) hx hb dX11_set_64 (by decide) (fun c11 => ?_) (fun c11 => ?_)
          · skip
            refine lv_aload_n hx hb dX11_set_86 rfl (lv_at hl 2 rfl) ?_
            refine va_get (D := D) (ci := 11) (v := .ref nw) (C := RX11) (T := TX11) (N := 19) hx hb hts zi11_ hown hK hP 0 rfl rfl 0 (by decide) z0_ (fun _ h9 => h9) rfl dX11_set_87 ?_
            refine lv_iload hx hb dX11_set_90 (lv_at hl 1 rfl) ?_
            refine lv_iload hx hb dX11_set_92 (lv_at hl 0 rfl) ?_
            refine my_iast hx hb hK hP hD hS 1 1 rfl rfl (vp_in_nI (by omega) (by decide)) (nI_clamp (by omega)) dX11_set_94 (fun H locs hP hD hS => ?_)
            have hP : va_P D vwCl [(mm, .inr (11, [.ref nw, .ref kp, .ref ik, .ref rf, .int 0, .int 0, .ref sd, .ref fr, .ref qu, .int 0, .ref me, .ref by_, .int 0, .int 0, .int 0, .int 0, .int 0, .ref nx, .int 0])), (nw, .inl (cy 1, 122, .inl (upd F (56 + jy) 1))), (rf, .inl (cy 1, 3, .inl (fun _ => 0)))] H := hP
            have hD : va_D A [(mm, .inr (11, [.ref nw, .ref kp, .ref ik, .ref rf, .int 0, .int 0, .ref sd, .ref fr, .ref qu, .int 0, .ref me, .ref by_, .int 0, .int 0, .int 0, .int 0, .int 0, .ref nx, .int 0])), (nw, .inl (cy 1, 122, .inl (upd F (56 + jy) 1))), (rf, .inl (cy 1, 3, .inl (fun _ => 0)))] := hD
            refine lv_iconst (v := 1) hx hb dX11_set_95 (by decide) ?_
            have hP9 := hP.sub (ws' := []) [] rfl
            have hD9 := hD.sub (ws' := []) [] (by decide) rfl
            exact W.iret (v := 1) hx hb hr (fun t ht hW => ⟨⟨1, (), rfl, (by first | (simp [sp_set, har1, hbr1, har3, hbr3, (show i = 0 by assumption)]; done) | (simp [sp_set, har1, hbr1, har3, hbr3, (show ¬ i = 0 by assumption)]; done)), by rw [ht]; exact hP9, hD9⟩, hS.F ht⟩) hS.2.2 dX11_set_96
          · skip
            refine lv_aload_n hx hb dX11_set_67 rfl (lv_at hl 2 rfl) ?_
            refine va_get (D := D) (ci := 11) (v := .ref nw) (C := RX11) (T := TX11) (N := 19) hx hb hts zi11_ hown hK hP 0 rfl rfl 0 (by decide) z0_ (fun _ h9 => h9) rfl dX11_set_68 ?_
            refine lv_iload_n hx hb dX11_set_71 rfl (lv_at hl 4 rfl) ?_
            refine lv_iconst (v := (-1)) hx hb dX11_set_72 (by decide) ?_
            refine rd_i (va_runS (As := [.ref nw, .int (nI jy), .int (-1)]) (rest := []) ⟨hx, hb, hml, hown, hts⟩ (m_isStood l D cy nw F (nI jy) (-1) _ (hz 4 (by decide) (by decide))) (va_cwS 3 hts gX11_set_X11_isStood rfl rfl rfl (by decide +kernel) ⟨Nat.le_of_ble_eq_true rfl, Nat.le_of_ble_eq_true rfl⟩) (pS hKA (hP.sub (ws' := [(nw, .inl (cy 1, 122, .inl F))]) [1] rfl) (hD.sub (ws' := [(nw, .inl (cy 1, 122, .inl F))]) [1] (by decide) rfl)) rfl rfl hl.1 rfl (lv_room (Nat.le_of_ble_eq_true rfl)) dX11_set_73 ⟨Nat.le_of_ble_eq_true rfl, Nat.le_of_ble_eq_true rfl⟩) hP hS hA (fun r12 H locs hwr12 hP hS => ?_)
            rcases hwr12 with rfl
            · skip
              refine lv_if_eq (tgt := 86) hx hb dX11_set_76 (by decide) (fun c13 => ?_) (fun c13 => absurd c13 (by decide))
              refine lv_aload_n hx hb dX11_set_86 rfl (lv_at hl 2 rfl) ?_
              refine va_get (D := D) (ci := 11) (v := .ref nw) (C := RX11) (T := TX11) (N := 19) hx hb hts zi11_ hown hK hP 0 rfl rfl 0 (by decide) z0_ (fun _ h9 => h9) rfl dX11_set_87 ?_
              refine lv_iload hx hb dX11_set_90 (lv_at hl 1 rfl) ?_
              refine lv_iload hx hb dX11_set_92 (lv_at hl 0 rfl) ?_
              refine my_iast hx hb hK hP hD hS 1 1 rfl rfl (vp_in_nI (by omega) (by decide)) (nI_clamp (by omega)) dX11_set_94 (fun H locs hP hD hS => ?_)
              have hP : va_P D vwCl [(mm, .inr (11, [.ref nw, .ref kp, .ref ik, .ref rf, .int 0, .int 0, .ref sd, .ref fr, .ref qu, .int 0, .ref me, .ref by_, .int 0, .int 0, .int 0, .int 0, .int 0, .ref nx, .int 0])), (nw, .inl (cy 1, 122, .inl (upd F (56 + jy) 1))), (rf, .inl (cy 1, 3, .inl (fun _ => 0)))] H := hP
              have hD : va_D A [(mm, .inr (11, [.ref nw, .ref kp, .ref ik, .ref rf, .int 0, .int 0, .ref sd, .ref fr, .ref qu, .int 0, .ref me, .ref by_, .int 0, .int 0, .int 0, .int 0, .int 0, .ref nx, .int 0])), (nw, .inl (cy 1, 122, .inl (upd F (56 + jy) 1))), (rf, .inl (cy 1, 3, .inl (fun _ => 0)))] := hD
              refine lv_iconst (v := 1) hx hb dX11_set_95 (by decide) ?_
              have hP9 := hP.sub (ws' := []) [] rfl
              have hD9 := hD.sub (ws' := []) [] (by decide) rfl
              exact W.iret (v := 1) hx hb hr (fun t ht hW => ⟨⟨1, (), rfl, (by first | (simp [sp_set, har1, hbr1, har3, hbr3, (show i = 0 by assumption)]; done) | (simp [sp_set, har1, hbr1, har3, hbr3, (show ¬ i = 0 by assumption)]; done)), by rw [ht]; exact hP9, hD9⟩, hS.F ht⟩) hS.2.2 dX11_set_96
      · skip
        refine lv_bipush (v := 20) hx hb dX11_set_29 (by decide) ?_
        refine lv_goto (tgt := 36) hx hb dX11_set_31 (by decide) ?_
        refine lv_iload_n hx hb dX11_set_36 rfl (lv_at hl 2 rfl) ?_
        refine lv_iadd hx hb dX11_set_37 ?_
        refine lv_topi (fun x14 ex14 => ?_)
        obtain rfl : x14 = nI (20 + jy) := by rw [ex14]; exact nI_add _ _
        refine lv_istore (lv' := [(4, .int (nI (20 + jy))), (0, .ref mm), (1, .int x), (2, .int (nI jy)), (3, .int i)]) hx hb dX11_set_38 hl (by decide) rfl (fun ls hl => ?_)
        refine lv_iload_n hx hb dX11_set_40 rfl (lv_at hl 4 rfl) ?_
        refine lv_if_eq (tgt := 48) hx hb dX11_set_41 (by decide) (fun c15 => ?_) (fun c15 => ?_)
        · skip
          refine lv_iconst (v := 0) hx hb dX11_set_48 (by decide) ?_
          refine lv_istore (lv' := [(5, .int 0), (4, .int (nI (20 + jy))), (0, .ref mm), (1, .int x), (2, .int (nI jy)), (3, .int i)]) hx hb dX11_set_49 hl (by decide) rfl (fun ls hl => ?_)
          refine lv_aload_n hx hb dX11_set_51 rfl (lv_at hl 2 rfl) ?_
          refine va_get (D := D) (ci := 11) (v := .ref nw) (C := RX11) (T := TX11) (N := 19) hx hb hts zi11_ hown hK hP 0 rfl rfl 0 (by decide) z0_ (fun _ h9 => h9) rfl dX11_set_52 ?_
          refine lv_iload hx hb dX11_set_55 (lv_at hl 1 rfl) ?_
          refine my_iald hx hb hK hP 1 1 rfl rfl (vp_in_nI (by omega) (by decide)) (nI_clamp (by omega)) dX11_set_57 ?_
          rw [show F (20 + jy) = 0 from hz (20 + jy) (by omega) (by omega)]
          refine lv_iload hx hb dX11_set_58 (lv_at hl 0 rfl) ?_
          refine lv_icmp_eq (tgt := 79) hx hb dX11_set_60 (by decide) (fun c16 => ?_) (fun c16 => absurd c16 (by decide))
          refine lv_aload_n hx hb dX11_set_79 rfl (lv_at hl 2 rfl) ?_
          refine lv_bipush (v := (-3)) hx hb dX11_set_80 (by decide) ?_
          refine wr_i (wr := [(nw, .inl (cy 1, 122, .inl F))]) (va_runV (As := [.int (-3)]) (rest := []) ⟨hx, hb, hml, hown, hts⟩ (m_no l D cy mm nw kp ik rf sd fr qu me by_ nx (fun _ => 0) (-3) _) (cwV 1 hts gX11_set_X11_no rfl rfl rfl (by decide +kernel) ⟨Nat.le_of_ble_eq_true rfl, Nat.le_of_ble_eq_true rfl⟩) (pV (ci := 11) (k := 0) hKA (hP.sub (ws' := [(mm, .inr (11, [.ref nw, .ref kp, .ref ik, .ref rf, .int 0, .int 0, .ref sd, .ref fr, .ref qu, .int 0, .ref me, .ref by_, .int 0, .int 0, .int 0, .int 0, .int 0, .ref nx, .int 0])), (rf, .inl (cy 1, 3, .inl (fun _ => 0)))]) [0, 2] rfl) (hD.sub (ws' := [(mm, .inr (11, [.ref nw, .ref kp, .ref ik, .ref rf, .int 0, .int 0, .ref sd, .ref fr, .ref qu, .int 0, .ref me, .ref by_, .int 0, .int 0, .int 0, .int 0, .int 0, .ref nx, .int 0])), (rf, .inl (cy 1, 3, .inl (fun _ => 0)))]) [0, 2] (by decide) rfl) rfl rfl) rfl rfl hl.1 rfl (lv_room (Nat.le_of_ble_eq_true rfl)) dX11_set_82 ⟨Nat.le_of_ble_eq_true rfl, Nat.le_of_ble_eq_true rfl⟩) hP hD hS hA [0, 2] [1] rfl rfl (by decide +kernel) (by decide +kernel) (fun r17 ur17 H locs hwr17 hP hD hS => ?_)
          have hP : va_P D vwCl [(nw, .inl (cy 1, 122, .inl F))] H := hP
          have hD : va_D A [(nw, .inl (cy 1, 122, .inl F))] := hD
          subst hwr17
          have hP9 := hP.sub (ws' := []) [] rfl
          have hD9 := hD.sub (ws' := []) [] (by decide) rfl
          exact W.iret (v := (-3)) hx hb hr (fun t ht hW => ⟨⟨(-3), (), rfl, (by first | (simp [sp_set, har1, hbr1, har3, hbr3, (show i = 0 by assumption)]; done) | (simp [sp_set, har1, hbr1, har3, hbr3, (show ¬ i = 0 by assumption)]; done)), by rw [ht]; exact hP9, hD9⟩, hS.F ht⟩) hS.2.2 dX11_set_85
        · skip
          refine lv_iconst (v := 1) hx hb dX11_set_44 (by decide) ?_
          refine lv_goto (tgt := 49) hx hb dX11_set_45 (by decide) ?_
          refine lv_istore (lv' := [(5, .int 1), (4, .int (nI (20 + jy))), (0, .ref mm), (1, .int x), (2, .int (nI jy)), (3, .int i)]) hx hb dX11_set_49 hl (by decide) rfl (fun ls hl => ?_)
          refine lv_aload_n hx hb dX11_set_51 rfl (lv_at hl 2 rfl) ?_
          refine va_get (D := D) (ci := 11) (v := .ref nw) (C := RX11) (T := TX11) (N := 19) hx hb hts zi11_ hown hK hP 0 rfl rfl 0 (by decide) z0_ (fun _ h9 => h9) rfl dX11_set_52 ?_
          refine lv_iload hx hb dX11_set_55 (lv_at hl 1 rfl) ?_
          refine my_iald hx hb hK hP 1 1 rfl rfl (vp_in_nI (by omega) (by decide)) (nI_clamp (by omega)) dX11_set_57 ?_
          rw [show F (20 + jy) = 0 from hz (20 + jy) (by omega) (by omega)]
          refine lv_iload hx hb dX11_set_58 (lv_at hl 0 rfl) ?_
          refine lv_icmp_eq (tgt := 79) hx hb dX11_set_60 (by decide) (fun c18 => absurd c18 (by decide)) (fun c18 => ?_)
          refine lv_iload_n hx hb dX11_set_63 rfl (lv_at hl 3 rfl) ?_
          refine lv_if_ne (tgt := 86) hx hb dX11_set_64 (by decide) (fun c19 => ?_) (fun c19 => ?_)
          · skip
            refine lv_aload_n hx hb dX11_set_86 rfl (lv_at hl 2 rfl) ?_
            refine va_get (D := D) (ci := 11) (v := .ref nw) (C := RX11) (T := TX11) (N := 19) hx hb hts zi11_ hown hK hP 0 rfl rfl 0 (by decide) z0_ (fun _ h9 => h9) rfl dX11_set_87 ?_
            refine lv_iload hx hb dX11_set_90 (lv_at hl 1 rfl) ?_
            refine lv_iload hx hb dX11_set_92 (lv_at hl 0 rfl) ?_
            refine my_iast hx hb hK hP hD hS 1 1 rfl rfl (vp_in_nI (by omega) (by decide)) (nI_clamp (by omega)) dX11_set_94 (fun H locs hP hD hS => ?_)
            have hP : va_P D vwCl [(mm, .inr (11, [.ref nw, .ref kp, .ref ik, .ref rf, .int 0, .int 0, .ref sd, .ref fr, .ref qu, .int 0, .ref me, .ref by_, .int 0, .int 0, .int 0, .int 0, .int 0, .ref nx, .int 0])), (nw, .inl (cy 1, 122, .inl (upd F (20 + jy) 1))), (rf, .inl (cy 1, 3, .inl (fun _ => 0)))] H := hP
            have hD : va_D A [(mm, .inr (11, [.ref nw, .ref kp, .ref ik, .ref rf, .int 0, .int 0, .ref sd, .ref fr, .ref qu, .int 0, .ref me, .ref by_, .int 0, .int 0, .int 0, .int 0, .int 0, .ref nx, .int 0])), (nw, .inl (cy 1, 122, .inl (upd F (20 + jy) 1))), (rf, .inl (cy 1, 3, .inl (fun _ => 0)))] := hD
            refine lv_iconst (v := 1) hx hb dX11_set_95 (by decide) ?_
            have hP9 := hP.sub (ws' := []) [] rfl
            have hD9 := hD.sub (ws' := []) [] (by decide) rfl
            exact W.iret (v := 1) hx hb hr (fun t ht hW => ⟨⟨1, (), rfl, (by first | (simp [sp_set, har1, hbr1, har3, hbr3, (show i = 0 by assumption)]; done) | (simp [sp_set, har1, hbr1, har3, hbr3, (show ¬ i = 0 by assumption)]; done)), by rw [ht]; exact hP9, hD9⟩, hS.F ht⟩) hS.2.2 dX11_set_96
          · skip
            refine lv_aload_n hx hb dX11_set_67 rfl (lv_at hl 2 rfl) ?_
            refine va_get (D := D) (ci := 11) (v := .ref nw) (C := RX11) (T := TX11) (N := 19) hx hb hts zi11_ hown hK hP 0 rfl rfl 0 (by decide) z0_ (fun _ h9 => h9) rfl dX11_set_68 ?_
            refine lv_iload_n hx hb dX11_set_71 rfl (lv_at hl 4 rfl) ?_
            refine lv_iconst (v := (-1)) hx hb dX11_set_72 (by decide) ?_
            refine rd_i (va_runS (As := [.ref nw, .int (nI jy), .int (-1)]) (rest := []) ⟨hx, hb, hml, hown, hts⟩ (m_isStood l D cy nw F (nI jy) (-1) _ (hz 4 (by decide) (by decide))) (va_cwS 3 hts gX11_set_X11_isStood rfl rfl rfl (by decide +kernel) ⟨Nat.le_of_ble_eq_true rfl, Nat.le_of_ble_eq_true rfl⟩) (pS hKA (hP.sub (ws' := [(nw, .inl (cy 1, 122, .inl F))]) [1] rfl) (hD.sub (ws' := [(nw, .inl (cy 1, 122, .inl F))]) [1] (by decide) rfl)) rfl rfl hl.1 rfl (lv_room (Nat.le_of_ble_eq_true rfl)) dX11_set_73 ⟨Nat.le_of_ble_eq_true rfl, Nat.le_of_ble_eq_true rfl⟩) hP hS hA (fun r20 H locs hwr20 hP hS => ?_)
            rcases hwr20 with rfl
            · skip
              refine lv_if_eq (tgt := 86) hx hb dX11_set_76 (by decide) (fun c21 => ?_) (fun c21 => absurd c21 (by decide))
              refine lv_aload_n hx hb dX11_set_86 rfl (lv_at hl 2 rfl) ?_
              refine va_get (D := D) (ci := 11) (v := .ref nw) (C := RX11) (T := TX11) (N := 19) hx hb hts zi11_ hown hK hP 0 rfl rfl 0 (by decide) z0_ (fun _ h9 => h9) rfl dX11_set_87 ?_
              refine lv_iload hx hb dX11_set_90 (lv_at hl 1 rfl) ?_
              refine lv_iload hx hb dX11_set_92 (lv_at hl 0 rfl) ?_
              refine my_iast hx hb hK hP hD hS 1 1 rfl rfl (vp_in_nI (by omega) (by decide)) (nI_clamp (by omega)) dX11_set_94 (fun H locs hP hD hS => ?_)
              have hP : va_P D vwCl [(mm, .inr (11, [.ref nw, .ref kp, .ref ik, .ref rf, .int 0, .int 0, .ref sd, .ref fr, .ref qu, .int 0, .ref me, .ref by_, .int 0, .int 0, .int 0, .int 0, .int 0, .ref nx, .int 0])), (nw, .inl (cy 1, 122, .inl (upd F (20 + jy) 1))), (rf, .inl (cy 1, 3, .inl (fun _ => 0)))] H := hP
              have hD : va_D A [(mm, .inr (11, [.ref nw, .ref kp, .ref ik, .ref rf, .int 0, .int 0, .ref sd, .ref fr, .ref qu, .int 0, .ref me, .ref by_, .int 0, .int 0, .int 0, .int 0, .int 0, .ref nx, .int 0])), (nw, .inl (cy 1, 122, .inl (upd F (20 + jy) 1))), (rf, .inl (cy 1, 3, .inl (fun _ => 0)))] := hD
              refine lv_iconst (v := 1) hx hb dX11_set_95 (by decide) ?_
              have hP9 := hP.sub (ws' := []) [] rfl
              have hD9 := hD.sub (ws' := []) [] (by decide) rfl
              exact W.iret (v := 1) hx hb hr (fun t ht hW => ⟨⟨1, (), rfl, (by first | (simp [sp_set, har1, hbr1, har3, hbr3, (show i = 0 by assumption)]; done) | (simp [sp_set, har1, hbr1, har3, hbr3, (show ¬ i = 0 by assumption)]; done)), by rw [ht]; exact hP9, hD9⟩, hS.F ht⟩) hS.2.2 dX11_set_96
    · skip
      refine lv_if_ne (tgt := 25) hx hb dX11_set_15 (by decide) (fun c22 => absurd c22 (by decide)) (fun c22 => ?_)
      refine lv_aload_n hx hb dX11_set_18 rfl (lv_at hl 0 rfl) ?_
      refine lv_bipush (v := (-2)) hx hb dX11_set_19 (by decide) ?_
      refine wr_i (wr := [(nw, .inl (cy 1, 122, .inl F))]) (va_runV (As := [.int (-2)]) (rest := []) ⟨hx, hb, hml, hown, hts⟩ (m_bad l D cy mm nw kp ik rf sd fr qu me by_ nx (fun _ => 0) (-2) _) (cwV 1 hts gX11_set_X11_bad rfl rfl rfl (by decide +kernel) ⟨Nat.le_of_ble_eq_true rfl, Nat.le_of_ble_eq_true rfl⟩) (pV (ci := 11) (k := 0) hKA (hP.sub (ws' := [(mm, .inr (11, [.ref nw, .ref kp, .ref ik, .ref rf, .int 0, .int 0, .ref sd, .ref fr, .ref qu, .int 0, .ref me, .ref by_, .int 0, .int 0, .int 0, .int 0, .int 0, .ref nx, .int 0])), (rf, .inl (cy 1, 3, .inl (fun _ => 0)))]) [0, 2] rfl) (hD.sub (ws' := [(mm, .inr (11, [.ref nw, .ref kp, .ref ik, .ref rf, .int 0, .int 0, .ref sd, .ref fr, .ref qu, .int 0, .ref me, .ref by_, .int 0, .int 0, .int 0, .int 0, .int 0, .ref nx, .int 0])), (rf, .inl (cy 1, 3, .inl (fun _ => 0)))]) [0, 2] (by decide) rfl) rfl rfl) rfl rfl hl.1 rfl (lv_room (Nat.le_of_ble_eq_true rfl)) dX11_set_21 ⟨Nat.le_of_ble_eq_true rfl, Nat.le_of_ble_eq_true rfl⟩) hP hD hS hA [0, 2] [1] rfl rfl (by decide +kernel) (by decide +kernel) (fun r23 ur23 H locs hwr23 hP hD hS => ?_)
      have hP : va_P D vwCl [(nw, .inl (cy 1, 122, .inl F))] H := hP
      have hD : va_D A [(nw, .inl (cy 1, 122, .inl F))] := hD
      subst hwr23
      have hP9 := hP.sub (ws' := []) [] rfl
      have hD9 := hD.sub (ws' := []) [] (by decide) rfl
      exact W.iret (v := (-2)) hx hb hr (fun t ht hW => ⟨⟨(-2), (), rfl, (by simp [sp_set, har1, hbr1, hnr3]), by rw [ht]; exact hP9, hD9⟩, hS.F ht⟩) hS.2.2 dX11_set_24
  · skip
    have hnr1 : ¬ (0 ≤ x ∧ x ≤ 1) := fun q => hnr1 ⟨(z_w 0 (by decide)).1.mpr q.1, (z_w 1 (by decide)).2.mpr q.2⟩
    refine lv_if_eq (tgt := 18) hx hb dX11_set_7 (by decide) (fun c24 => ?_) (fun c24 => absurd c24 (by decide))
    refine lv_aload_n hx hb dX11_set_18 rfl (lv_at hl 0 rfl) ?_
    refine lv_bipush (v := (-2)) hx hb dX11_set_19 (by decide) ?_
    refine wr_i (wr := [(nw, .inl (cy 1, 122, .inl F))]) (va_runV (As := [.int (-2)]) (rest := []) ⟨hx, hb, hml, hown, hts⟩ (m_bad l D cy mm nw kp ik rf sd fr qu me by_ nx (fun _ => 0) (-2) _) (cwV 1 hts gX11_set_X11_bad rfl rfl rfl (by decide +kernel) ⟨Nat.le_of_ble_eq_true rfl, Nat.le_of_ble_eq_true rfl⟩) (pV (ci := 11) (k := 0) hKA (hP.sub (ws' := [(mm, .inr (11, [.ref nw, .ref kp, .ref ik, .ref rf, .int 0, .int 0, .ref sd, .ref fr, .ref qu, .int 0, .ref me, .ref by_, .int 0, .int 0, .int 0, .int 0, .int 0, .ref nx, .int 0])), (rf, .inl (cy 1, 3, .inl (fun _ => 0)))]) [0, 2] rfl) (hD.sub (ws' := [(mm, .inr (11, [.ref nw, .ref kp, .ref ik, .ref rf, .int 0, .int 0, .ref sd, .ref fr, .ref qu, .int 0, .ref me, .ref by_, .int 0, .int 0, .int 0, .int 0, .int 0, .ref nx, .int 0])), (rf, .inl (cy 1, 3, .inl (fun _ => 0)))]) [0, 2] (by decide) rfl) rfl rfl) rfl rfl hl.1 rfl (lv_room (Nat.le_of_ble_eq_true rfl)) dX11_set_21 ⟨Nat.le_of_ble_eq_true rfl, Nat.le_of_ble_eq_true rfl⟩) hP hD hS hA [0, 2] [1] rfl rfl (by decide +kernel) (by decide +kernel) (fun r25 ur25 H locs hwr25 hP hD hS => ?_)
    have hP : va_P D vwCl [(nw, .inl (cy 1, 122, .inl F))] H := hP
    have hD : va_D A [(nw, .inl (cy 1, 122, .inl F))] := hD
    subst hwr25
    have hP9 := hP.sub (ws' := []) [] rfl
    have hD9 := hD.sub (ws' := []) [] (by decide) rfl
    exact W.iret (v := (-2)) hx hb hr (fun t ht hW => ⟨⟨(-2), (), rfl, (by simp [sp_set, hnr1]), by rw [ht]; exact hP9, hD9⟩, hS.F ht⟩) hS.2.2 dX11_set_24
