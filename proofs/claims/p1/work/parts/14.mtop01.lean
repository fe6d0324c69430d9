theorem dX11_put_0 : decode cX11_put 0 = .ok (.iload_n 1, 1) := by decide +kernel
theorem dX11_put_1 : decode cX11_put 1 = .ok (.ifCond .ne 15, 3) := by decide +kernel
theorem dX11_put_16 : decode cX11_put 16 = .ok (.iload_n 1, 1) := by decide +kernel
theorem dX11_put_17 : decode cX11_put 17 = .ok (.iconst 1, 1) := by decide +kernel
theorem dX11_put_18 : decode cX11_put 18 = .ok (.if_icmp .ne 19, 3) := by decide +kernel
theorem dX11_put_37 : decode cX11_put 37 = .ok (.iconst 0, 1) := by decide +kernel
theorem dX11_put_38 : decode cX11_put 38 = .ok (.istore_n 3, 1) := by decide +kernel
theorem dX11_put_39 : decode cX11_put 39 = .ok (.iload_n 3, 1) := by decide +kernel
theorem dX11_put_40 : decode cX11_put 40 = .ok (.ifCond .ne 10, 3) := by decide +kernel
theorem dX11_put_43 : decode cX11_put 43 = .ok (.aload_n 0, 1) := by decide +kernel
theorem dX11_put_44 : decode cX11_put 44 = .ok (.bipush (-10), 2) := by decide +kernel
set_option maxRecDepth 20000 in
theorem ggX11_put_X11_bad : GoodIn wsX11_put wsX11_bad := goodIn_r _ [11, 12, 13, 14, 15, 16, 17, 18, 19, 20, 21, 22, 23, 24, 25, 26, 27, 28, 29, 30, 31] (by decide +kernel) (by decide +kernel)
set_option maxRecDepth 20000 in
theorem gX11_put_X11_bad : GoodIn wsX11_put (wsV RX11 60 RX11 yX11_bad wsX11_bad) := goodIn_app (goodIn_of _ (by decide +kernel)) ggX11_put_X11_bad
theorem dX11_put_46 : decode cX11_put 46 = .ok (.invokevirtual 60, 3) := by decide +kernel
theorem dX11_put_49 : decode cX11_put 49 = .ok (.ireturn, 1) := by decide +kernel
theorem dX11_put_21 : decode cX11_put 21 = .ok (.iload_n 2, 1) := by decide +kernel
theorem dX11_put_22 : decode cX11_put 22 = .ok (.i2l, 1) := by decide +kernel
theorem dX11_put_23 : decode cX11_put 23 = .ok (.ldc2_w 77, 3) := by decide +kernel
theorem dX11_put_26 : decode cX11_put 26 = .ok (.lconst 1, 1) := by decide +kernel
set_option maxRecDepth 20000 in
theorem ggX11_put_X11_in : GoodIn wsX11_put wsX11_in := goodIn_r _ [7] (by decide +kernel) (by decide +kernel)
set_option maxRecDepth 20000 in
theorem gX11_put_X11_in : GoodIn wsX11_put (va_wsS RX11 49 yX11_in wsX11_in) := goodIn_app (goodIn_of _ (by decide +kernel)) ggX11_put_X11_in
theorem dX11_put_27 : decode cX11_put 27 = .ok (.invokestatic 49, 3) := by decide +kernel
theorem dX11_put_30 : decode cX11_put 30 = .ok (.ifCond .eq 7, 3) := by decide +kernel
theorem dX11_put_33 : decode cX11_put 33 = .ok (.iconst 1, 1) := by decide +kernel
theorem dX11_put_34 : decode cX11_put 34 = .ok (.goto 4, 3) := by decide +kernel
theorem dX11_put_50 : decode cX11_put 50 = .ok (.aload_n 0, 1) := by decide +kernel
theorem dX11_put_51 : decode cX11_put 51 = .ok (.getfield 7, 3) := by decide +kernel
theorem dX11_put_54 : decode cX11_put 54 = .ok (.iconst 2, 1) := by decide +kernel
theorem dX11_put_55 : decode cX11_put 55 = .ok (.iload_n 1, 1) := by decide +kernel
theorem dX11_put_56 : decode cX11_put 56 = .ok (.iadd, 1) := by decide +kernel
theorem dX11_put_57 : decode cX11_put 57 = .ok (.iaload, 1) := by decide +kernel
theorem dX11_put_58 : decode cX11_put 58 = .ok (.istore 4, 2) := by decide +kernel
theorem dX11_put_60 : decode cX11_put 60 = .ok (.aload_n 0, 1) := by decide +kernel
theorem dX11_put_61 : decode cX11_put 61 = .ok (.getfield 7, 3) := by decide +kernel
theorem dX11_put_64 : decode cX11_put 64 = .ok (.iconst 2, 1) := by decide +kernel
theorem dX11_put_65 : decode cX11_put 65 = .ok (.iload_n 1, 1) := by decide +kernel
theorem dX11_put_66 : decode cX11_put 66 = .ok (.iadd, 1) := by decide +kernel
theorem dX11_put_67 : decode cX11_put 67 = .ok (.iload_n 2, 1) := by decide +kernel
theorem dX11_put_68 : decode cX11_put 68 = .ok (.iastore, 1) := by decide +kernel
theorem dX11_put_69 : decode cX11_put 69 = .ok (.iload 4, 2) := by decide +kernel
theorem dX11_put_71 : decode cX11_put 71 = .ok (.ireturn, 1) := by decide +kernel
theorem dX11_put_4 : decode cX11_put 4 = .ok (.iload_n 2, 1) := by decide +kernel
theorem dX11_put_5 : decode cX11_put 5 = .ok (.i2l, 1) := by decide +kernel
theorem dX11_put_6 : decode cX11_put 6 = .ok (.lconst 0, 1) := by decide +kernel
theorem dX11_put_7 : decode cX11_put 7 = .ok (.ldc2_w 75, 3) := by decide +kernel
theorem dX11_put_10 : decode cX11_put 10 = .ok (.invokestatic 49, 3) := by decide +kernel
theorem dX11_put_13 : decode cX11_put 13 = .ok (.ifCond .ne 20, 3) := by decide +kernel
theorem dX11_person_0 : decode cX11_person 0 = .ok (.iload_n 1, 1) := by decide +kernel
theorem dX11_person_1 : decode cX11_person 1 = .ok (.i2l, 1) := by decide +kernel
theorem dX11_person_2 : decode cX11_person 2 = .ok (.lconst 0, 1) := by decide +kernel
theorem dX11_person_3 : decode cX11_person 3 = .ok (.ldc2_w 79, 3) := by decide +kernel
set_option maxRecDepth 20000 in
theorem ggX11_person_X11_in : GoodIn wsX11_person wsX11_in := goodIn_r _ [7] (by decide +kernel) (by decide +kernel)
set_option maxRecDepth 20000 in
theorem gX11_person_X11_in : GoodIn wsX11_person (va_wsS RX11 49 yX11_in wsX11_in) := goodIn_app (goodIn_of _ (by decide +kernel)) ggX11_person_X11_in
theorem dX11_person_6 : decode cX11_person 6 = .ok (.invokestatic 49, 3) := by decide +kernel
theorem dX11_person_9 : decode cX11_person 9 = .ok (.ifCond .eq 23, 3) := by decide +kernel
theorem dX11_person_12 : decode cX11_person 12 = .ok (.aload_n 0, 1) := by decide +kernel
theorem dX11_person_13 : decode cX11_person 13 = .ok (.iload_n 2, 1) := by decide +kernel
set_option maxRecDepth 20000 in
theorem ggX11_person_X11_isSquare : GoodIn wsX11_person wsX11_isSquare := goodIn_r _ [11, 12, 13, 14, 6, 15, 3, 4, 5, 7, 43, 44, 45, 46, 47, 48, 49, 50, 51, 52, 53, 54, 55, 56, 57, 58, 59, 60, 61] (by decide +kernel) (by decide +kernel)
set_option maxRecDepth 20000 in
theorem gX11_person_X11_isSquare : GoodIn wsX11_person (wsV RX11 68 RX11 yX11_isSquare wsX11_isSquare) := goodIn_app (goodIn_of _ (by decide +kernel)) ggX11_person_X11_isSquare
theorem dX11_person_14 : decode cX11_person 14 = .ok (.invokevirtual 68, 3) := by decide +kernel
theorem dX11_person_17 : decode cX11_person 17 = .ok (.ifCond .eq 15, 3) := by decide +kernel
theorem dX11_person_20 : decode cX11_person 20 = .ok (.iload_n 3, 1) := by decide +kernel
theorem dX11_person_21 : decode cX11_person 21 = .ok (.i2l, 1) := by decide +kernel
theorem dX11_person_22 : decode cX11_person 22 = .ok (.lconst 0, 1) := by decide +kernel
theorem dX11_person_23 : decode cX11_person 23 = .ok (.ldc2_w 81, 3) := by decide +kernel
theorem dX11_person_26 : decode cX11_person 26 = .ok (.invokestatic 49, 3) := by decide +kernel
theorem dX11_person_29 : decode cX11_person 29 = .ok (.ifCond .ne 10, 3) := by decide +kernel
theorem dX11_person_39 : decode cX11_person 39 = .ok (.aload_n 0, 1) := by decide +kernel
theorem dX11_person_40 : decode cX11_person 40 = .ok (.iload_n 2, 1) := by decide +kernel
theorem dX11_person_41 : decode cX11_person 41 = .ok (.iconst (-1), 1) := by decide +kernel
set_option maxRecDepth 20000 in
theorem ggX11_person_X11_isFree : GoodIn wsX11_person wsX11_isFree := goodIn_r _ [24, 3, 25, 26, 6, 27, 43, 44, 45, 46, 47, 48, 49, 50, 51, 52, 53, 54, 55, 56, 57, 58, 59, 60, 61] (by decide +kernel) (by decide +kernel)
set_option maxRecDepth 20000 in
theorem gX11_person_X11_isFree : GoodIn wsX11_person (wsV RX11 83 RX11 yX11_isFree wsX11_isFree) := goodIn_app (goodIn_of _ (by decide +kernel)) ggX11_person_X11_isFree
theorem dX11_person_42 : decode cX11_person 42 = .ok (.invokevirtual 83, 3) := by decide +kernel
theorem dX11_person_45 : decode cX11_person 45 = .ok (.ifCond .ne 10, 3) := by decide +kernel
theorem dX11_person_55 : decode cX11_person 55 = .ok (.aload_n 0, 1) := by decide +kernel
set_option maxRecDepth 20000 in
theorem ggX11_person_X11_people : GoodIn wsX11_person wsX11_people := goodIn_r _ [35, 3, 43, 44, 45, 46, 47, 48, 49, 50, 51, 52, 53, 54, 55, 56, 57, 58, 59, 60, 61] (by decide +kernel) (by decide +kernel)
set_option maxRecDepth 20000 in
theorem gX11_person_X11_people : GoodIn wsX11_person (wsV RX11 53 RX11 yX11_people wsX11_people) := goodIn_app (goodIn_of _ (by decide +kernel)) ggX11_person_X11_people
theorem dX11_person_56 : decode cX11_person 56 = .ok (.invokevirtual 53, 3) := by decide +kernel
theorem dX11_person_59 : decode cX11_person 59 = .ok (.iconst 5, 1) := by decide +kernel
theorem dX11_person_60 : decode cX11_person 60 = .ok (.if_icmp .ne 8, 3) := by decide +kernel
theorem dX11_person_68 : decode cX11_person 68 = .ok (.aload_n 0, 1) := by decide +kernel
theorem dX11_person_69 : decode cX11_person 69 = .ok (.getfield 7, 3) := by decide +kernel
theorem dX11_person_72 : decode cX11_person 72 = .ok (.iload_n 1, 1) := by decide +kernel
theorem dX11_person_73 : decode cX11_person 73 = .ok (.iload_n 2, 1) := by decide +kernel
theorem dX11_person_74 : decode cX11_person 74 = .ok (.iload_n 3, 1) := by decide +kernel
set_option maxRecDepth 20000 in
theorem ggX11_person_X11_layPerson : GoodIn wsX11_person wsX11_layPerson := goodIn_r _ [42] (by decide +kernel) (by decide +kernel)
set_option maxRecDepth 20000 in
theorem gX11_person_X11_layPerson : GoodIn wsX11_person (va_wsS RX11 90 yX11_layPerson wsX11_layPerson) := goodIn_app (goodIn_of _ (by decide +kernel)) ggX11_person_X11_layPerson
theorem dX11_person_75 : decode cX11_person 75 = .ok (.invokestatic 90, 3) := by decide +kernel
theorem dX11_person_78 : decode cX11_person 78 = .ok (.aload_n 0, 1) := by decide +kernel
theorem dX11_person_79 : decode cX11_person 79 = .ok (.invokevirtual 53, 3) := by decide +kernel
theorem dX11_person_82 : decode cX11_person 82 = .ok (.iconst 1, 1) := by decide +kernel
theorem dX11_person_83 : decode cX11_person 83 = .ok (.isub, 1) := by decide +kernel
theorem dX11_person_84 : decode cX11_person 84 = .ok (.ireturn, 1) := by decide +kernel
theorem dX11_person_32 : decode cX11_person 32 = .ok (.aload_n 0, 1) := by decide +kernel
theorem dX11_person_33 : decode cX11_person 33 = .ok (.bipush (-2), 2) := by decide +kernel
set_option maxRecDepth 20000 in
theorem ggX11_person_X11_bad : GoodIn wsX11_person wsX11_bad := goodIn_r _ [19, 20, 43, 44, 45, 46, 47, 48, 49, 50, 51, 52, 53, 54, 55, 56, 57, 58, 59, 60, 61] (by decide +kernel) (by decide +kernel)
set_option maxRecDepth 20000 in
theorem gX11_person_X11_bad : GoodIn wsX11_person (wsV RX11 60 RX11 yX11_bad wsX11_bad) := goodIn_app (goodIn_of _ (by decide +kernel)) ggX11_person_X11_bad
theorem dX11_person_35 : decode cX11_person 35 = .ok (.invokevirtual 60, 3) := by decide +kernel
theorem dX11_person_38 : decode cX11_person 38 = .ok (.ireturn, 1) := by decide +kernel
theorem dX11_move_0 : decode cX11_move 0 = .ok (.aload_n 0, 1) := by decide +kernel
theorem dX11_move_1 : decode cX11_move 1 = .ok (.iload_n 1, 1) := by decide +kernel
set_option maxRecDepth 20000 in
theorem ggX11_move_X11_isOne : GoodIn wsX11_move wsX11_isOne := goodIn_r _ [5, 6, 7, 8, 4, 9, 10, 11, 12, 13, 46, 47, 48, 49, 50, 51, 52, 53, 54, 55, 56, 57, 58, 59, 60, 61, 62, 63, 64] (by decide +kernel) (by decide +kernel)
set_option maxRecDepth 20000 in
theorem gX11_move_X11_isOne : GoodIn wsX11_move (wsV RX11 94 RX11 yX11_isOne wsX11_isOne) := goodIn_app (goodIn_of _ (by decide +kernel)) ggX11_move_X11_isOne
theorem dX11_move_2 : decode cX11_move 2 = .ok (.invokevirtual 94, 3) := by decide +kernel
theorem dX11_move_5 : decode cX11_move 5 = .ok (.ifCond .eq 11, 3) := by decide +kernel
theorem dX11_move_16 : decode cX11_move 16 = .ok (.aload_n 0, 1) := by decide +kernel
theorem dX11_move_17 : decode cX11_move 17 = .ok (.bipush (-10), 2) := by decide +kernel
set_option maxRecDepth 20000 in
theorem ggX11_move_X11_bad : GoodIn wsX11_move wsX11_bad := goodIn_r _ [25, 26, 46, 47, 48, 49, 50, 51, 52, 53, 54, 55, 56, 57, 58, 59, 60, 61, 62, 63, 64] (by decide +kernel) (by decide +kernel)
set_option maxRecDepth 20000 in
theorem gX11_move_X11_bad : GoodIn wsX11_move (wsV RX11 60 RX11 yX11_bad wsX11_bad) := goodIn_app (goodIn_of _ (by decide +kernel)) ggX11_move_X11_bad
theorem dX11_move_19 : decode cX11_move 19 = .ok (.invokevirtual 60, 3) := by decide +kernel
theorem dX11_move_22 : decode cX11_move 22 = .ok (.ireturn, 1) := by decide +kernel
set_option maxHeartbeats 4000000 in
set_option maxRecDepth 100000 in
theorem mt_put (l : Launch) (D : va_G) (cy : Nat → ClassId) (mm nw kp ik rf sd fr qu me by_ nx : Nat) (F : Nat → Int32) (x y : Int32) (sz : Nat) (h0 : F 0 = 6) (h1 : F 1 = 6) (h2 : F 2 = 1) (hz : ∀ k, 3 ≤ k → k < 122 → F k = 0) : Met l yX11_put wsX11_put ({ frames := 1, cells := 0, slots := 0, locals := 25 }) (va_Pc [.ref mm, .int x, .int y] (kPre D cy [(mm, .inr (11, [.ref nw, .ref kp, .ref ik, .ref rf, .int 0, .int 0, .ref sd, .ref fr, .ref qu, .int 0, .ref me, .ref by_, .int 0, .int 0, .int 0, .int 0, .int 0, .ref nx, .int 0])), (nw, .inl (cy 1, 122, .inl F)), (rf, .inl (cy 1, 3, .inl (fun _ => 0)))] sz)) (va_Qi (fun (r : Int32) (_ : Unit) => r = sp_put x y) (fun (u : Unit) t => va_P D vwCl ([]) t.heap ∧ va_D (va_A [(mm, .inr (11, [.ref nw, .ref kp, .ref ik, .ref rf, .int 0, .int 0, .ref sd, .ref fr, .ref qu, .int 0, .ref me, .ref by_, .int 0, .int 0, .int 0, .int 0, .int 0, .ref nx, .int 0])), (nw, .inl (cy 1, 122, .inl F)), (rf, .inl (cy 1, 3, .inl (fun _ => 0)))] sz) ([])) (va_A [(mm, .inr (11, [.ref nw, .ref kp, .ref ik, .ref rf, .int 0, .int 0, .ref sd, .ref fr, .ref qu, .int 0, .ref me, .ref by_, .int 0, .int 0, .int 0, .int 0, .int 0, .ref nx, .int 0])), (nw, .inl (cy 1, 122, .inl F)), (rf, .inl (cy 1, 3, .inl (fun _ => 0)))] sz)) 0 0 (va_A [(mm, .inr (11, [.ref nw, .ref kp, .ref ik, .ref rf, .int 0, .int 0, .ref sd, .ref fr, .ref qu, .int 0, .ref me, .ref by_, .int 0, .int 0, .int 0, .int 0, .int 0, .ref nx, .int 0])), (nw, .inl (cy 1, 122, .inl F)), (rf, .inl (cy 1, 3, .inl (fun _ => 0)))] sz) := by
  refine Met.ofW (cc := cX11_put) (maxL := 5) (ret := (some .int)) (by decide) rfl ?_
  intro p e s m args below meth c s₁ B hml hv
  obtain ⟨rfl, hsz, hP, hKA, hD0⟩ := hv
  have hx := B.exec
  have hb := B.bytes
  have hr := B.returns
  have hts := atoms_spec (ws := wsX11_put) B.pre
  have hown : s.vm.findClass RX11 = some m.cls := findClass_of_methodNamed B.named
  have hlocks := B.notSynchronized
  subst hsz
  have hK := hKA.1
  have hD := hD0.self (sz := s.heap.size)
  generalize hAe : va_A [(mm, .inr (11, [.ref nw, .ref kp, .ref ik, .ref rf, .int 0, .int 0, .ref sd, .ref fr, .ref qu, .int 0, .ref me, .ref by_, .int 0, .int 0, .int 0, .int 0, .int 0, .ref nx, .int 0])), (nw, .inl (cy 1, 122, .inl F)), (rf, .inl (cy 1, 3, .inl (fun _ => 0)))] s.heap.size = A at hD ⊢
  have hA : ∀ q : Nat, s.heap.size ≤ q → A q := fun q h => by rw [← hAe]; exact Or.inr h
  have hS : va_S A s.heap s.heap [] := va_S.rf
  have hP : va_P D vwCl [(mm, .inr (11, [.ref nw, .ref kp, .ref ik, .ref rf, .int 0, .int 0, .ref sd, .ref fr, .ref qu, .int 0, .ref me, .ref by_, .int 0, .int 0, .int 0, .int 0, .int 0, .ref nx, .int 0])), (nw, .inl (cy 1, 122, .inl F)), (rf, .inl (cy 1, 3, .inl (fun _ => 0)))] s.heap := hP
  have hl := lv_entry ([.ref mm, .int x, .int y]) (n := 5) (Nat.le_of_ble_eq_true rfl)
  rw [lg_entry_eq]
  generalize (lg_sl ([.ref mm, .int x, .int y]) ++ List.replicate (5 - (lg_sl ([.ref mm, .int x, .int y])).length) Slot.unset).toArray = ls at hl ⊢
  have hl : lv_has ls 5 [(0, .ref mm), (1, .int x), (2, .int y)] := hl
  have z0_ := hts (.constantLong RX11 77 (-1)) (by decide +kernel)
  have z1_ := hts (.fieldLink RX11 7 "HeardSeenModel" "now" "[I") (by decide +kernel)
  have zi11_ : ∀ w ∈ u_ws RX11 TX11 19, w ∈ wsX11_put := by decide +kernel
  have z3_ := hts (.constantLong RX11 75 4) (by decide +kernel)
  refine lv_iload_n hx hb dX11_put_0 rfl (lv_at hl 1 rfl) ?_
  refine lv_if_ne (tgt := 16) hx hb dX11_put_1 (by decide) (fun c1 => ?_) (fun c1 => ?_)
  · skip
    refine lv_iload_n hx hb dX11_put_16 rfl (lv_at hl 1 rfl) ?_
    refine lv_iconst (v := 1) hx hb dX11_put_17 (by decide) ?_
    refine lv_icmp_ne (tgt := 37) hx hb dX11_put_18 (by decide) (fun c2 => ?_) (fun c2 => ?_)
    · skip
      refine lv_iconst (v := 0) hx hb dX11_put_37 (by decide) ?_
      refine lv_istore_n (lv' := [(3, .int 0), (0, .ref mm), (1, .int x), (2, .int y)]) hx hb dX11_put_38 rfl hl (by decide) rfl (fun ls hl => ?_)
      refine lv_iload_n hx hb dX11_put_39 rfl (lv_at hl 0 rfl) ?_
      refine lv_if_ne (tgt := 50) hx hb dX11_put_40 (by decide) (fun c3 => absurd c3 (by decide)) (fun c3 => ?_)
      refine lv_aload_n hx hb dX11_put_43 rfl (lv_at hl 1 rfl) ?_
      refine lv_bipush (v := (-10)) hx hb dX11_put_44 (by decide) ?_
      refine wr_i (wr := [(nw, .inl (cy 1, 122, .inl F))]) (va_runV (As := [.int (-10)]) (rest := []) ⟨hx, hb, hml, hown, hts⟩ (m_bad l D cy mm nw kp ik rf sd fr qu me by_ nx (fun _ => 0) (-10) _) (cwV 1 hts gX11_put_X11_bad rfl rfl rfl (by decide +kernel) ⟨Nat.le_of_ble_eq_true rfl, Nat.le_of_ble_eq_true rfl⟩) (pV (ci := 11) (k := 0) hKA (hP.sub (ws' := [(mm, .inr (11, [.ref nw, .ref kp, .ref ik, .ref rf, .int 0, .int 0, .ref sd, .ref fr, .ref qu, .int 0, .ref me, .ref by_, .int 0, .int 0, .int 0, .int 0, .int 0, .ref nx, .int 0])), (rf, .inl (cy 1, 3, .inl (fun _ => 0)))]) [0, 2] rfl) (hD.sub (ws' := [(mm, .inr (11, [.ref nw, .ref kp, .ref ik, .ref rf, .int 0, .int 0, .ref sd, .ref fr, .ref qu, .int 0, .ref me, .ref by_, .int 0, .int 0, .int 0, .int 0, .int 0, .ref nx, .int 0])), (rf, .inl (cy 1, 3, .inl (fun _ => 0)))]) [0, 2] (by decide) rfl) rfl rfl) rfl rfl hl.1 rfl (lv_room (Nat.le_of_ble_eq_true rfl)) dX11_put_46 ⟨Nat.le_of_ble_eq_true rfl, Nat.le_of_ble_eq_true rfl⟩) hP hD hS hA [0, 2] [1] rfl rfl (by decide +kernel) (by decide +kernel) (fun r4 ur4 H locs hwr4 hP hD hS => ?_)
      have hP : va_P D vwCl [(nw, .inl (cy 1, 122, .inl F))] H := hP
      have hD : va_D A [(nw, .inl (cy 1, 122, .inl F))] := hD
      subst hwr4
      have hP9 := hP.sub (ws' := []) [] rfl
      have hD9 := hD.sub (ws' := []) [] (by decide) rfl
      exact W.iret (v := (-10)) hx hb hr (fun t ht hW => ⟨⟨(-10), (), rfl, (by first | (simp [sp_put, c1, c2]; done) | (exfalso; simp_all; done)), by rw [ht]; exact hP9, hD9⟩, hS.F ht⟩) hS.2.2 dX11_put_49
    · skip
      subst c2
      refine lv_iload_n hx hb dX11_put_21 rfl (lv_at hl 2 rfl) ?_
      refine lv_i2l hx hb dX11_put_22 rfl ?_
      refine lv_ldc2 hx hb hown z0_ dX11_put_23 ?_
      refine lv_lconst (v := 1) hx hb dX11_put_26 (by decide) ?_
      refine rd_i (va_runS (As := [.long y.toInt64, .long (-1), .long 1]) (rest := []) ⟨hx, hb, hml, hown, hts⟩ (c_X11_in l D cy y.toInt64 (-1) 1 _) (va_cwS 3 hts gX11_put_X11_in rfl rfl rfl (by decide +kernel) ⟨Nat.le_of_ble_eq_true rfl, Nat.le_of_ble_eq_true rfl⟩) (pS hKA pE (dE (A := A))) rfl rfl hl.1 rfl (lv_room (Nat.le_of_ble_eq_true rfl)) dX11_put_27 ⟨Nat.le_of_ble_eq_true rfl, Nat.le_of_ble_eq_true rfl⟩) hP hS hA (fun r5 H locs hwr5 hP hS => ?_)
      rcases hwr5 with ⟨rfl, har5, hbr5⟩ | ⟨rfl, hnr5⟩
      · skip
        have har5 : (-1) ≤ y := (z_w (-1) (by decide)).1.mp har5
        have hbr5 : y ≤ 1 := (z_w 1 (by decide)).2.mp hbr5
        refine lv_if_eq (tgt := 37) hx hb dX11_put_30 (by decide) (fun c6 => absurd c6 (by decide)) (fun c6 => ?_)
        refine lv_iconst (v := 1) hx hb dX11_put_33 (by decide) ?_
        refine lv_goto (tgt := 38) hx hb dX11_put_34 (by decide) ?_
        refine lv_istore_n (lv' := [(3, .int 1), (0, .ref mm), (1, .int 1), (2, .int y)]) hx hb dX11_put_38 rfl hl (by decide) rfl (fun ls hl => ?_)
        refine lv_iload_n hx hb dX11_put_39 rfl (lv_at hl 0 rfl) ?_
        refine lv_if_ne (tgt := 50) hx hb dX11_put_40 (by decide) (fun c7 => ?_) (fun c7 => absurd c7 (by decide))
        refine lv_aload_n hx hb dX11_put_50 rfl (lv_at hl 1 rfl) ?_
        refine va_get (D := D) (ci := 11) (v := .ref nw) (C := RX11) (T := TX11) (N := 19) hx hb hts zi11_ hown hK hP 0 rfl rfl 0 (by decide) z1_ (fun _ h9 => h9) rfl dX11_put_51 ?_
        refine lv_iconst (v := 2) hx hb dX11_put_54 (by decide) ?_
        refine lv_iload_n hx hb dX11_put_55 rfl (lv_at hl 2 rfl) ?_
        refine lv_iadd hx hb dX11_put_56 ?_
        refine lv_topi (fun x8 ex8 => ?_)
        obtain rfl : x8 = 3 := by rw [ex8]; decide +kernel
        refine my_iald hx hb hK hP 1 1 rfl rfl (by rw [vp_in_iff]; decide +kernel) (k := 3) (by decide +kernel) dX11_put_57 ?_
        rw [show F 3 = 0 from hz 3 (by decide) (by decide)]
        refine lv_istore (lv' := [(4, .int 0), (3, .int 1), (0, .ref mm), (1, .int 1), (2, .int y)]) hx hb dX11_put_58 hl (by decide) rfl (fun ls hl => ?_)
        refine lv_aload_n hx hb dX11_put_60 rfl (lv_at hl 2 rfl) ?_
        refine va_get (D := D) (ci := 11) (v := .ref nw) (C := RX11) (T := TX11) (N := 19) hx hb hts zi11_ hown hK hP 0 rfl rfl 0 (by decide) z1_ (fun _ h9 => h9) rfl dX11_put_61 ?_
        refine lv_iconst (v := 2) hx hb dX11_put_64 (by decide) ?_
        refine lv_iload_n hx hb dX11_put_65 rfl (lv_at hl 3 rfl) ?_
        refine lv_iadd hx hb dX11_put_66 ?_
        refine lv_topi (fun x9 ex9 => ?_)
        obtain rfl : x9 = 3 := by rw [ex9]; decide +kernel
        refine lv_iload_n hx hb dX11_put_67 rfl (lv_at hl 4 rfl) ?_
        refine my_iast hx hb hK hP hD hS 1 1 rfl rfl (by rw [vp_in_iff]; decide +kernel) (k := 3) (by decide +kernel) dX11_put_68 (fun H locs hP hD hS => ?_)
        have hP : va_P D vwCl [(mm, .inr (11, [.ref nw, .ref kp, .ref ik, .ref rf, .int 0, .int 0, .ref sd, .ref fr, .ref qu, .int 0, .ref me, .ref by_, .int 0, .int 0, .int 0, .int 0, .int 0, .ref nx, .int 0])), (nw, .inl (cy 1, 122, .inl (upd F 3 y))), (rf, .inl (cy 1, 3, .inl (fun _ => 0)))] H := hP
        have hD : va_D A [(mm, .inr (11, [.ref nw, .ref kp, .ref ik, .ref rf, .int 0, .int 0, .ref sd, .ref fr, .ref qu, .int 0, .ref me, .ref by_, .int 0, .int 0, .int 0, .int 0, .int 0, .ref nx, .int 0])), (nw, .inl (cy 1, 122, .inl (upd F 3 y))), (rf, .inl (cy 1, 3, .inl (fun _ => 0)))] := hD
        refine lv_iload hx hb dX11_put_69 (lv_at hl 0 rfl) ?_
        have hP9 := hP.sub (ws' := []) [] rfl
        have hD9 := hD.sub (ws' := []) [] (by decide) rfl
        exact W.iret (v := 0) hx hb hr (fun t ht hW => ⟨⟨0, (), rfl, (by first | (simp [sp_put, c1, har5, hbr5]; done) | (exfalso; simp_all; done)), by rw [ht]; exact hP9, hD9⟩, hS.F ht⟩) hS.2.2 dX11_put_71
      · skip
        have hnr5 : ¬ ((-1) ≤ y ∧ y ≤ 1) := fun q => hnr5 ⟨(z_w (-1) (by decide)).1.mpr q.1, (z_w 1 (by decide)).2.mpr q.2⟩
        refine lv_if_eq (tgt := 37) hx hb dX11_put_30 (by decide) (fun c10 => ?_) (fun c10 => absurd c10 (by decide))
        refine lv_iconst (v := 0) hx hb dX11_put_37 (by decide) ?_
        refine lv_istore_n (lv' := [(3, .int 0), (0, .ref mm), (1, .int 1), (2, .int y)]) hx hb dX11_put_38 rfl hl (by decide) rfl (fun ls hl => ?_)
        refine lv_iload_n hx hb dX11_put_39 rfl (lv_at hl 0 rfl) ?_
        refine lv_if_ne (tgt := 50) hx hb dX11_put_40 (by decide) (fun c11 => absurd c11 (by decide)) (fun c11 => ?_)
        refine lv_aload_n hx hb dX11_put_43 rfl (lv_at hl 1 rfl) ?_
        refine lv_bipush (v := (-10)) hx hb dX11_put_44 (by decide) ?_
        refine wr_i (wr := [(nw, .inl (cy 1, 122, .inl F))]) (va_runV (As := [.int (-10)]) (rest := []) ⟨hx, hb, hml, hown, hts⟩ (m_bad l D cy mm nw kp ik rf sd fr qu me by_ nx (fun _ => 0) (-10) _) (cwV 1 hts gX11_put_X11_bad rfl rfl rfl (by decide +kernel) ⟨Nat.le_of_ble_eq_true rfl, Nat.le_of_ble_eq_true rfl⟩) (pV (ci := 11) (k := 0) hKA (hP.sub (ws' := [(mm, .inr (11, [.ref nw, .ref kp, .ref ik, .ref rf, .int 0, .int 0, .ref sd, .ref fr, .ref qu, .int 0, .ref me, .ref by_, .int 0, .int 0, .int 0, .int 0, .int 0, .ref nx, .int 0])), (rf, .inl (cy 1, 3, .inl (fun _ => 0)))]) [0, 2] rfl) (hD.sub (ws' := [(mm, .inr (11, [.ref nw, .ref kp, .ref ik, .ref rf, .int 0, .int 0, .ref sd, .ref fr, .ref qu, .int 0, .ref me, .ref by_, .int 0, .int 0, .int 0, .int 0, .int 0, .ref nx, .int 0])), (rf, .inl (cy 1, 3, .inl (fun _ => 0)))]) [0, 2] (by decide) rfl) rfl rfl) rfl rfl hl.1 rfl (lv_room (Nat.le_of_ble_eq_true rfl)) dX11_put_46 ⟨Nat.le_of_ble_eq_true rfl, Nat.le_of_ble_eq_true rfl⟩) hP hD hS hA [0, 2] [1] rfl rfl (by decide +kernel) (by decide +kernel) (fun r12 ur12 H locs hwr12 hP hD hS => ?_)
        have hP : va_P D vwCl [(nw, .inl (cy 1, 122, .inl F))] H := hP
        have hD : va_D A [(nw, .inl (cy 1, 122, .inl F))] := hD
        subst hwr12
        have hP9 := hP.sub (ws' := []) [] rfl
        have hD9 := hD.sub (ws' := []) [] (by decide) rfl
        exact W.iret (v := (-10)) hx hb hr (fun t ht hW => ⟨⟨(-10), (), rfl, (by first | (simp [sp_put, c1, hnr5]; done) | (exfalso; simp_all; done)), by rw [ht]; exact hP9, hD9⟩, hS.F ht⟩) hS.2.2 dX11_put_49
  · skip
    subst c1
    refine lv_iload_n hx hb dX11_put_4 rfl (lv_at hl 2 rfl) ?_
    refine lv_i2l hx hb dX11_put_5 rfl ?_
    refine lv_lconst (v := 0) hx hb dX11_put_6 (by decide) ?_
    refine lv_ldc2 hx hb hown z3_ dX11_put_7 ?_
    refine rd_i (va_runS (As := [.long y.toInt64, .long 0, .long 4]) (rest := []) ⟨hx, hb, hml, hown, hts⟩ (c_X11_in l D cy y.toInt64 0 4 _) (va_cwS 3 hts gX11_put_X11_in rfl rfl rfl (by decide +kernel) ⟨Nat.le_of_ble_eq_true rfl, Nat.le_of_ble_eq_true rfl⟩) (pS hKA pE (dE (A := A))) rfl rfl hl.1 rfl (lv_room (Nat.le_of_ble_eq_true rfl)) dX11_put_10 ⟨Nat.le_of_ble_eq_true rfl, Nat.le_of_ble_eq_true rfl⟩) hP hS hA (fun r13 H locs hwr13 hP hS => ?_)
    rcases hwr13 with ⟨rfl, har13, hbr13⟩ | ⟨rfl, hnr13⟩
    · skip
      have har13 : 0 ≤ y := (z_w 0 (by decide)).1.mp har13
      have hbr13 : y ≤ 4 := (z_w 4 (by decide)).2.mp hbr13
      refine lv_if_ne (tgt := 33) hx hb dX11_put_13 (by decide) (fun c14 => ?_) (fun c14 => absurd c14 (by decide))
      refine lv_iconst (v := 1) hx hb dX11_put_33 (by decide) ?_
      refine lv_goto (tgt := 38) hx hb dX11_put_34 (by decide) ?_
      refine lv_istore_n (lv' := [(3, .int 1), (0, .ref mm), (1, .int 0), (2, .int y)]) hx hb dX11_put_38 rfl hl (by decide) rfl (fun ls hl => ?_)
      refine lv_iload_n hx hb dX11_put_39 rfl (lv_at hl 0 rfl) ?_
      refine lv_if_ne (tgt := 50) hx hb dX11_put_40 (by decide) (fun c15 => ?_) (fun c15 => absurd c15 (by decide))
      refine lv_aload_n hx hb dX11_put_50 rfl (lv_at hl 1 rfl) ?_
      refine va_get (D := D) (ci := 11) (v := .ref nw) (C := RX11) (T := TX11) (N := 19) hx hb hts zi11_ hown hK hP 0 rfl rfl 0 (by decide) z1_ (fun _ h9 => h9) rfl dX11_put_51 ?_
      refine lv_iconst (v := 2) hx hb dX11_put_54 (by decide) ?_
      refine lv_iload_n hx hb dX11_put_55 rfl (lv_at hl 2 rfl) ?_
      refine lv_iadd hx hb dX11_put_56 ?_
      refine lv_topi (fun x16 ex16 => ?_)
      obtain rfl : x16 = 2 := by rw [ex16]; decide +kernel
      refine my_iald hx hb hK hP 1 1 rfl rfl (by rw [vp_in_iff]; decide +kernel) (k := 2) (by decide +kernel) dX11_put_57 ?_
      rw [show F 2 = 1 from h2]
      refine lv_istore (lv' := [(4, .int 1), (3, .int 1), (0, .ref mm), (1, .int 0), (2, .int y)]) hx hb dX11_put_58 hl (by decide) rfl (fun ls hl => ?_)
      refine lv_aload_n hx hb dX11_put_60 rfl (lv_at hl 2 rfl) ?_
      refine va_get (D := D) (ci := 11) (v := .ref nw) (C := RX11) (T := TX11) (N := 19) hx hb hts zi11_ hown hK hP 0 rfl rfl 0 (by decide) z1_ (fun _ h9 => h9) rfl dX11_put_61 ?_
      refine lv_iconst (v := 2) hx hb dX11_put_64 (by decide) ?_
      refine lv_iload_n hx hb dX11_put_65 rfl (lv_at hl 3 rfl) ?_
      refine lv_iadd hx hb dX11_put_66 ?_
      refine lv_topi (fun x17 ex17 => ?_)
      obtain rfl : x17 = 2 := by rw [ex17]; decide +kernel
      refine lv_iload_n hx hb dX11_put_67 rfl (lv_at hl 4 rfl) ?_
      refine my_iast hx hb hK hP hD hS 1 1 rfl rfl (by rw [vp_in_iff]; decide +kernel) (k := 2) (by decide +kernel) dX11_put_68 (fun H locs hP hD hS => ?_)
      have hP : va_P D vwCl [(mm, .inr (11, [.ref nw, .ref kp, .ref ik, .ref rf, .int 0, .int 0, .ref sd, .ref fr, .ref qu, .int 0, .ref me, .ref by_, .int 0, .int 0, .int 0, .int 0, .int 0, .ref nx, .int 0])), (nw, .inl (cy 1, 122, .inl (upd F 2 y))), (rf, .inl (cy 1, 3, .inl (fun _ => 0)))] H := hP
      have hD : va_D A [(mm, .inr (11, [.ref nw, .ref kp, .ref ik, .ref rf, .int 0, .int 0, .ref sd, .ref fr, .ref qu, .int 0, .ref me, .ref by_, .int 0, .int 0, .int 0, .int 0, .int 0, .ref nx, .int 0])), (nw, .inl (cy 1, 122, .inl (upd F 2 y))), (rf, .inl (cy 1, 3, .inl (fun _ => 0)))] := hD
      refine lv_iload hx hb dX11_put_69 (lv_at hl 0 rfl) ?_
      have hP9 := hP.sub (ws' := []) [] rfl
      have hD9 := hD.sub (ws' := []) [] (by decide) rfl
      exact W.iret (v := 1) hx hb hr (fun t ht hW => ⟨⟨1, (), rfl, (by first | (simp [sp_put, har13, hbr13]; done) | (exfalso; simp_all; done)), by rw [ht]; exact hP9, hD9⟩, hS.F ht⟩) hS.2.2 dX11_put_71
    · skip
      have hnr13 : ¬ (0 ≤ y ∧ y ≤ 4) := fun q => hnr13 ⟨(z_w 0 (by decide)).1.mpr q.1, (z_w 4 (by decide)).2.mpr q.2⟩
      refine lv_if_ne (tgt := 33) hx hb dX11_put_13 (by decide) (fun c18 => absurd c18 (by decide)) (fun c18 => ?_)
      refine lv_iload_n hx hb dX11_put_16 rfl (lv_at hl 1 rfl) ?_
      refine lv_iconst (v := 1) hx hb dX11_put_17 (by decide) ?_
      refine lv_icmp_ne (tgt := 37) hx hb dX11_put_18 (by decide) (fun c19 => ?_) (fun c19 => absurd c19 (by decide))
      refine lv_iconst (v := 0) hx hb dX11_put_37 (by decide) ?_
      refine lv_istore_n (lv' := [(3, .int 0), (0, .ref mm), (1, .int 0), (2, .int y)]) hx hb dX11_put_38 rfl hl (by decide) rfl (fun ls hl => ?_)
      refine lv_iload_n hx hb dX11_put_39 rfl (lv_at hl 0 rfl) ?_
      refine lv_if_ne (tgt := 50) hx hb dX11_put_40 (by decide) (fun c20 => absurd c20 (by decide)) (fun c20 => ?_)
      refine lv_aload_n hx hb dX11_put_43 rfl (lv_at hl 1 rfl) ?_
      refine lv_bipush (v := (-10)) hx hb dX11_put_44 (by decide) ?_
      refine wr_i (wr := [(nw, .inl (cy 1, 122, .inl F))]) (va_runV (As := [.int (-10)]) (rest := []) ⟨hx, hb, hml, hown, hts⟩ (m_bad l D cy mm nw kp ik rf sd fr qu me by_ nx (fun _ => 0) (-10) _) (cwV 1 hts gX11_put_X11_bad rfl rfl rfl (by decide +kernel) ⟨Nat.le_of_ble_eq_true rfl, Nat.le_of_ble_eq_true rfl⟩) (pV (ci := 11) (k := 0) hKA (hP.sub (ws' := [(mm, .inr (11, [.ref nw, .ref kp, .ref ik, .ref rf, .int 0, .int 0, .ref sd, .ref fr, .ref qu, .int 0, .ref me, .ref by_, .int 0, .int 0, .int 0, .int 0, .int 0, .ref nx, .int 0])), (rf, .inl (cy 1, 3, .inl (fun _ => 0)))]) [0, 2] rfl) (hD.sub (ws' := [(mm, .inr (11, [.ref nw, .ref kp, .ref ik, .ref rf, .int 0, .int 0, .ref sd, .ref fr, .ref qu, .int 0, .ref me, .ref by_, .int 0, .int 0, .int 0, .int 0, .int 0, .ref nx, .int 0])), (rf, .inl (cy 1, 3, .inl (fun _ => 0)))]) [0, 2] (by decide) rfl) rfl rfl) rfl rfl hl.1 rfl (lv_room (Nat.le_of_ble_eq_true rfl)) dX11_put_46 ⟨Nat.le_of_ble_eq_true rfl, Nat.le_of_ble_eq_true rfl⟩) hP hD hS hA [0, 2] [1] rfl rfl (by decide +kernel) (by decide +kernel) (fun r21 ur21 H locs hwr21 hP hD hS => ?_)
      have hP : va_P D vwCl [(nw, .inl (cy 1, 122, .inl F))] H := hP
      have hD : va_D A [(nw, .inl (cy 1, 122, .inl F))] := hD
      subst hwr21
      have hP9 := hP.sub (ws' := []) [] rfl
      have hD9 := hD.sub (ws' := []) [] (by decide) rfl
      exact W.iret (v := (-10)) hx hb hr (fun t ht hW => ⟨⟨(-10), (), rfl, (by first | (simp [sp_put, hnr13]; done) | (exfalso; simp_all; done)), by rw [ht]; exact hP9, hD9⟩, hS.F ht⟩) hS.2.2 dX11_put_49

set_option maxHeartbeats 4000000 in
set_option maxRecDepth 100000 in
theorem mt_person (l : Launch) (D : va_G) (cy : Nat → ClassId) (mm nw kp ik rf sd fr qu me by_ nx : Nat) (F : Nat → Int32) (x y z : Int32) (sz : Nat) (h0 : F 0 = 6) (h1 : F 1 = 6) (h2 : F 2 = 1) (hz : ∀ k, 3 ≤ k → k < 122 → F k = 0) : Met l yX11_person wsX11_person ({ frames := 2, cells := 0, slots := 0, locals := 46 }) (va_Pc [.ref mm, .int x, .int y, .int z] (kPre D cy [(mm, .inr (11, [.ref nw, .ref kp, .ref ik, .ref rf, .int 0, .int 0, .ref sd, .ref fr, .ref qu, .int 0, .ref me, .ref by_, .int 0, .int 0, .int 0, .int 0, .int 0, .ref nx, .int 0])), (nw, .inl (cy 1, 122, .inl F)), (rf, .inl (cy 1, 3, .inl (fun _ => 0)))] sz)) (va_Qi (fun (r : Int32) (_ : Unit) => r = sp_person x y z) (fun (u : Unit) t => va_P D vwCl ([]) t.heap ∧ va_D (va_A [(mm, .inr (11, [.ref nw, .ref kp, .ref ik, .ref rf, .int 0, .int 0, .ref sd, .ref fr, .ref qu, .int 0, .ref me, .ref by_, .int 0, .int 0, .int 0, .int 0, .int 0, .ref nx, .int 0])), (nw, .inl (cy 1, 122, .inl F)), (rf, .inl (cy 1, 3, .inl (fun _ => 0)))] sz) ([])) (va_A [(mm, .inr (11, [.ref nw, .ref kp, .ref ik, .ref rf, .int 0, .int 0, .ref sd, .ref fr, .ref qu, .int 0, .ref me, .ref by_, .int 0, .int 0, .int 0, .int 0, .int 0, .ref nx, .int 0])), (nw, .inl (cy 1, 122, .inl F)), (rf, .inl (cy 1, 3, .inl (fun _ => 0)))] sz)) 0 0 (va_A [(mm, .inr (11, [.ref nw, .ref kp, .ref ik, .ref rf, .int 0, .int 0, .ref sd, .ref fr, .ref qu, .int 0, .ref me, .ref by_, .int 0, .int 0, .int 0, .int 0, .int 0, .ref nx, .int 0])), (nw, .inl (cy 1, 122, .inl F)), (rf, .inl (cy 1, 3, .inl (fun _ => 0)))] sz) := by
  refine Met.ofW (cc := cX11_person) (maxL := 4) (ret := (some .int)) (by decide) rfl ?_
  intro p e s m args below meth c s₁ B hml hv
  obtain ⟨rfl, hsz, hP, hKA, hD0⟩ := hv
  have hx := B.exec
  have hb := B.bytes
  have hr := B.returns
  have hts := atoms_spec (ws := wsX11_person) B.pre
  have hown : s.vm.findClass RX11 = some m.cls := findClass_of_methodNamed B.named
  have hlocks := B.notSynchronized
  subst hsz
  have hK := hKA.1
  have hD := hD0.self (sz := s.heap.size)
  generalize hAe : va_A [(mm, .inr (11, [.ref nw, .ref kp, .ref ik, .ref rf, .int 0, .int 0, .ref sd, .ref fr, .ref qu, .int 0, .ref me, .ref by_, .int 0, .int 0, .int 0, .int 0, .int 0, .ref nx, .int 0])), (nw, .inl (cy 1, 122, .inl F)), (rf, .inl (cy 1, 3, .inl (fun _ => 0)))] s.heap.size = A at hD ⊢
  have hA : ∀ q : Nat, s.heap.size ≤ q → A q := fun q h => by rw [← hAe]; exact Or.inr h
  have hS : va_S A s.heap s.heap [] := va_S.rf
  have hP : va_P D vwCl [(mm, .inr (11, [.ref nw, .ref kp, .ref ik, .ref rf, .int 0, .int 0, .ref sd, .ref fr, .ref qu, .int 0, .ref me, .ref by_, .int 0, .int 0, .int 0, .int 0, .int 0, .ref nx, .int 0])), (nw, .inl (cy 1, 122, .inl F)), (rf, .inl (cy 1, 3, .inl (fun _ => 0)))] s.heap := hP
  have hl := lv_entry ([.ref mm, .int x, .int y, .int z]) (n := 4) (Nat.le_of_ble_eq_true rfl)
  rw [lg_entry_eq]
  generalize (lg_sl ([.ref mm, .int x, .int y, .int z]) ++ List.replicate (4 - (lg_sl ([.ref mm, .int x, .int y, .int z])).length) Slot.unset).toArray = ls at hl ⊢
  have hl : lv_has ls 4 [(0, .ref mm), (1, .int x), (2, .int y), (3, .int z)] := hl
  have z0_ := hts (.constantLong RX11 79 5) (by decide +kernel)
  have z1_ := hts (.constantLong RX11 81 9) (by decide +kernel)
  have z2_ := hts (.fieldLink RX11 7 "HeardSeenModel" "now" "[I") (by decide +kernel)
  have zi11_ : ∀ w ∈ u_ws RX11 TX11 19, w ∈ wsX11_person := by decide +kernel
  refine lv_iload_n hx hb dX11_person_0 rfl (lv_at hl 1 rfl) ?_
  refine lv_i2l hx hb dX11_person_1 rfl ?_
  refine lv_lconst (v := 0) hx hb dX11_person_2 (by decide) ?_
  refine lv_ldc2 hx hb hown z0_ dX11_person_3 ?_
  refine rd_i (va_runS (As := [.long x.toInt64, .long 0, .long 5]) (rest := []) ⟨hx, hb, hml, hown, hts⟩ (c_X11_in l D cy x.toInt64 0 5 _) (va_cwS 3 hts gX11_person_X11_in rfl rfl rfl (by decide +kernel) ⟨Nat.le_of_ble_eq_true rfl, Nat.le_of_ble_eq_true rfl⟩) (pS hKA pE (dE (A := A))) rfl rfl hl.1 rfl (lv_room (Nat.le_of_ble_eq_true rfl)) dX11_person_6 ⟨Nat.le_of_ble_eq_true rfl, Nat.le_of_ble_eq_true rfl⟩) hP hS hA (fun r1 H locs hwr1 hP hS => ?_)
  rcases hwr1 with ⟨rfl, har1, hbr1⟩ | ⟨rfl, hnr1⟩
  · skip
    have har1 : 0 ≤ x := (z_w 0 (by decide)).1.mp har1
    have hbr1 : x ≤ 5 := (z_w 5 (by decide)).2.mp hbr1
    refine lv_if_eq (tgt := 32) hx hb dX11_person_9 (by decide) (fun c2 => absurd c2 (by decide)) (fun c2 => ?_)
    refine lv_aload_n hx hb dX11_person_12 rfl (lv_at hl 0 rfl) ?_
    refine lv_iload_n hx hb dX11_person_13 rfl (lv_at hl 2 rfl) ?_
    refine rd_i (va_runV (As := [.int y]) (rest := []) ⟨hx, hb, hml, hown, hts⟩ (m_isSquare l D cy mm nw kp ik rf sd fr qu me by_ nx F y _ h0 h1 h2 hz) (cwV 1 hts gX11_person_X11_isSquare rfl rfl rfl (by decide +kernel) ⟨Nat.le_of_ble_eq_true rfl, Nat.le_of_ble_eq_true rfl⟩) (pV (ci := 11) (k := 0) hKA (hP.sub (ws' := [(mm, .inr (11, [.ref nw, .ref kp, .ref ik, .ref rf, .int 0, .int 0, .ref sd, .ref fr, .ref qu, .int 0, .ref me, .ref by_, .int 0, .int 0, .int 0, .int 0, .int 0, .ref nx, .int 0])), (nw, .inl (cy 1, 122, .inl F))]) [0, 1] rfl) (hD.sub (ws' := [(mm, .inr (11, [.ref nw, .ref kp, .ref ik, .ref rf, .int 0, .int 0, .ref sd, .ref fr, .ref qu, .int 0, .ref me, .ref by_, .int 0, .int 0, .int 0, .int 0, .int 0, .ref nx, .int 0])), (nw, .inl (cy 1, 122, .inl F))]) [0, 1] (by decide) rfl) rfl rfl) rfl rfl hl.1 rfl (lv_room (Nat.le_of_ble_eq_true rfl)) dX11_person_14 ⟨Nat.le_of_ble_eq_true rfl, Nat.le_of_ble_eq_true rfl⟩) hP hS hA (fun r3 H locs hwr3 hP hS => ?_)
    rcases hwr3 with ⟨rfl, har3, hbr3⟩ | ⟨rfl, hnr3⟩
    · skip
      obtain ⟨jy, hjy, rfl⟩ := z_nn (n := 36) (by decide) har3 hbr3
      refine lv_if_eq (tgt := 32) hx hb dX11_person_17 (by decide) (fun c4 => absurd c4 (by decide)) (fun c4 => ?_)
      refine lv_iload_n hx hb dX11_person_20 rfl (lv_at hl 3 rfl) ?_
      refine lv_i2l hx hb dX11_person_21 rfl ?_
      refine lv_lconst (v := 0) hx hb dX11_person_22 (by decide) ?_
      refine lv_ldc2 hx hb hown z1_ dX11_person_23 ?_
      refine rd_i (va_runS (As := [.long z.toInt64, .long 0, .long 9]) (rest := []) ⟨hx, hb, hml, hown, hts⟩ (c_X11_in l D cy z.toInt64 0 9 _) (va_cwS 3 hts gX11_person_X11_in rfl rfl rfl (by decide +kernel) ⟨Nat.le_of_ble_eq_true rfl, Nat.le_of_ble_eq_true rfl⟩) (pS hKA pE (dE (A := A))) rfl rfl hl.1 rfl (lv_room (Nat.le_of_ble_eq_true rfl)) dX11_person_26 ⟨Nat.le_of_ble_eq_true rfl, Nat.le_of_ble_eq_true rfl⟩) hP hS hA (fun r5 H locs hwr5 hP hS => ?_)
      rcases hwr5 with ⟨rfl, har5, hbr5⟩ | ⟨rfl, hnr5⟩
      · skip
        have har5 : 0 ≤ z := (z_w 0 (by decide)).1.mp har5
        have hbr5 : z ≤ 9 := (z_w 9 (by decide)).2.mp hbr5
        refine lv_if_ne (tgt := 39) hx hb dX11_person_29 (by decide) (fun c6 => ?_) (fun c6 => absurd c6 (by decide))
        refine lv_aload_n hx hb dX11_person_39 rfl (lv_at hl 0 rfl) ?_
        refine lv_iload_n hx hb dX11_person_40 rfl (lv_at hl 2 rfl) ?_
        refine lv_iconst (v := (-1)) hx hb dX11_person_41 (by decide) ?_
        refine rd_i (va_runV (As := [.int (nI jy), .int (-1)]) (rest := []) ⟨hx, hb, hml, hown, hts⟩ (m_isFree l D cy mm nw kp ik rf sd fr qu me by_ nx F jy (-1) _ (by omega) (hz 4 (by decide) (by decide))) (cwV 2 hts gX11_person_X11_isFree rfl rfl rfl (by decide +kernel) ⟨Nat.le_of_ble_eq_true rfl, Nat.le_of_ble_eq_true rfl⟩) (pV (ci := 11) (k := 0) hKA (hP.sub (ws' := [(mm, .inr (11, [.ref nw, .ref kp, .ref ik, .ref rf, .int 0, .int 0, .ref sd, .ref fr, .ref qu, .int 0, .ref me, .ref by_, .int 0, .int 0, .int 0, .int 0, .int 0, .ref nx, .int 0])), (nw, .inl (cy 1, 122, .inl F))]) [0, 1] rfl) (hD.sub (ws' := [(mm, .inr (11, [.ref nw, .ref kp, .ref ik, .ref rf, .int 0, .int 0, .ref sd, .ref fr, .ref qu, .int 0, .ref me, .ref by_, .int 0, .int 0, .int 0, .int 0, .int 0, .ref nx, .int 0])), (nw, .inl (cy 1, 122, .inl F))]) [0, 1] (by decide) rfl) rfl rfl) rfl rfl hl.1 rfl (lv_room (Nat.le_of_ble_eq_true rfl)) dX11_person_42 ⟨Nat.le_of_ble_eq_true rfl, Nat.le_of_ble_eq_true rfl⟩) hP hS hA (fun r7 H locs hwr7 hP hS => ?_)
        rcases hwr7 with ⟨rfl, hfr7⟩ | ⟨rfl, hfr7⟩
        · skip
          refine lv_if_ne (tgt := 55) hx hb dX11_person_45 (by decide) (fun c8 => ?_) (fun c8 => absurd c8 (by decide))
          refine lv_aload_n hx hb dX11_person_55 rfl (lv_at hl 0 rfl) ?_
          refine rd_i (va_runV (As := []) (rest := []) ⟨hx, hb, hml, hown, hts⟩ (c_X11_people l D cy mm nw kp ik rf sd fr qu me by_ nx F _) (cwV 0 hts gX11_person_X11_people rfl rfl rfl (by decide +kernel) ⟨Nat.le_of_ble_eq_true rfl, Nat.le_of_ble_eq_true rfl⟩) (pV (ci := 11) (k := 0) hKA (hP.sub (ws' := [(mm, .inr (11, [.ref nw, .ref kp, .ref ik, .ref rf, .int 0, .int 0, .ref sd, .ref fr, .ref qu, .int 0, .ref me, .ref by_, .int 0, .int 0, .int 0, .int 0, .int 0, .ref nx, .int 0])), (nw, .inl (cy 1, 122, .inl F))]) [0, 1] rfl) (hD.sub (ws' := [(mm, .inr (11, [.ref nw, .ref kp, .ref ik, .ref rf, .int 0, .int 0, .ref sd, .ref fr, .ref qu, .int 0, .ref me, .ref by_, .int 0, .int 0, .int 0, .int 0, .int 0, .ref nx, .int 0])), (nw, .inl (cy 1, 122, .inl F))]) [0, 1] (by decide) rfl) rfl rfl) rfl rfl hl.1 rfl (lv_room (Nat.le_of_ble_eq_true rfl)) dX11_person_56 ⟨Nat.le_of_ble_eq_true rfl, Nat.le_of_ble_eq_true rfl⟩) hP hS hA (fun r9 H locs hwr9 hP hS => ?_)
          obtain rfl : r9 = 0 := by rw [hwr9]; exact hz 4 (by decide) (by decide)
          refine lv_iconst (v := 5) hx hb dX11_person_59 (by decide) ?_
          refine lv_icmp_ne (tgt := 68) hx hb dX11_person_60 (by decide) (fun c10 => ?_) (fun c10 => absurd c10 (by decide))
          refine lv_aload_n hx hb dX11_person_68 rfl (lv_at hl 0 rfl) ?_
          refine va_get (D := D) (ci := 11) (v := .ref nw) (C := RX11) (T := TX11) (N := 19) hx hb hts zi11_ hown hK hP 0 rfl rfl 0 (by decide) z2_ (fun _ h9 => h9) rfl dX11_person_69 ?_
          refine lv_iload_n hx hb dX11_person_72 rfl (lv_at hl 1 rfl) ?_
          refine lv_iload_n hx hb dX11_person_73 rfl (lv_at hl 2 rfl) ?_
          refine lv_iload_n hx hb dX11_person_74 rfl (lv_at hl 3 rfl) ?_
          refine wr_v (wr := [(mm, .inr (11, [.ref nw, .ref kp, .ref ik, .ref rf, .int 0, .int 0, .ref sd, .ref fr, .ref qu, .int 0, .ref me, .ref by_, .int 0, .int 0, .int 0, .int 0, .int 0, .ref nx, .int 0])), (rf, .inl (cy 1, 3, .inl (fun _ => 0)))]) (va_runS (As := [.ref nw, .int x, .int (nI jy), .int z]) (rest := []) ⟨hx, hb, hml, hown, hts⟩ (m_layPerson l D cy nw F x (nI jy) z _ (hz 4 (by decide) (by decide))) (va_cwS 4 hts gX11_person_X11_layPerson rfl rfl rfl (by decide +kernel) ⟨Nat.le_of_ble_eq_true rfl, Nat.le_of_ble_eq_true rfl⟩) (pS hKA (hP.sub (ws' := [(nw, .inl (cy 1, 122, .inl F))]) [1] rfl) (hD.sub (ws' := [(nw, .inl (cy 1, 122, .inl F))]) [1] (by decide) rfl)) rfl rfl hl.1 rfl (lv_room (Nat.le_of_ble_eq_true rfl)) dX11_person_75 ⟨Nat.le_of_ble_eq_true rfl, Nat.le_of_ble_eq_true rfl⟩) hP hD hS hA [1] [0, 2] rfl rfl (by decide +kernel) (by decide +kernel) (fun ur11 H locs hwr11 hP hD hS => ?_)
          obtain ⟨row12, rfl⟩ : ∃ z, z = ur11 := ⟨_, rfl⟩
          have hP : va_P D vwCl [(mm, .inr (11, [.ref nw, .ref kp, .ref ik, .ref rf, .int 0, .int 0, .ref sd, .ref fr, .ref qu, .int 0, .ref me, .ref by_, .int 0, .int 0, .int 0, .int 0, .int 0, .ref nx, .int 0])), (rf, .inl (cy 1, 3, .inl (fun _ => 0))), (nw, .inl (cy 1, 122, .inl row12))] H := hP
          have hD : va_D A [(mm, .inr (11, [.ref nw, .ref kp, .ref ik, .ref rf, .int 0, .int 0, .ref sd, .ref fr, .ref qu, .int 0, .ref me, .ref by_, .int 0, .int 0, .int 0, .int 0, .int 0, .ref nx, .int 0])), (rf, .inl (cy 1, 3, .inl (fun _ => 0))), (nw, .inl (cy 1, 122, .inl row12))] := hD
          refine lv_aload_n hx hb dX11_person_78 rfl (lv_at hl 0 rfl) ?_
          refine rd_i (va_runV (As := []) (rest := []) ⟨hx, hb, hml, hown, hts⟩ (c_X11_people l D cy mm nw kp ik rf sd fr qu me by_ nx row12 _) (cwV 0 hts gX11_person_X11_people rfl rfl rfl (by decide +kernel) ⟨Nat.le_of_ble_eq_true rfl, Nat.le_of_ble_eq_true rfl⟩) (pV (ci := 11) (k := 0) hKA (hP.sub (ws' := [(mm, .inr (11, [.ref nw, .ref kp, .ref ik, .ref rf, .int 0, .int 0, .ref sd, .ref fr, .ref qu, .int 0, .ref me, .ref by_, .int 0, .int 0, .int 0, .int 0, .int 0, .ref nx, .int 0])), (nw, .inl (cy 1, 122, .inl row12))]) [0, 2] rfl) (hD.sub (ws' := [(mm, .inr (11, [.ref nw, .ref kp, .ref ik, .ref rf, .int 0, .int 0, .ref sd, .ref fr, .ref qu, .int 0, .ref me, .ref by_, .int 0, .int 0, .int 0, .int 0, .int 0, .ref nx, .int 0])), (nw, .inl (cy 1, 122, .inl row12))]) [0, 2] (by decide) rfl) rfl rfl) rfl rfl hl.1 rfl (lv_room (Nat.le_of_ble_eq_true rfl)) dX11_person_79 ⟨Nat.le_of_ble_eq_true rfl, Nat.le_of_ble_eq_true rfl⟩) hP hS hA (fun r13 H locs hwr13 hP hS => ?_)
          obtain rfl : r13 = 1 := by rw [hwr13]; assumption
          refine lv_iconst (v := 1) hx hb dX11_person_82 (by decide) ?_
          refine lv_isub hx hb dX11_person_83 ?_
          refine lv_topi (fun x14 ex14 => ?_)
          obtain rfl : x14 = 0 := by rw [ex14]; decide +kernel
          have hP9 := hP.sub (ws' := []) [] rfl
          have hD9 := hD.sub (ws' := []) [] (by decide) rfl
          exact W.iret (v := 0) hx hb hr (fun t ht hW => ⟨⟨0, (), rfl, (by simp [sp_person, har1, hbr1, har3, hbr3, har5, hbr5, hfr7]), by rw [ht]; exact hP9, hD9⟩, hS.F ht⟩) hS.2.2 dX11_person_84
        · exact absurd (hz (20 + jy) (by omega) (by omega)) hfr7
      · skip
        have hnr5 : ¬ (0 ≤ z ∧ z ≤ 9) := fun q => hnr5 ⟨(z_w 0 (by decide)).1.mpr q.1, (z_w 9 (by decide)).2.mpr q.2⟩
        refine lv_if_ne (tgt := 39) hx hb dX11_person_29 (by decide) (fun c15 => absurd c15 (by decide)) (fun c15 => ?_)
        refine lv_aload_n hx hb dX11_person_32 rfl (lv_at hl 0 rfl) ?_
        refine lv_bipush (v := (-2)) hx hb dX11_person_33 (by decide) ?_
        refine wr_i (wr := [(nw, .inl (cy 1, 122, .inl F))]) (va_runV (As := [.int (-2)]) (rest := []) ⟨hx, hb, hml, hown, hts⟩ (m_bad l D cy mm nw kp ik rf sd fr qu me by_ nx (fun _ => 0) (-2) _) (cwV 1 hts gX11_person_X11_bad rfl rfl rfl (by decide +kernel) ⟨Nat.le_of_ble_eq_true rfl, Nat.le_of_ble_eq_true rfl⟩) (pV (ci := 11) (k := 0) hKA (hP.sub (ws' := [(mm, .inr (11, [.ref nw, .ref kp, .ref ik, .ref rf, .int 0, .int 0, .ref sd, .ref fr, .ref qu, .int 0, .ref me, .ref by_, .int 0, .int 0, .int 0, .int 0, .int 0, .ref nx, .int 0])), (rf, .inl (cy 1, 3, .inl (fun _ => 0)))]) [0, 2] rfl) (hD.sub (ws' := [(mm, .inr (11, [.ref nw, .ref kp, .ref ik, .ref rf, .int 0, .int 0, .ref sd, .ref fr, .ref qu, .int 0, .ref me, .ref by_, .int 0, .int 0, .int 0, .int 0, .int 0, .ref nx, .int 0])), (rf, .inl (cy 1, 3, .inl (fun _ => 0)))]) [0, 2] (by decide) rfl) rfl rfl) rfl rfl hl.1 rfl (lv_room (Nat.le_of_ble_eq_true rfl)) dX11_person_35 ⟨Nat.le_of_ble_eq_true rfl, Nat.le_of_ble_eq_true rfl⟩) hP hD hS hA [0, 2] [1] rfl rfl (by decide +kernel) (by decide +kernel) (fun r16 ur16 H locs hwr16 hP hD hS => ?_)
        have hP : va_P D vwCl [(nw, .inl (cy 1, 122, .inl F))] H := hP
        have hD : va_D A [(nw, .inl (cy 1, 122, .inl F))] := hD
        subst hwr16
        have hP9 := hP.sub (ws' := []) [] rfl
        have hD9 := hD.sub (ws' := []) [] (by decide) rfl
        exact W.iret (v := (-2)) hx hb hr (fun t ht hW => ⟨⟨(-2), (), rfl, (by simp [sp_person, har1, hbr1, har3, hbr3, hnr5]), by rw [ht]; exact hP9, hD9⟩, hS.F ht⟩) hS.2.2 dX11_person_38
    · skip
      refine lv_if_eq (tgt := 32) hx hb dX11_person_17 (by decide) (fun c17 => ?_) (fun c17 => absurd c17 (by decide))
      refine lv_aload_n hx hb dX11_person_32 rfl (lv_at hl 0 rfl) ?_
      refine lv_bipush (v := (-2)) hx hb dX11_person_33 (by decide) ?_
      refine wr_i (wr := [(nw, .inl (cy 1, 122, .inl F))]) (va_runV (As := [.int (-2)]) (rest := []) ⟨hx, hb, hml, hown, hts⟩ (m_bad l D cy mm nw kp ik rf sd fr qu me by_ nx (fun _ => 0) (-2) _) (cwV 1 hts gX11_person_X11_bad rfl rfl rfl (by decide +kernel) ⟨Nat.le_of_ble_eq_true rfl, Nat.le_of_ble_eq_true rfl⟩) (pV (ci := 11) (k := 0) hKA (hP.sub (ws' := [(mm, .inr (11, [.ref nw, .ref kp, .ref ik, .ref rf, .int 0, .int 0, .ref sd, .ref fr, .ref qu, .int 0, .ref me, .ref by_, .int 0, .int 0, .int 0, .int 0, .int 0, .ref nx, .int 0])), (rf, .inl (cy 1, 3, .inl (fun _ => 0)))]) [0, 2] rfl) (hD.sub (ws' := [(mm, .inr (11, [.ref nw, .ref kp, .ref ik, .ref rf, .int 0, .int 0, .ref sd, .ref fr, .ref qu, .int 0, .ref me, .ref by_, .int 0, .int 0, .int 0, .int 0, .int 0, .ref nx, .int 0])), (rf, .inl (cy 1, 3, .inl (fun _ => 0)))]) [0, 2] (by decide) rfl) rfl rfl) rfl rfl hl.1 rfl (lv_room (Nat.le_of_ble_eq_true rfl)) dX11_person_35 ⟨Nat.le_of_ble_eq_true rfl, Nat.le_of_ble_eq_true rfl⟩) hP hD hS hA [0, 2] [1] rfl rfl (by decide +kernel) (by decide +kernel) (fun r18 ur18 H locs hwr18 hP hD hS => ?_)
      have hP : va_P D vwCl [(nw, .inl (cy 1, 122, .inl F))] H := hP
      have hD : va_D A [(nw, .inl (cy 1, 122, .inl F))] := hD
      subst hwr18
      have hP9 := hP.sub (ws' := []) [] rfl
      have hD9 := hD.sub (ws' := []) [] (by decide) rfl
      exact W.iret (v := (-2)) hx hb hr (fun t ht hW => ⟨⟨(-2), (), rfl, (by simp [sp_person, har1, hbr1, hnr3]), by rw [ht]; exact hP9, hD9⟩, hS.F ht⟩) hS.2.2 dX11_person_38
  · skip
    have hnr1 : ¬ (0 ≤ x ∧ x ≤ 5) := fun q => hnr1 ⟨(z_w 0 (by decide)).1.mpr q.1, (z_w 5 (by decide)).2.mpr q.2⟩
    refine lv_if_eq (tgt := 32) hx hb dX11_person_9 (by decide) (fun c19 => ?_) (fun c19 => absurd c19 (by decide))
    refine lv_aload_n hx hb dX11_person_32 rfl (lv_at hl 0 rfl) ?_
    refine lv_bipush (v := (-2)) hx hb dX11_person_33 (by decide) ?_
    refine wr_i (wr := [(nw, .inl (cy 1, 122, .inl F))]) (va_runV (As := [.int (-2)]) (rest := []) ⟨hx, hb, hml, hown, hts⟩ (m_bad l D cy mm nw kp ik rf sd fr qu me by_ nx (fun _ => 0) (-2) _) (cwV 1 hts gX11_person_X11_bad rfl rfl rfl (by decide +kernel) ⟨Nat.le_of_ble_eq_true rfl, Nat.le_of_ble_eq_true rfl⟩) (pV (ci := 11) (k := 0) hKA (hP.sub (ws' := [(mm, .inr (11, [.ref nw, .ref kp, .ref ik, .ref rf, .int 0, .int 0, .ref sd, .ref fr, .ref qu, .int 0, .ref me, .ref by_, .int 0, .int 0, .int 0, .int 0, .int 0, .ref nx, .int 0])), (rf, .inl (cy 1, 3, .inl (fun _ => 0)))]) [0, 2] rfl) (hD.sub (ws' := [(mm, .inr (11, [.ref nw, .ref kp, .ref ik, .ref rf, .int 0, .int 0, .ref sd, .ref fr, .ref qu, .int 0, .ref me, .ref by_, .int 0, .int 0, .int 0, .int 0, .int 0, .ref nx, .int 0])), (rf, .inl (cy 1, 3, .inl (fun _ => 0)))]) [0, 2] (by decide) rfl) rfl rfl) rfl rfl hl.1 rfl (lv_room (Nat.le_of_ble_eq_true rfl)) dX11_person_35 ⟨Nat.le_of_ble_eq_true rfl, Nat.le_of_ble_eq_true rfl⟩) hP hD hS hA [0, 2] [1] rfl rfl (by decide +kernel) (by decide +kernel) (fun r20 ur20 H locs hwr20 hP hD hS => ?_)
    have hP : va_P D vwCl [(nw, .inl (cy 1, 122, .inl F))] H := hP
    have hD : va_D A [(nw, .inl (cy 1, 122, .inl F))] := hD
    subst hwr20
    have hP9 := hP.sub (ws' := []) [] rfl
    have hD9 := hD.sub (ws' := []) [] (by decide) rfl
    exact W.iret (v := (-2)) hx hb hr (fun t ht hW => ⟨⟨(-2), (), rfl, (by simp [sp_person, hnr1]), by rw [ht]; exact hP9, hD9⟩, hS.F ht⟩) hS.2.2 dX11_person_38

set_option maxHeartbeats 4000000 in
set_option maxRecDepth 100000 in
theorem mt_move (l : Launch) (D : va_G) (cy : Nat → ClassId) (mm nw kp ik rf sd fr qu me by_ nx : Nat) (F : Nat → Int32) (x y : Int32) (sz : Nat) (h0 : F 0 = 6) (h1 : F 1 = 6) (h2 : F 2 = 1) (hz : ∀ k, 3 ≤ k → k < 122 → F k = 0) : Met l yX11_move wsX11_move ({ frames := 2, cells := 0, slots := 0, locals := 46 }) (va_Pc [.ref mm, .int x, .int y] (kPre D cy [(mm, .inr (11, [.ref nw, .ref kp, .ref ik, .ref rf, .int 0, .int 0, .ref sd, .ref fr, .ref qu, .int 0, .ref me, .ref by_, .int 0, .int 0, .int 0, .int 0, .int 0, .ref nx, .int 0])), (nw, .inl (cy 1, 122, .inl F)), (rf, .inl (cy 1, 3, .inl (fun _ => 0)))] sz)) (va_Qi (fun (r : Int32) (_ : Unit) => r = -10) (fun (u : Unit) t => va_P D vwCl ([]) t.heap ∧ va_D (va_A [(mm, .inr (11, [.ref nw, .ref kp, .ref ik, .ref rf, .int 0, .int 0, .ref sd, .ref fr, .ref qu, .int 0, .ref me, .ref by_, .int 0, .int 0, .int 0, .int 0, .int 0, .ref nx, .int 0])), (nw, .inl (cy 1, 122, .inl F)), (rf, .inl (cy 1, 3, .inl (fun _ => 0)))] sz) ([])) (va_A [(mm, .inr (11, [.ref nw, .ref kp, .ref ik, .ref rf, .int 0, .int 0, .ref sd, .ref fr, .ref qu, .int 0, .ref me, .ref by_, .int 0, .int 0, .int 0, .int 0, .int 0, .ref nx, .int 0])), (nw, .inl (cy 1, 122, .inl F)), (rf, .inl (cy 1, 3, .inl (fun _ => 0)))] sz)) 0 0 (va_A [(mm, .inr (11, [.ref nw, .ref kp, .ref ik, .ref rf, .int 0, .int 0, .ref sd, .ref fr, .ref qu, .int 0, .ref me, .ref by_, .int 0, .int 0, .int 0, .int 0, .int 0, .ref nx, .int 0])), (nw, .inl (cy 1, 122, .inl F)), (rf, .inl (cy 1, 3, .inl (fun _ => 0)))] sz) := by
  refine Met.ofW (cc := cX11_move) (maxL := 4) (ret := (some .int)) (by decide) rfl ?_
  intro p e s m args below meth c s₁ B hml hv
  obtain ⟨rfl, hsz, hP, hKA, hD0⟩ := hv
  have hx := B.exec
  have hb := B.bytes
  have hr := B.returns
  have hts := atoms_spec (ws := wsX11_move) B.pre
  have hown : s.vm.findClass RX11 = some m.cls := findClass_of_methodNamed B.named
  have hlocks := B.notSynchronized
  subst hsz
  have hK := hKA.1
  have hD := hD0.self (sz := s.heap.size)
  generalize hAe : va_A [(mm, .inr (11, [.ref nw, .ref kp, .ref ik, .ref rf, .int 0, .int 0, .ref sd, .ref fr, .ref qu, .int 0, .ref me, .ref by_, .int 0, .int 0, .int 0, .int 0, .int 0, .ref nx, .int 0])), (nw, .inl (cy 1, 122, .inl F)), (rf, .inl (cy 1, 3, .inl (fun _ => 0)))] s.heap.size = A at hD ⊢
  have hA : ∀ q : Nat, s.heap.size ≤ q → A q := fun q h => by rw [← hAe]; exact Or.inr h
  have hS : va_S A s.heap s.heap [] := va_S.rf
  have hP : va_P D vwCl [(mm, .inr (11, [.ref nw, .ref kp, .ref ik, .ref rf, .int 0, .int 0, .ref sd, .ref fr, .ref qu, .int 0, .ref me, .ref by_, .int 0, .int 0, .int 0, .int 0, .int 0, .ref nx, .int 0])), (nw, .inl (cy 1, 122, .inl F)), (rf, .inl (cy 1, 3, .inl (fun _ => 0)))] s.heap := hP
  have hl := lv_entry ([.ref mm, .int x, .int y]) (n := 4) (Nat.le_of_ble_eq_true rfl)
  rw [lg_entry_eq]
  generalize (lg_sl ([.ref mm, .int x, .int y]) ++ List.replicate (4 - (lg_sl ([.ref mm, .int x, .int y])).length) Slot.unset).toArray = ls at hl ⊢
  have hl : lv_has ls 4 [(0, .ref mm), (1, .int x), (2, .int y)] := hl
  refine lv_aload_n hx hb dX11_move_0 rfl (lv_at hl 0 rfl) ?_
  refine lv_iload_n hx hb dX11_move_1 rfl (lv_at hl 1 rfl) ?_
  refine rd_i (va_runV (As := [.int x]) (rest := []) ⟨hx, hb, hml, hown, hts⟩ (m_isOne l D cy mm nw kp ik rf sd fr qu me by_ nx F x _ h0 h1 h2 hz) (cwV 1 hts gX11_move_X11_isOne rfl rfl rfl (by decide +kernel) ⟨Nat.le_of_ble_eq_true rfl, Nat.le_of_ble_eq_true rfl⟩) (pV (ci := 11) (k := 0) hKA (hP.sub (ws' := [(mm, .inr (11, [.ref nw, .ref kp, .ref ik, .ref rf, .int 0, .int 0, .ref sd, .ref fr, .ref qu, .int 0, .ref me, .ref by_, .int 0, .int 0, .int 0, .int 0, .int 0, .ref nx, .int 0])), (nw, .inl (cy 1, 122, .inl F))]) [0, 1] rfl) (hD.sub (ws' := [(mm, .inr (11, [.ref nw, .ref kp, .ref ik, .ref rf, .int 0, .int 0, .ref sd, .ref fr, .ref qu, .int 0, .ref me, .ref by_, .int 0, .int 0, .int 0, .int 0, .int 0, .ref nx, .int 0])), (nw, .inl (cy 1, 122, .inl F))]) [0, 1] (by decide) rfl) rfl rfl) rfl rfl hl.1 rfl (lv_room (Nat.le_of_ble_eq_true rfl)) dX11_move_2 ⟨Nat.le_of_ble_eq_true rfl, Nat.le_of_ble_eq_true rfl⟩) hP hS hA (fun r1 H locs hwr1 hP hS => ?_)
  rcases hwr1 with rfl
  · skip
    refine lv_if_eq (tgt := 16) hx hb dX11_move_5 (by decide) (fun c2 => ?_) (fun c2 => absurd c2 (by decide))
    refine lv_aload_n hx hb dX11_move_16 rfl (lv_at hl 0 rfl) ?_
    refine lv_bipush (v := (-10)) hx hb dX11_move_17 (by decide) ?_
    refine wr_i (wr := [(nw, .inl (cy 1, 122, .inl F))]) (va_runV (As := [.int (-10)]) (rest := []) ⟨hx, hb, hml, hown, hts⟩ (m_bad l D cy mm nw kp ik rf sd fr qu me by_ nx (fun _ => 0) (-10) _) (cwV 1 hts gX11_move_X11_bad rfl rfl rfl (by decide +kernel) ⟨Nat.le_of_ble_eq_true rfl, Nat.le_of_ble_eq_true rfl⟩) (pV (ci := 11) (k := 0) hKA (hP.sub (ws' := [(mm, .inr (11, [.ref nw, .ref kp, .ref ik, .ref rf, .int 0, .int 0, .ref sd, .ref fr, .ref qu, .int 0, .ref me, .ref by_, .int 0, .int 0, .int 0, .int 0, .int 0, .ref nx, .int 0])), (rf, .inl (cy 1, 3, .inl (fun _ => 0)))]) [0, 2] rfl) (hD.sub (ws' := [(mm, .inr (11, [.ref nw, .ref kp, .ref ik, .ref rf, .int 0, .int 0, .ref sd, .ref fr, .ref qu, .int 0, .ref me, .ref by_, .int 0, .int 0, .int 0, .int 0, .int 0, .ref nx, .int 0])), (rf, .inl (cy 1, 3, .inl (fun _ => 0)))]) [0, 2] (by decide) rfl) rfl rfl) rfl rfl hl.1 rfl (lv_room (Nat.le_of_ble_eq_true rfl)) dX11_move_19 ⟨Nat.le_of_ble_eq_true rfl, Nat.le_of_ble_eq_true rfl⟩) hP hD hS hA [0, 2] [1] rfl rfl (by decide +kernel) (by decide +kernel) (fun r3 ur3 H locs hwr3 hP hD hS => ?_)
    have hP : va_P D vwCl [(nw, .inl (cy 1, 122, .inl F))] H := hP
    have hD : va_D A [(nw, .inl (cy 1, 122, .inl F))] := hD
    subst hwr3
    have hP9 := hP.sub (ws' := []) [] rfl
    have hD9 := hD.sub (ws' := []) [] (by decide) rfl
    exact W.iret (v := (-10)) hx hb hr (fun t ht hW => ⟨⟨(-10), (), rfl, rfl, by rw [ht]; exact hP9, hD9⟩, hS.F ht⟩) hS.2.2 dX11_move_22
