theorem dX11_best_0 : decode cX11_best 0 = .ok (.iload_n 1, 1) := by decide +kernel
theorem dX11_best_1 : decode cX11_best 1 = .ok (.i2l, 1) := by decide +kernel
theorem dX11_best_2 : decode cX11_best 2 = .ok (.lconst 0, 1) := by decide +kernel
theorem dX11_best_3 : decode cX11_best 3 = .ok (.lconst 1, 1) := by decide +kernel
set_option maxRecDepth 20000 in
theorem ggX11_best_X11_in : GoodIn wsX11_best wsX11_in := goodIn_r _ [5] (by decide +kernel) (by decide +kernel)
set_option maxRecDepth 20000 in
theorem gX11_best_X11_in : GoodIn wsX11_best (va_wsS RX11 49 yX11_in wsX11_in) := goodIn_app (goodIn_of _ (by decide +kernel)) ggX11_best_X11_in
theorem dX11_best_4 : decode cX11_best 4 = .ok (.invokestatic 49, 3) := by decide +kernel
theorem dX11_best_7 : decode cX11_best 7 = .ok (.ifCond .ne 10, 3) := by decide +kernel
theorem dX11_best_17 : decode cX11_best 17 = .ok (.aload_n 0, 1) := by decide +kernel
set_option maxRecDepth 20000 in
theorem ggX11_best_X11_manySpeakers : GoodIn wsX11_best wsX11_manySpeakers := goodIn_r _ [14, 15, 16, 17, 4, 18, 19, 20, 21, 22, 1, 23, 24, 25, 26, 27, 28, 29, 30, 31, 32, 33, 34, 35, 36, 37, 38, 39, 40, 41, 42, 43, 44, 45, 46, 47, 48, 49, 50, 51, 52, 53, 54, 55, 56, 57, 58, 59, 60, 61, 62, 63, 64, 65, 66, 67, 68, 69, 70, 71, 72, 73, 74, 75, 76, 77, 78, 79, 80, 81, 82, 83, 84, 85, 86, 87, 88, 89, 97, 98, 99, 100, 101, 102, 103, 104, 105, 106, 107, 108, 109, 110, 111, 112, 113, 114, 115] (by decide +kernel) (by decide +kernel)
set_option maxRecDepth 20000 in
theorem gX11_best_X11_manySpeakers : GoodIn wsX11_best (wsV RX11 188 RX11 yX11_manySpeakers wsX11_manySpeakers) := goodIn_app (goodIn_of _ (by decide +kernel)) ggX11_best_X11_manySpeakers
theorem dX11_best_18 : decode cX11_best 18 = .ok (.invokevirtual 188, 3) := by decide +kernel
theorem dX11_best_21 : decode cX11_best 21 = .ok (.istore_n 2, 1) := by decide +kernel
theorem dX11_best_22 : decode cX11_best 22 = .ok (.iconst (-1), 1) := by decide +kernel
theorem dX11_best_23 : decode cX11_best 23 = .ok (.istore_n 3, 1) := by decide +kernel
theorem dX11_best_24 : decode cX11_best 24 = .ok (.iload_n 1, 1) := by decide +kernel
theorem dX11_best_25 : decode cX11_best 25 = .ok (.ifCond .ne 8, 3) := by decide +kernel
theorem dX11_best_33 : decode cX11_best 33 = .ok (.bipush 56, 2) := by decide +kernel
theorem dX11_best_35 : decode cX11_best 35 = .ok (.istore 4, 2) := by decide +kernel
theorem dX11_best_37 : decode cX11_best 37 = .ok (.iconst 0, 1) := by decide +kernel
theorem dX11_best_38 : decode cX11_best 38 = .ok (.istore 5, 2) := by decide +kernel
theorem dX11_best_40 : decode cX11_best 40 = .ok (.iload 5, 2) := by decide +kernel
theorem dX11_best_42 : decode cX11_best 42 = .ok (.aload_n 0, 1) := by decide +kernel
set_option maxRecDepth 20000 in
theorem ggX11_best_X11_squares : GoodIn wsX11_best wsX11_squares := goodIn_r _ [50, 1, 97, 98, 99, 100, 101, 102, 103, 104, 105, 106, 107, 108, 109, 110, 111, 112, 113, 114, 115] (by decide +kernel) (by decide +kernel)
set_option maxRecDepth 20000 in
theorem gX11_best_X11_squares : GoodIn wsX11_best (wsV RX11 45 RX11 yX11_squares wsX11_squares) := goodIn_app (goodIn_of _ (by decide +kernel)) ggX11_best_X11_squares
theorem dX11_best_43 : decode cX11_best 43 = .ok (.invokevirtual 45, 3) := by decide +kernel
theorem dX11_best_46 : decode cX11_best 46 = .ok (.if_icmp .ge 86, 3) := by decide +kernel
theorem dX11_best_132 : decode cX11_best 132 = .ok (.iload_n 3, 1) := by decide +kernel
theorem dX11_best_133 : decode cX11_best 133 = .ok (.ireturn, 1) := by decide +kernel
theorem dX11_best_49 : decode cX11_best 49 = .ok (.aload_n 0, 1) := by decide +kernel
theorem dX11_best_50 : decode cX11_best 50 = .ok (.iload 5, 2) := by decide +kernel
theorem dX11_best_52 : decode cX11_best 52 = .ok (.iconst (-1), 1) := by decide +kernel
set_option maxRecDepth 20000 in
theorem ggX11_best_X11_isFree : GoodIn wsX11_best wsX11_isFree := goodIn_r _ [93, 1, 94, 95, 4, 96, 97, 98, 99, 100, 101, 102, 103, 104, 105, 106, 107, 108, 109, 110, 111, 112, 113, 114, 115] (by decide +kernel) (by decide +kernel)
set_option maxRecDepth 20000 in
theorem gX11_best_X11_isFree : GoodIn wsX11_best (wsV RX11 83 RX11 yX11_isFree wsX11_isFree) := goodIn_app (goodIn_of _ (by decide +kernel)) ggX11_best_X11_isFree
theorem dX11_best_53 : decode cX11_best 53 = .ok (.invokevirtual 83, 3) := by decide +kernel
theorem dX11_best_56 : decode cX11_best 56 = .ok (.ifCond .eq 70, 3) := by decide +kernel
theorem dX11_best_59 : decode cX11_best 59 = .ok (.aload_n 0, 1) := by decide +kernel
theorem dX11_best_60 : decode cX11_best 60 = .ok (.getfield 7, 3) := by decide +kernel
theorem dX11_best_63 : decode cX11_best 63 = .ok (.iload 4, 2) := by decide +kernel
theorem dX11_best_65 : decode cX11_best 65 = .ok (.iload 5, 2) := by decide +kernel
theorem dX11_best_67 : decode cX11_best 67 = .ok (.iadd, 1) := by decide +kernel
theorem dX11_best_68 : decode cX11_best 68 = .ok (.iaload, 1) := by decide +kernel
theorem dX11_best_69 : decode cX11_best 69 = .ok (.ifCond .ne 57, 3) := by decide +kernel
theorem dX11_best_126 : decode cX11_best 126 = .ok (.iinc 5 1, 3) := by decide +kernel
theorem dX11_best_129 : decode cX11_best 129 = .ok (.goto (-89), 3) := by decide +kernel
theorem dX11_best_72 : decode cX11_best 72 = .ok (.aload_n 0, 1) := by decide +kernel
theorem dX11_best_73 : decode cX11_best 73 = .ok (.getfield 7, 3) := by decide +kernel
theorem dX11_best_76 : decode cX11_best 76 = .ok (.iload 4, 2) := by decide +kernel
theorem dX11_best_78 : decode cX11_best 78 = .ok (.iload 5, 2) := by decide +kernel
theorem dX11_best_80 : decode cX11_best 80 = .ok (.iadd, 1) := by decide +kernel
theorem dX11_best_81 : decode cX11_best 81 = .ok (.iconst 1, 1) := by decide +kernel
theorem dX11_best_82 : decode cX11_best 82 = .ok (.iastore, 1) := by decide +kernel
theorem dX11_best_83 : decode cX11_best 83 = .ok (.aload_n 0, 1) := by decide +kernel
theorem dX11_best_84 : decode cX11_best 84 = .ok (.invokevirtual 188, 3) := by decide +kernel
theorem dX11_best_87 : decode cX11_best 87 = .ok (.istore 6, 2) := by decide +kernel
theorem dX11_best_89 : decode cX11_best 89 = .ok (.aload_n 0, 1) := by decide +kernel
theorem dX11_best_90 : decode cX11_best 90 = .ok (.getfield 7, 3) := by decide +kernel
theorem dX11_best_93 : decode cX11_best 93 = .ok (.iload 4, 2) := by decide +kernel
theorem dX11_best_95 : decode cX11_best 95 = .ok (.iload 5, 2) := by decide +kernel
theorem dX11_best_97 : decode cX11_best 97 = .ok (.iadd, 1) := by decide +kernel
theorem dX11_best_98 : decode cX11_best 98 = .ok (.iconst 0, 1) := by decide +kernel
theorem dX11_best_99 : decode cX11_best 99 = .ok (.iastore, 1) := by decide +kernel
theorem dX11_best_100 : decode cX11_best 100 = .ok (.iload 6, 2) := by decide +kernel
theorem dX11_best_102 : decode cX11_best 102 = .ok (.iload_n 2, 1) := by decide +kernel
theorem dX11_best_103 : decode cX11_best 103 = .ok (.if_icmp .le 8, 3) := by decide +kernel
theorem dX11_best_111 : decode cX11_best 111 = .ok (.iload_n 3, 1) := by decide +kernel
theorem dX11_best_112 : decode cX11_best 112 = .ok (.istore_n 3, 1) := by decide +kernel
theorem dX11_best_113 : decode cX11_best 113 = .ok (.iload 6, 2) := by decide +kernel
theorem dX11_best_115 : decode cX11_best 115 = .ok (.iload_n 2, 1) := by decide +kernel
theorem dX11_best_116 : decode cX11_best 116 = .ok (.if_icmp .le 8, 3) := by decide +kernel
theorem dX11_best_124 : decode cX11_best 124 = .ok (.iload_n 2, 1) := by decide +kernel
theorem dX11_best_125 : decode cX11_best 125 = .ok (.istore_n 2, 1) := by decide +kernel
theorem dX11_best_28 : decode cX11_best 28 = .ok (.bipush 20, 2) := by decide +kernel
theorem dX11_best_30 : decode cX11_best 30 = .ok (.goto 5, 3) := by decide +kernel
theorem dX11_best_10 : decode cX11_best 10 = .ok (.aload_n 0, 1) := by decide +kernel
theorem dX11_best_11 : decode cX11_best 11 = .ok (.bipush (-2), 2) := by decide +kernel
set_option maxRecDepth 20000 in
theorem ggX11_best_X11_bad : GoodIn wsX11_best wsX11_bad := goodIn_r _ [9, 10, 97, 98, 99, 100, 101, 102, 103, 104, 105, 106, 107, 108, 109, 110, 111, 112, 113, 114, 115] (by decide +kernel) (by decide +kernel)
set_option maxRecDepth 20000 in
theorem gX11_best_X11_bad : GoodIn wsX11_best (wsV RX11 60 RX11 yX11_bad wsX11_bad) := goodIn_app (goodIn_of _ (by decide +kernel)) ggX11_best_X11_bad
theorem dX11_best_13 : decode cX11_best 13 = .ok (.invokevirtual 60, 3) := by decide +kernel
theorem dX11_best_16 : decode cX11_best 16 = .ok (.ireturn, 1) := by decide +kernel
set_option maxHeartbeats 4000000 in
set_option maxRecDepth 100000 in
theorem mt_best (l : Launch) (D : va_G) (cy : Nat → ClassId) (mm nw kp ik rf sd fr qu me by_ nx : Nat) (F : Nat → Int32) (x : Int32) (sz : Nat) (h0 : F 0 = 6) (h1 : F 1 = 6) (h2 : F 2 = 1) (hz : ∀ k, 3 ≤ k → k < 122 → F k = 0) : Met l yX11_best wsX11_best ({ frames := 3, cells := 0, slots := 0, locals := 68 }) (va_Pc [.ref mm, .int x] (kPre D cy [(mm, .inr (11, [.ref nw, .ref kp, .ref ik, .ref rf, .int 0, .int 0, .ref sd, .ref fr, .ref qu, .int 0, .ref me, .ref by_, .int 0, .int 0, .int 0, .int 0, .int 0, .ref nx, .int 0])), (nw, .inl (cy 1, 122, .inl F)), (rf, .inl (cy 1, 3, .inl (fun _ => 0)))] sz)) (va_Qi (fun (r : Int32) (_ : Unit) => r = sp_01 x (-1)) (fun (u : Unit) t => va_P D vwCl ([]) t.heap ∧ va_D (va_A [(mm, .inr (11, [.ref nw, .ref kp, .ref ik, .ref rf, .int 0, .int 0, .ref sd, .ref fr, .ref qu, .int 0, .ref me, .ref by_, .int 0, .int 0, .int 0, .int 0, .int 0, .ref nx, .int 0])), (nw, .inl (cy 1, 122, .inl F)), (rf, .inl (cy 1, 3, .inl (fun _ => 0)))] sz) ([])) (va_A [(mm, .inr (11, [.ref nw, .ref kp, .ref ik, .ref rf, .int 0, .int 0, .ref sd, .ref fr, .ref qu, .int 0, .ref me, .ref by_, .int 0, .int 0, .int 0, .int 0, .int 0, .ref nx, .int 0])), (nw, .inl (cy 1, 122, .inl F)), (rf, .inl (cy 1, 3, .inl (fun _ => 0)))] sz)) 0 0 (va_A [(mm, .inr (11, [.ref nw, .ref kp, .ref ik, .ref rf, .int 0, .int 0, .ref sd, .ref fr, .ref qu, .int 0, .ref me, .ref by_, .int 0, .int 0, .int 0, .int 0, .int 0, .ref nx, .int 0])), (nw, .inl (cy 1, 122, .inl F)), (rf, .inl (cy 1, 3, .inl (fun _ => 0)))] sz) := by
  refine Met.ofW (cc := cX11_best) (maxL := 7) (ret := (some .int)) (by decide) rfl ?_
  intro p e s m args below meth c s₁ B hml hv
  obtain ⟨rfl, hsz, hP, hKA, hD0⟩ := hv
  have hx := B.exec
  have hb := B.bytes
  have hr := B.returns
  have hts := atoms_spec (ws := wsX11_best) B.pre
  have hown : s.vm.findClass RX11 = some m.cls := findClass_of_methodNamed B.named
  have hlocks := B.notSynchronized
  subst hsz
  have hK := hKA.1
  have hD := hD0.self (sz := s.heap.size)
  generalize hAe : va_A [(mm, .inr (11, [.ref nw, .ref kp, .ref ik, .ref rf, .int 0, .int 0, .ref sd, .ref fr, .ref qu, .int 0, .ref me, .ref by_, .int 0, .int 0, .int 0, .int 0, .int 0, .ref nx, .int 0])), (nw, .inl (cy 1, 122, .inl F)), (rf, .inl (cy 1, 3, .inl (fun _ => 0)))] s.heap.size = A at hD ⊢
  have hA : ∀ q : Nat, s.heap.size ≤ q → A q := fun q h => by rw [← hAe]; exact Or.inr h
  have hS : va_S A s.heap s.heap [] := va_S.rf
  have hP : va_P D vwCl [(mm, .inr (11, [.ref nw, .ref kp, .ref ik, .ref rf, .int 0, .int 0, .ref sd, .ref fr, .ref qu, .int 0, .ref me, .ref by_, .int 0, .int 0, .int 0, .int 0, .int 0, .ref nx, .int 0])), (nw, .inl (cy 1, 122, .inl F)), (rf, .inl (cy 1, 3, .inl (fun _ => 0)))] s.heap := hP
  have hl := lv_entry ([.ref mm, .int x]) (n := 7) (Nat.le_of_ble_eq_true rfl)
  rw [lg_entry_eq]
  generalize (lg_sl ([.ref mm, .int x]) ++ List.replicate (7 - (lg_sl ([.ref mm, .int x])).length) Slot.unset).toArray = ls at hl ⊢
  have hl : lv_has ls 7 [(0, .ref mm), (1, .int x)] := hl
  have z0_ := hts (.fieldLink RX11 7 "HeardSeenModel" "now" "[I") (by decide +kernel)
  have zi11_ : ∀ w ∈ u_ws RX11 TX11 19, w ∈ wsX11_best := by decide +kernel
  refine lv_iload_n hx hb dX11_best_0 rfl (lv_at hl 1 rfl) ?_
  refine lv_i2l hx hb dX11_best_1 rfl ?_
  refine lv_lconst (v := 0) hx hb dX11_best_2 (by decide) ?_
  refine lv_lconst (v := 1) hx hb dX11_best_3 (by decide) ?_
  refine rd_i (va_runS (As := [.long x.toInt64, .long 0, .long 1]) (rest := []) ⟨hx, hb, hml, hown, hts⟩ (c_X11_in l D cy x.toInt64 0 1 _) (va_cwS 3 hts gX11_best_X11_in rfl rfl rfl (by decide +kernel) ⟨Nat.le_of_ble_eq_true rfl, Nat.le_of_ble_eq_true rfl⟩) (pS hKA pE (dE (A := A))) rfl rfl hl.1 rfl (lv_room (Nat.le_of_ble_eq_true rfl)) dX11_best_4 ⟨Nat.le_of_ble_eq_true rfl, Nat.le_of_ble_eq_true rfl⟩) hP hS hA (fun r1 H locs hwr1 hP hS => ?_)
  rcases hwr1 with ⟨rfl, har1, hbr1⟩ | ⟨rfl, hnr1⟩
  · skip
    have har1 : 0 ≤ x := (z_w 0 (by decide)).1.mp har1
    have hbr1 : x ≤ 1 := (z_w 1 (by decide)).2.mp hbr1
    refine lv_if_ne (tgt := 17) hx hb dX11_best_7 (by decide) (fun c2 => ?_) (fun c2 => absurd c2 (by decide))
    refine lv_aload_n hx hb dX11_best_17 rfl (lv_at hl 0 rfl) ?_
    refine rd_i (va_runV (As := []) (rest := []) ⟨hx, hb, hml, hown, hts⟩ (m_manySpeakers l D cy mm nw kp ik rf sd fr qu me by_ nx F _ (hz 4 (by decide) (by decide))) (cwV 0 hts gX11_best_X11_manySpeakers rfl rfl rfl (by decide +kernel) ⟨Nat.le_of_ble_eq_true rfl, Nat.le_of_ble_eq_true rfl⟩) (pV (ci := 11) (k := 0) hKA (hP.sub (ws' := [(mm, .inr (11, [.ref nw, .ref kp, .ref ik, .ref rf, .int 0, .int 0, .ref sd, .ref fr, .ref qu, .int 0, .ref me, .ref by_, .int 0, .int 0, .int 0, .int 0, .int 0, .ref nx, .int 0])), (nw, .inl (cy 1, 122, .inl F))]) [0, 1] rfl) (hD.sub (ws' := [(mm, .inr (11, [.ref nw, .ref kp, .ref ik, .ref rf, .int 0, .int 0, .ref sd, .ref fr, .ref qu, .int 0, .ref me, .ref by_, .int 0, .int 0, .int 0, .int 0, .int 0, .ref nx, .int 0])), (nw, .inl (cy 1, 122, .inl F))]) [0, 1] (by decide) rfl) rfl rfl) rfl rfl hl.1 rfl (lv_room (Nat.le_of_ble_eq_true rfl)) dX11_best_18 ⟨Nat.le_of_ble_eq_true rfl, Nat.le_of_ble_eq_true rfl⟩) hP hS hA (fun r3 H locs hwr3 hP hS => ?_)
    rcases hwr3 with rfl
    · skip
      refine lv_istore_n (lv' := [(2, .int 0), (0, .ref mm), (1, .int x)]) hx hb dX11_best_21 rfl hl (by decide) rfl (fun ls hl => ?_)
      refine lv_iconst (v := (-1)) hx hb dX11_best_22 (by decide) ?_
      refine lv_istore_n (lv' := [(3, .int (-1)), (2, .int 0), (0, .ref mm), (1, .int x)]) hx hb dX11_best_23 rfl hl (by decide) rfl (fun ls hl => ?_)
      refine lv_iload_n hx hb dX11_best_24 rfl (lv_at hl 3 rfl) ?_
      refine lv_if_ne (tgt := 33) hx hb dX11_best_25 (by decide) (fun c4 => ?_) (fun c4 => ?_)
      · skip
        refine lv_bipush (v := 56) hx hb dX11_best_33 (by decide) ?_
        refine lv_istore (lv' := [(4, .int 56), (3, .int (-1)), (2, .int 0), (0, .ref mm), (1, .int x)]) hx hb dX11_best_35 hl (by decide) rfl (fun ls hl => ?_)
        refine lv_iconst (v := 0) hx hb dX11_best_37 (by decide) ?_
        refine lv_istore (lv' := [(5, .int 0), (4, .int 56), (3, .int (-1)), (2, .int 0), (0, .ref mm), (1, .int x)]) hx hb dX11_best_38 hl (by decide) rfl (fun ls hl => ?_)
        have lp40 : ∀ (n40 : Nat) (k : Nat) (f : Nat → Int32), k ≤ 36 → f 0 = 6 → f 1 = 6 → f 4 = 0 → 36 - k < n40 → ∀ (H : Heap) (locs : List Loc), va_P D vwCl [(mm, .inr (11, [.ref nw, .ref kp, .ref ik, .ref rf, .int 0, .int 0, .ref sd, .ref fr, .ref qu, .int 0, .ref me, .ref by_, .int 0, .int 0, .int 0, .int 0, .int 0, .ref nx, .int 0])), (nw, .inl (cy 1, 122, .inl f)), (rf, .inl (cy 1, 3, .inl (fun _ => 0)))] H → va_D A [(mm, .inr (11, [.ref nw, .ref kp, .ref ik, .ref rf, .int 0, .int 0, .ref sd, .ref fr, .ref qu, .int 0, .ref me, .ref by_, .int 0, .int 0, .int 0, .int 0, .int 0, .ref nx, .int 0])), (nw, .inl (cy 1, 122, .inl f)), (rf, .inl (cy 1, 3, .inl (fun _ => 0)))] → va_S A s.heap H locs → ∀ ls : Array Slot, lv_has ls 7 [(0, .ref mm), (1, .int x), (2, .int 0), (3, .int (-1)), (4, .int 56), (5, .int (nI k))] → W p l e (headSpec wsX11_best ({ frames := 3, cells := 0, slots := 0, locals := 68 })).room s m [.ref mm, .int x].toArray below meth c H locs 0 0 (MQ below (va_Qi (fun (r : Int32) (_ : Unit) => r = sp_01 x (-1)) (fun (u : Unit) t => va_P D vwCl ([]) t.heap ∧ va_D A ([])) A) [.ref mm, .int x].toArray s 0 0 A) (F0 m 40 ls []) := by
          intro n40
          induction n40 with
          | zero => intro k f hk q0 q1 q4 hm; exact absurd hm (Nat.not_lt_zero _)
          | succ n40 ih40 =>
            intro k f hk q0 q1 q4 hm40 H locs hP hD hS ls hl
            refine lv_iload hx hb dX11_best_40 (lv_at hl 5 rfl) ?_
            refine lv_aload_n hx hb dX11_best_42 rfl (lv_at hl 0 rfl) ?_
            refine rd_i (va_runV (As := []) (rest := [.int (nI k)]) ⟨hx, hb, hml, hown, hts⟩ (c_X11_squares l D cy mm nw kp ik rf sd fr qu me by_ nx f _) (cwV 0 hts gX11_best_X11_squares rfl rfl rfl (by decide +kernel) ⟨Nat.le_of_ble_eq_true rfl, Nat.le_of_ble_eq_true rfl⟩) (pV (ci := 11) (k := 0) hKA (hP.sub (ws' := [(mm, .inr (11, [.ref nw, .ref kp, .ref ik, .ref rf, .int 0, .int 0, .ref sd, .ref fr, .ref qu, .int 0, .ref me, .ref by_, .int 0, .int 0, .int 0, .int 0, .int 0, .ref nx, .int 0])), (nw, .inl (cy 1, 122, .inl f))]) [0, 1] rfl) (hD.sub (ws' := [(mm, .inr (11, [.ref nw, .ref kp, .ref ik, .ref rf, .int 0, .int 0, .ref sd, .ref fr, .ref qu, .int 0, .ref me, .ref by_, .int 0, .int 0, .int 0, .int 0, .int 0, .ref nx, .int 0])), (nw, .inl (cy 1, 122, .inl f))]) [0, 1] (by decide) rfl) rfl rfl) rfl rfl hl.1 rfl (lv_room (Nat.le_of_ble_eq_true rfl)) dX11_best_43 ⟨Nat.le_of_ble_eq_true rfl, Nat.le_of_ble_eq_true rfl⟩) hP hS hA (fun r5 H locs hwr5 hP hS => ?_)
            obtain rfl : r5 = 36 := by rw [hwr5]; rw [q0, q1]; decide
            refine lv_icmp_ge (tgt := 132) hx hb dX11_best_46 (by decide) (fun c6 => ?_) (fun c6 => ?_)
            · skip
              refine lv_iload_n hx hb dX11_best_132 rfl (lv_at hl 3 rfl) ?_
              have hP9 := hP.sub (ws' := []) [] rfl
              have hD9 := hD.sub (ws' := []) [] (by decide) rfl
              exact W.iret (v := (-1)) hx hb hr (fun t ht hW => ⟨⟨(-1), (), rfl, (by simp [sp_01, har1, hbr1]), by rw [ht]; exact hP9, hD9⟩, hS.F ht⟩) hS.2.2 dX11_best_133
            · skip
              have hk36 := nlt_of (n := 36) rfl hk (by decide) (by assumption)
              refine lv_aload_n hx hb dX11_best_49 rfl (lv_at hl 0 rfl) ?_
              refine lv_iload hx hb dX11_best_50 (lv_at hl 5 rfl) ?_
              refine lv_iconst (v := (-1)) hx hb dX11_best_52 (by decide) ?_
              refine rd_i (va_runV (As := [.int (nI k), .int (-1)]) (rest := []) ⟨hx, hb, hml, hown, hts⟩ (m_isFree l D cy mm nw kp ik rf sd fr qu me by_ nx f k (-1) _ (by omega) (by assumption)) (cwV 2 hts gX11_best_X11_isFree rfl rfl rfl (by decide +kernel) ⟨Nat.le_of_ble_eq_true rfl, Nat.le_of_ble_eq_true rfl⟩) (pV (ci := 11) (k := 0) hKA (hP.sub (ws' := [(mm, .inr (11, [.ref nw, .ref kp, .ref ik, .ref rf, .int 0, .int 0, .ref sd, .ref fr, .ref qu, .int 0, .ref me, .ref by_, .int 0, .int 0, .int 0, .int 0, .int 0, .ref nx, .int 0])), (nw, .inl (cy 1, 122, .inl f))]) [0, 1] rfl) (hD.sub (ws' := [(mm, .inr (11, [.ref nw, .ref kp, .ref ik, .ref rf, .int 0, .int 0, .ref sd, .ref fr, .ref qu, .int 0, .ref me, .ref by_, .int 0, .int 0, .int 0, .int 0, .int 0, .ref nx, .int 0])), (nw, .inl (cy 1, 122, .inl f))]) [0, 1] (by decide) rfl) rfl rfl) rfl rfl hl.1 rfl (lv_room (Nat.le_of_ble_eq_true rfl)) dX11_best_53 ⟨Nat.le_of_ble_eq_true rfl, Nat.le_of_ble_eq_true rfl⟩) hP hS hA (fun r7 H locs hwr7 hP hS => ?_)
              rcases hwr7 with ⟨rfl, hfr7⟩ | ⟨rfl, hfr7⟩
              · skip
                refine lv_if_eq (tgt := 126) hx hb dX11_best_56 (by decide) (fun c8 => absurd c8 (by decide)) (fun c8 => ?_)
                refine lv_aload_n hx hb dX11_best_59 rfl (lv_at hl 0 rfl) ?_
                refine va_get (D := D) (ci := 11) (v := .ref nw) (C := RX11) (T := TX11) (N := 19) hx hb hts zi11_ hown hK hP 0 rfl rfl 0 (by decide) z0_ (fun _ h9 => h9) rfl dX11_best_60 ?_
                refine lv_iload hx hb dX11_best_63 (lv_at hl 4 rfl) ?_
                refine lv_iload hx hb dX11_best_65 (lv_at hl 5 rfl) ?_
                refine lv_iadd hx hb dX11_best_67 ?_
                refine lv_topi (fun x9 ex9 => ?_)
                obtain rfl : x9 = nI (56 + k) := by rw [ex9]; exact nI_add _ _
                refine my_iald hx hb hK hP 1 1 rfl rfl (vp_in_nI (by omega) (by decide)) (nI_clamp (by omega)) dX11_best_68 ?_
                refine lv_if_ne (tgt := 126) hx hb dX11_best_69 (by decide) (fun c10 => ?_) (fun c10 => ?_)
                · skip
                  refine lv_iinc (v := nI (k + 1)) (lv' := [(5, .int (nI (k + 1))), (0, .ref mm), (1, .int x), (2, .int 0), (3, .int (-1)), (4, .int 56)]) hx hb dX11_best_126 hl (k := 5) rfl (nI_1 _) (by decide) rfl (fun ls hl => ?_)
                  refine lv_goto (tgt := 40) hx hb dX11_best_129 (by decide) ?_
                  exact ih40 (k + 1) (f) (by omega) (by (repeat rw [u_ne _ _ (by omega)]); assumption) (by (repeat rw [u_ne _ _ (by omega)]); assumption) (by (repeat rw [u_ne _ _ (by omega)]); assumption) (by omega) _ _ (hP.sub (ws' := [(mm, .inr (11, [.ref nw, .ref kp, .ref ik, .ref rf, .int 0, .int 0, .ref sd, .ref fr, .ref qu, .int 0, .ref me, .ref by_, .int 0, .int 0, .int 0, .int 0, .int 0, .ref nx, .int 0])), (nw, .inl (cy 1, 122, .inl f)), (rf, .inl (cy 1, 3, .inl (fun _ => 0)))]) [0, 1, 2] rfl) (hD.sub (ws' := [(mm, .inr (11, [.ref nw, .ref kp, .ref ik, .ref rf, .int 0, .int 0, .ref sd, .ref fr, .ref qu, .int 0, .ref me, .ref by_, .int 0, .int 0, .int 0, .int 0, .int 0, .ref nx, .int 0])), (nw, .inl (cy 1, 122, .inl f)), (rf, .inl (cy 1, 3, .inl (fun _ => 0)))]) [0, 1, 2] (by decide) rfl) hS ls (lv_sub hl [1, 2, 3, 4, 5, 0] rfl)
                · skip
                  refine lv_aload_n hx hb dX11_best_72 rfl (lv_at hl 0 rfl) ?_
                  refine va_get (D := D) (ci := 11) (v := .ref nw) (C := RX11) (T := TX11) (N := 19) hx hb hts zi11_ hown hK hP 0 rfl rfl 0 (by decide) z0_ (fun _ h9 => h9) rfl dX11_best_73 ?_
                  refine lv_iload hx hb dX11_best_76 (lv_at hl 4 rfl) ?_
                  refine lv_iload hx hb dX11_best_78 (lv_at hl 5 rfl) ?_
                  refine lv_iadd hx hb dX11_best_80 ?_
                  refine lv_topi (fun x11 ex11 => ?_)
                  obtain rfl : x11 = nI (56 + k) := by rw [ex11]; exact nI_add _ _
                  refine lv_iconst (v := 1) hx hb dX11_best_81 (by decide) ?_
                  refine my_iast hx hb hK hP hD hS 1 1 rfl rfl (vp_in_nI (by omega) (by decide)) (nI_clamp (by omega)) dX11_best_82 (fun H locs hP hD hS => ?_)
                  have hP : va_P D vwCl [(mm, .inr (11, [.ref nw, .ref kp, .ref ik, .ref rf, .int 0, .int 0, .ref sd, .ref fr, .ref qu, .int 0, .ref me, .ref by_, .int 0, .int 0, .int 0, .int 0, .int 0, .ref nx, .int 0])), (nw, .inl (cy 1, 122, .inl (upd f (56 + k) 1))), (rf, .inl (cy 1, 3, .inl (fun _ => 0)))] H := hP
                  have hD : va_D A [(mm, .inr (11, [.ref nw, .ref kp, .ref ik, .ref rf, .int 0, .int 0, .ref sd, .ref fr, .ref qu, .int 0, .ref me, .ref by_, .int 0, .int 0, .int 0, .int 0, .int 0, .ref nx, .int 0])), (nw, .inl (cy 1, 122, .inl (upd f (56 + k) 1))), (rf, .inl (cy 1, 3, .inl (fun _ => 0)))] := hD
                  refine lv_aload_n hx hb dX11_best_83 rfl (lv_at hl 0 rfl) ?_
                  refine rd_i (va_runV (As := []) (rest := []) ⟨hx, hb, hml, hown, hts⟩ (m_manySpeakers l D cy mm nw kp ik rf sd fr qu me by_ nx (upd f (56 + k) 1) _ (by (repeat rw [u_ne _ _ (by omega)]); assumption)) (cwV 0 hts gX11_best_X11_manySpeakers rfl rfl rfl (by decide +kernel) ⟨Nat.le_of_ble_eq_true rfl, Nat.le_of_ble_eq_true rfl⟩) (pV (ci := 11) (k := 0) hKA (hP.sub (ws' := [(mm, .inr (11, [.ref nw, .ref kp, .ref ik, .ref rf, .int 0, .int 0, .ref sd, .ref fr, .ref qu, .int 0, .ref me, .ref by_, .int 0, .int 0, .int 0, .int 0, .int 0, .ref nx, .int 0])), (nw, .inl (cy 1, 122, .inl (upd f (56 + k) 1)))]) [0, 1] rfl) (hD.sub (ws' := [(mm, .inr (11, [.ref nw, .ref kp, .ref ik, .ref rf, .int 0, .int 0, .ref sd, .ref fr, .ref qu, .int 0, .ref me, .ref by_, .int 0, .int 0, .int 0, .int 0, .int 0, .ref nx, .int 0])), (nw, .inl (cy 1, 122, .inl (upd f (56 + k) 1)))]) [0, 1] (by decide) rfl) rfl rfl) rfl rfl hl.1 rfl (lv_room (Nat.le_of_ble_eq_true rfl)) dX11_best_84 ⟨Nat.le_of_ble_eq_true rfl, Nat.le_of_ble_eq_true rfl⟩) hP hS hA (fun r12 H locs hwr12 hP hS => ?_)
                  rcases hwr12 with rfl
                  · skip
                    refine lv_istore (lv' := [(6, .int 0), (0, .ref mm), (1, .int x), (2, .int 0), (3, .int (-1)), (4, .int 56), (5, .int (nI k))]) hx hb dX11_best_87 hl (by decide) rfl (fun ls hl => ?_)
                    refine lv_aload_n hx hb dX11_best_89 rfl (lv_at hl 1 rfl) ?_
                    refine va_get (D := D) (ci := 11) (v := .ref nw) (C := RX11) (T := TX11) (N := 19) hx hb hts zi11_ hown hK hP 0 rfl rfl 0 (by decide) z0_ (fun _ h9 => h9) rfl dX11_best_90 ?_
                    refine lv_iload hx hb dX11_best_93 (lv_at hl 5 rfl) ?_
                    refine lv_iload hx hb dX11_best_95 (lv_at hl 6 rfl) ?_
                    refine lv_iadd hx hb dX11_best_97 ?_
                    refine lv_topi (fun x13 ex13 => ?_)
                    obtain rfl : x13 = nI (56 + k) := by rw [ex13]; exact nI_add _ _
                    refine lv_iconst (v := 0) hx hb dX11_best_98 (by decide) ?_
                    refine my_iast hx hb hK hP hD hS 1 1 rfl rfl (vp_in_nI (by omega) (by decide)) (nI_clamp (by omega)) dX11_best_99 (fun H locs hP hD hS => ?_)
                    have hP : va_P D vwCl [(mm, .inr (11, [.ref nw, .ref kp, .ref ik, .ref rf, .int 0, .int 0, .ref sd, .ref fr, .ref qu, .int 0, .ref me, .ref by_, .int 0, .int 0, .int 0, .int 0, .int 0, .ref nx, .int 0])), (nw, .inl (cy 1, 122, .inl (upd (upd f (56 + k) 1) (56 + k) 0))), (rf, .inl (cy 1, 3, .inl (fun _ => 0)))] H := hP
                    have hD : va_D A [(mm, .inr (11, [.ref nw, .ref kp, .ref ik, .ref rf, .int 0, .int 0, .ref sd, .ref fr, .ref qu, .int 0, .ref me, .ref by_, .int 0, .int 0, .int 0, .int 0, .int 0, .ref nx, .int 0])), (nw, .inl (cy 1, 122, .inl (upd (upd f (56 + k) 1) (56 + k) 0))), (rf, .inl (cy 1, 3, .inl (fun _ => 0)))] := hD
                    refine lv_iload hx hb dX11_best_100 (lv_at hl 0 rfl) ?_
                    refine lv_iload_n hx hb dX11_best_102 rfl (lv_at hl 3 rfl) ?_
                    refine lv_icmp_le (tgt := 111) hx hb dX11_best_103 (by decide) (fun c14 => ?_) (fun c14 => absurd c14 (by decide))
                    refine lv_iload_n hx hb dX11_best_111 rfl (lv_at hl 4 rfl) ?_
                    refine lv_istore_n (lv' := [(3, .int (-1)), (6, .int 0), (0, .ref mm), (1, .int x), (2, .int 0), (4, .int 56), (5, .int (nI k))]) hx hb dX11_best_112 rfl hl (by decide) rfl (fun ls hl => ?_)
                    refine lv_iload hx hb dX11_best_113 (lv_at hl 1 rfl) ?_
                    refine lv_iload_n hx hb dX11_best_115 rfl (lv_at hl 4 rfl) ?_
                    refine lv_icmp_le (tgt := 124) hx hb dX11_best_116 (by decide) (fun c15 => ?_) (fun c15 => absurd c15 (by decide))
                    refine lv_iload_n hx hb dX11_best_124 rfl (lv_at hl 4 rfl) ?_
                    refine lv_istore_n (lv' := [(2, .int 0), (3, .int (-1)), (6, .int 0), (0, .ref mm), (1, .int x), (4, .int 56), (5, .int (nI k))]) hx hb dX11_best_125 rfl hl (by decide) rfl (fun ls hl => ?_)
                    refine lv_iinc (v := nI (k + 1)) (lv' := [(5, .int (nI (k + 1))), (2, .int 0), (3, .int (-1)), (6, .int 0), (0, .ref mm), (1, .int x), (4, .int 56)]) hx hb dX11_best_126 hl (k := 6) rfl (nI_1 _) (by decide) rfl (fun ls hl => ?_)
                    refine lv_goto (tgt := 40) hx hb dX11_best_129 (by decide) ?_
                    exact ih40 (k + 1) (upd (upd f (56 + k) 1) (56 + k) 0) (by omega) (by (repeat rw [u_ne _ _ (by omega)]); assumption) (by (repeat rw [u_ne _ _ (by omega)]); assumption) (by (repeat rw [u_ne _ _ (by omega)]); assumption) (by omega) _ _ (hP.sub (ws' := [(mm, .inr (11, [.ref nw, .ref kp, .ref ik, .ref rf, .int 0, .int 0, .ref sd, .ref fr, .ref qu, .int 0, .ref me, .ref by_, .int 0, .int 0, .int 0, .int 0, .int 0, .ref nx, .int 0])), (nw, .inl (cy 1, 122, .inl (upd (upd f (56 + k) 1) (56 + k) 0))), (rf, .inl (cy 1, 3, .inl (fun _ => 0)))]) [0, 1, 2] rfl) (hD.sub (ws' := [(mm, .inr (11, [.ref nw, .ref kp, .ref ik, .ref rf, .int 0, .int 0, .ref sd, .ref fr, .ref qu, .int 0, .ref me, .ref by_, .int 0, .int 0, .int 0, .int 0, .int 0, .ref nx, .int 0])), (nw, .inl (cy 1, 122, .inl (upd (upd f (56 + k) 1) (56 + k) 0))), (rf, .inl (cy 1, 3, .inl (fun _ => 0)))]) [0, 1, 2] (by decide) rfl) hS ls (lv_sub hl [4, 5, 1, 2, 6, 0] rfl)
              · skip
                refine lv_if_eq (tgt := 126) hx hb dX11_best_56 (by decide) (fun c16 => ?_) (fun c16 => absurd c16 (by decide))
                refine lv_iinc (v := nI (k + 1)) (lv' := [(5, .int (nI (k + 1))), (0, .ref mm), (1, .int x), (2, .int 0), (3, .int (-1)), (4, .int 56)]) hx hb dX11_best_126 hl (k := 5) rfl (nI_1 _) (by decide) rfl (fun ls hl => ?_)
                refine lv_goto (tgt := 40) hx hb dX11_best_129 (by decide) ?_
                exact ih40 (k + 1) (f) (by omega) (by (repeat rw [u_ne _ _ (by omega)]); assumption) (by (repeat rw [u_ne _ _ (by omega)]); assumption) (by (repeat rw [u_ne _ _ (by omega)]); assumption) (by omega) _ _ (hP.sub (ws' := [(mm, .inr (11, [.ref nw, .ref kp, .ref ik, .ref rf, .int 0, .int 0, .ref sd, .ref fr, .ref qu, .int 0, .ref me, .ref by_, .int 0, .int 0, .int 0, .int 0, .int 0, .ref nx, .int 0])), (nw, .inl (cy 1, 122, .inl f)), (rf, .inl (cy 1, 3, .inl (fun _ => 0)))]) [0, 1, 2] rfl) (hD.sub (ws' := [(mm, .inr (11, [.ref nw, .ref kp, .ref ik, .ref rf, .int 0, .int 0, .ref sd, .ref fr, .ref qu, .int 0, .ref me, .ref by_, .int 0, .int 0, .int 0, .int 0, .int 0, .ref nx, .int 0])), (nw, .inl (cy 1, 122, .inl f)), (rf, .inl (cy 1, 3, .inl (fun _ => 0)))]) [0, 1, 2] (by decide) rfl) hS ls (lv_sub hl [1, 2, 3, 4, 5, 0] rfl)
        exact lp40 (36 - 0 + 1) 0 F (by omega) h0 h1 (hz 4 (by decide) (by decide)) (Nat.lt_succ_self _) _ _ (hP.sub (ws' := [(mm, .inr (11, [.ref nw, .ref kp, .ref ik, .ref rf, .int 0, .int 0, .ref sd, .ref fr, .ref qu, .int 0, .ref me, .ref by_, .int 0, .int 0, .int 0, .int 0, .int 0, .ref nx, .int 0])), (nw, .inl (cy 1, 122, .inl F)), (rf, .inl (cy 1, 3, .inl (fun _ => 0)))]) [0, 1, 2] rfl) (hD.sub (ws' := [(mm, .inr (11, [.ref nw, .ref kp, .ref ik, .ref rf, .int 0, .int 0, .ref sd, .ref fr, .ref qu, .int 0, .ref me, .ref by_, .int 0, .int 0, .int 0, .int 0, .int 0, .ref nx, .int 0])), (nw, .inl (cy 1, 122, .inl F)), (rf, .inl (cy 1, 3, .inl (fun _ => 0)))]) [0, 1, 2] (by decide) rfl) hS ls (lv_sub hl [4, 5, 3, 2, 1, 0] rfl)
      · skip
        refine lv_bipush (v := 20) hx hb dX11_best_28 (by decide) ?_
        refine lv_goto (tgt := 35) hx hb dX11_best_30 (by decide) ?_
        refine lv_istore (lv' := [(4, .int 20), (3, .int (-1)), (2, .int 0), (0, .ref mm), (1, .int x)]) hx hb dX11_best_35 hl (by decide) rfl (fun ls hl => ?_)
        refine lv_iconst (v := 0) hx hb dX11_best_37 (by decide) ?_
        refine lv_istore (lv' := [(5, .int 0), (4, .int 20), (3, .int (-1)), (2, .int 0), (0, .ref mm), (1, .int x)]) hx hb dX11_best_38 hl (by decide) rfl (fun ls hl => ?_)
        have lp40 : ∀ (n40 : Nat) (k : Nat) (f : Nat → Int32), k ≤ 36 → f 0 = 6 → f 1 = 6 → f 4 = 0 → 36 - k < n40 → ∀ (H : Heap) (locs : List Loc), va_P D vwCl [(mm, .inr (11, [.ref nw, .ref kp, .ref ik, .ref rf, .int 0, .int 0, .ref sd, .ref fr, .ref qu, .int 0, .ref me, .ref by_, .int 0, .int 0, .int 0, .int 0, .int 0, .ref nx, .int 0])), (nw, .inl (cy 1, 122, .inl f)), (rf, .inl (cy 1, 3, .inl (fun _ => 0)))] H → va_D A [(mm, .inr (11, [.ref nw, .ref kp, .ref ik, .ref rf, .int 0, .int 0, .ref sd, .ref fr, .ref qu, .int 0, .ref me, .ref by_, .int 0, .int 0, .int 0, .int 0, .int 0, .ref nx, .int 0])), (nw, .inl (cy 1, 122, .inl f)), (rf, .inl (cy 1, 3, .inl (fun _ => 0)))] → va_S A s.heap H locs → ∀ ls : Array Slot, lv_has ls 7 [(0, .ref mm), (1, .int x), (2, .int 0), (3, .int (-1)), (4, .int 20), (5, .int (nI k))] → W p l e (headSpec wsX11_best ({ frames := 3, cells := 0, slots := 0, locals := 68 })).room s m [.ref mm, .int x].toArray below meth c H locs 0 0 (MQ below (va_Qi (fun (r : Int32) (_ : Unit) => r = sp_01 x (-1)) (fun (u : Unit) t => va_P D vwCl ([]) t.heap ∧ va_D A ([])) A) [.ref mm, .int x].toArray s 0 0 A) (F0 m 40 ls []) := by
          intro n40
          induction n40 with
          | zero => intro k f hk q0 q1 q4 hm; exact absurd hm (Nat.not_lt_zero _)
          | succ n40 ih40 =>
            intro k f hk q0 q1 q4 hm40 H locs hP hD hS ls hl
            refine lv_iload hx hb dX11_best_40 (lv_at hl 5 rfl) ?_
            refine lv_aload_n hx hb dX11_best_42 rfl (lv_at hl 0 rfl) ?_
            refine rd_i (va_runV (As := []) (rest := [.int (nI k)]) ⟨hx, hb, hml, hown, hts⟩ (c_X11_squares l D cy mm nw kp ik rf sd fr qu me by_ nx f _) (cwV 0 hts gX11_best_X11_squares rfl rfl rfl (by decide +kernel) ⟨Nat.le_of_ble_eq_true rfl, Nat.le_of_ble_eq_true rfl⟩) (pV (ci := 11) (k := 0) hKA (hP.sub (ws' := [(mm, .inr (11, [.ref nw, .ref kp, .ref ik, .ref rf, .int 0, .int 0, .ref sd, .ref fr, .ref qu, .int 0, .ref me, .ref by_, .int 0, .int 0, .int 0, .int 0, .int 0, .ref nx, .int 0])), (nw, .inl (cy 1, 122, .inl f))]) [0, 1] rfl) (hD.sub (ws' := [(mm, .inr (11, [.ref nw, .ref kp, .ref ik, .ref rf, .int 0, .int 0, .ref sd, .ref fr, .ref qu, .int 0, .ref me, .ref by_, .int 0, .int 0, .int 0, .int 0, .int 0, .ref nx, .int 0])), (nw, .inl (cy 1, 122, .inl f))]) [0, 1] (by decide) rfl) rfl rfl) rfl rfl hl.1 rfl (lv_room (Nat.le_of_ble_eq_true rfl)) dX11_best_43 ⟨Nat.le_of_ble_eq_true rfl, Nat.le_of_ble_eq_true rfl⟩) hP hS hA (fun r17 H locs hwr17 hP hS => ?_)
            obtain rfl : r17 = 36 := by rw [hwr17]; rw [q0, q1]; decide
            refine lv_icmp_ge (tgt := 132) hx hb dX11_best_46 (by decide) (fun c18 => ?_) (fun c18 => ?_)
            · skip
              refine lv_iload_n hx hb dX11_best_132 rfl (lv_at hl 3 rfl) ?_
              have hP9 := hP.sub (ws' := []) [] rfl
              have hD9 := hD.sub (ws' := []) [] (by decide) rfl
              exact W.iret (v := (-1)) hx hb hr (fun t ht hW => ⟨⟨(-1), (), rfl, (by simp [sp_01, har1, hbr1]), by rw [ht]; exact hP9, hD9⟩, hS.F ht⟩) hS.2.2 dX11_best_133
            · skip
              have hk36 := nlt_of (n := 36) rfl hk (by decide) (by assumption)
              refine lv_aload_n hx hb dX11_best_49 rfl (lv_at hl 0 rfl) ?_
              refine lv_iload hx hb dX11_best_50 (lv_at hl 5 rfl) ?_
              refine lv_iconst (v := (-1)) hx hb dX11_best_52 (by decide) ?_
              refine rd_i (va_runV (As := [.int (nI k), .int (-1)]) (rest := []) ⟨hx, hb, hml, hown, hts⟩ (m_isFree l D cy mm nw kp ik rf sd fr qu me by_ nx f k (-1) _ (by omega) (by assumption)) (cwV 2 hts gX11_best_X11_isFree rfl rfl rfl (by decide +kernel) ⟨Nat.le_of_ble_eq_true rfl, Nat.le_of_ble_eq_true rfl⟩) (pV (ci := 11) (k := 0) hKA (hP.sub (ws' := [(mm, .inr (11, [.ref nw, .ref kp, .ref ik, .ref rf, .int 0, .int 0, .ref sd, .ref fr, .ref qu, .int 0, .ref me, .ref by_, .int 0, .int 0, .int 0, .int 0, .int 0, .ref nx, .int 0])), (nw, .inl (cy 1, 122, .inl f))]) [0, 1] rfl) (hD.sub (ws' := [(mm, .inr (11, [.ref nw, .ref kp, .ref ik, .ref rf, .int 0, .int 0, .ref sd, .ref fr, .ref qu, .int 0, .ref me, .ref by_, .int 0, .int 0, .int 0, .int 0, .int 0, .ref nx, .int 0])), (nw, .inl (cy 1, 122, .inl f))]) [0, 1] (by decide) rfl) rfl rfl) rfl rfl hl.1 rfl (lv_room (Nat.le_of_ble_eq_true rfl)) dX11_best_53 ⟨Nat.le_of_ble_eq_true rfl, Nat.le_of_ble_eq_true rfl⟩) hP hS hA (fun r19 H locs hwr19 hP hS => ?_)
              rcases hwr19 with ⟨rfl, hfr19⟩ | ⟨rfl, hfr19⟩
              · skip
                refine lv_if_eq (tgt := 126) hx hb dX11_best_56 (by decide) (fun c20 => absurd c20 (by decide)) (fun c20 => ?_)
                refine lv_aload_n hx hb dX11_best_59 rfl (lv_at hl 0 rfl) ?_
                refine va_get (D := D) (ci := 11) (v := .ref nw) (C := RX11) (T := TX11) (N := 19) hx hb hts zi11_ hown hK hP 0 rfl rfl 0 (by decide) z0_ (fun _ h9 => h9) rfl dX11_best_60 ?_
                refine lv_iload hx hb dX11_best_63 (lv_at hl 4 rfl) ?_
                refine lv_iload hx hb dX11_best_65 (lv_at hl 5 rfl) ?_
                refine lv_iadd hx hb dX11_best_67 ?_
                refine lv_topi (fun x21 ex21 => ?_)
                obtain rfl : x21 = nI (20 + k) := by rw [ex21]; exact nI_add _ _
                refine my_iald hx hb hK hP 1 1 rfl rfl (vp_in_nI (by omega) (by decide)) (nI_clamp (by omega)) dX11_best_68 ?_
                refine lv_if_ne (tgt := 126) hx hb dX11_best_69 (by decide) (fun c22 => ?_) (fun c22 => ?_)
                · skip
                  refine lv_iinc (v := nI (k + 1)) (lv' := [(5, .int (nI (k + 1))), (0, .ref mm), (1, .int x), (2, .int 0), (3, .int (-1)), (4, .int 20)]) hx hb dX11_best_126 hl (k := 5) rfl (nI_1 _) (by decide) rfl (fun ls hl => ?_)
                  refine lv_goto (tgt := 40) hx hb dX11_best_129 (by decide) ?_
                  exact ih40 (k + 1) (f) (by omega) (by (repeat rw [u_ne _ _ (by omega)]); assumption) (by (repeat rw [u_ne _ _ (by omega)]); assumption) (by (repeat rw [u_ne _ _ (by omega)]); assumption) (by omega) _ _ (hP.sub (ws' := [(mm, .inr (11, [.ref nw, .ref kp, .ref ik, .ref rf, .int 0, .int 0, .ref sd, .ref fr, .ref qu, .int 0, .ref me, .ref by_, .int 0, .int 0, .int 0, .int 0, .int 0, .ref nx, .int 0])), (nw, .inl (cy 1, 122, .inl f)), (rf, .inl (cy 1, 3, .inl (fun _ => 0)))]) [0, 1, 2] rfl) (hD.sub (ws' := [(mm, .inr (11, [.ref nw, .ref kp, .ref ik, .ref rf, .int 0, .int 0, .ref sd, .ref fr, .ref qu, .int 0, .ref me, .ref by_, .int 0, .int 0, .int 0, .int 0, .int 0, .ref nx, .int 0])), (nw, .inl (cy 1, 122, .inl f)), (rf, .inl (cy 1, 3, .inl (fun _ => 0)))]) [0, 1, 2] (by decide) rfl) hS ls (lv_sub hl [1, 2, 3, 4, 5, 0] rfl)
                · skip
                  refine lv_aload_n hx hb dX11_best_72 rfl (lv_at hl 0 rfl) ?_
                  refine va_get (D := D) (ci := 11) (v := .ref nw) (C := RX11) (T := TX11) (N := 19) hx hb hts zi11_ hown hK hP 0 rfl rfl 0 (by decide) z0_ (fun _ h9 => h9) rfl dX11_best_73 ?_
                  refine lv_iload hx hb dX11_best_76 (lv_at hl 4 rfl) ?_
                  refine lv_iload hx hb dX11_best_78 (lv_at hl 5 rfl) ?_
                  refine lv_iadd hx hb dX11_best_80 ?_
                  refine lv_topi (fun x23 ex23 => ?_)
                  obtain rfl : x23 = nI (20 + k) := by rw [ex23]; exact nI_add _ _
                  refine lv_iconst (v := 1) hx hb dX11_best_81 (by decide) ?_
                  refine my_iast hx hb hK hP hD hS 1 1 rfl rfl (vp_in_nI (by omega) (by decide)) (nI_clamp (by omega)) dX11_best_82 (fun H locs hP hD hS => ?_)
                  have hP : va_P D vwCl [(mm, .inr (11, [.ref nw, .ref kp, .ref ik, .ref rf, .int 0, .int 0, .ref sd, .ref fr, .ref qu, .int 0, .ref me, .ref by_, .int 0, .int 0, .int 0, .int 0, .int 0, .ref nx, .int 0])), (nw, .inl (cy 1, 122, .inl (upd f (20 + k) 1))), (rf, .inl (cy 1, 3, .inl (fun _ => 0)))] H := hP
                  have hD : va_D A [(mm, .inr (11, [.ref nw, .ref kp, .ref ik, .ref rf, .int 0, .int 0, .ref sd, .ref fr, .ref qu, .int 0, .ref me, .ref by_, .int 0, .int 0, .int 0, .int 0, .int 0, .ref nx, .int 0])), (nw, .inl (cy 1, 122, .inl (upd f (20 + k) 1))), (rf, .inl (cy 1, 3, .inl (fun _ => 0)))] := hD
                  refine lv_aload_n hx hb dX11_best_83 rfl (lv_at hl 0 rfl) ?_
                  refine rd_i (va_runV (As := []) (rest := []) ⟨hx, hb, hml, hown, hts⟩ (m_manySpeakers l D cy mm nw kp ik rf sd fr qu me by_ nx (upd f (20 + k) 1) _ (by (repeat rw [u_ne _ _ (by omega)]); assumption)) (cwV 0 hts gX11_best_X11_manySpeakers rfl rfl rfl (by decide +kernel) ⟨Nat.le_of_ble_eq_true rfl, Nat.le_of_ble_eq_true rfl⟩) (pV (ci := 11) (k := 0) hKA (hP.sub (ws' := [(mm, .inr (11, [.ref nw, .ref kp, .ref ik, .ref rf, .int 0, .int 0, .ref sd, .ref fr, .ref qu, .int 0, .ref me, .ref by_, .int 0, .int 0, .int 0, .int 0, .int 0, .ref nx, .int 0])), (nw, .inl (cy 1, 122, .inl (upd f (20 + k) 1)))]) [0, 1] rfl) (hD.sub (ws' := [(mm, .inr (11, [.ref nw, .ref kp, .ref ik, .ref rf, .int 0, .int 0, .ref sd, .ref fr, .ref qu, .int 0, .ref me, .ref by_, .int 0, .int 0, .int 0, .int 0, .int 0, .ref nx, .int 0])), (nw, .inl (cy 1, 122, .inl (upd f (20 + k) 1)))]) [0, 1] (by decide) rfl) rfl rfl) rfl rfl hl.1 rfl (lv_room (Nat.le_of_ble_eq_true rfl)) dX11_best_84 ⟨Nat.le_of_ble_eq_true rfl, Nat.le_of_ble_eq_true rfl⟩) hP hS hA (fun r24 H locs hwr24 hP hS => ?_)
                  rcases hwr24 with rfl
                  · skip
                    refine lv_istore (lv' := [(6, .int 0), (0, .ref mm), (1, .int x), (2, .int 0), (3, .int (-1)), (4, .int 20), (5, .int (nI k))]) hx hb dX11_best_87 hl (by decide) rfl (fun ls hl => ?_)
                    refine lv_aload_n hx hb dX11_best_89 rfl (lv_at hl 1 rfl) ?_
                    refine va_get (D := D) (ci := 11) (v := .ref nw) (C := RX11) (T := TX11) (N := 19) hx hb hts zi11_ hown hK hP 0 rfl rfl 0 (by decide) z0_ (fun _ h9 => h9) rfl dX11_best_90 ?_
                    refine lv_iload hx hb dX11_best_93 (lv_at hl 5 rfl) ?_
                    refine lv_iload hx hb dX11_best_95 (lv_at hl 6 rfl) ?_
                    refine lv_iadd hx hb dX11_best_97 ?_
                    refine lv_topi (fun x25 ex25 => ?_)
                    obtain rfl : x25 = nI (20 + k) := by rw [ex25]; exact nI_add _ _
                    refine lv_iconst (v := 0) hx hb dX11_best_98 (by decide) ?_
                    refine my_iast hx hb hK hP hD hS 1 1 rfl rfl (vp_in_nI (by omega) (by decide)) (nI_clamp (by omega)) dX11_best_99 (fun H locs hP hD hS => ?_)
                    have hP : va_P D vwCl [(mm, .inr (11, [.ref nw, .ref kp, .ref ik, .ref rf, .int 0, .int 0, .ref sd, .ref fr, .ref qu, .int 0, .ref me, .ref by_, .int 0, .int 0, .int 0, .int 0, .int 0, .ref nx, .int 0])), (nw, .inl (cy 1, 122, .inl (upd (upd f (20 + k) 1) (20 + k) 0))), (rf, .inl (cy 1, 3, .inl (fun _ => 0)))] H := hP
                    have hD : va_D A [(mm, .inr (11, [.ref nw, .ref kp, .ref ik, .ref rf, .int 0, .int 0, .ref sd, .ref fr, .ref qu, .int 0, .ref me, .ref by_, .int 0, .int 0, .int 0, .int 0, .int 0, .ref nx, .int 0])), (nw, .inl (cy 1, 122, .inl (upd (upd f (20 + k) 1) (20 + k) 0))), (rf, .inl (cy 1, 3, .inl (fun _ => 0)))] := hD
                    refine lv_iload hx hb dX11_best_100 (lv_at hl 0 rfl) ?_
                    refine lv_iload_n hx hb dX11_best_102 rfl (lv_at hl 3 rfl) ?_
                    refine lv_icmp_le (tgt := 111) hx hb dX11_best_103 (by decide) (fun c26 => ?_) (fun c26 => absurd c26 (by decide))
                    refine lv_iload_n hx hb dX11_best_111 rfl (lv_at hl 4 rfl) ?_
                    refine lv_istore_n (lv' := [(3, .int (-1)), (6, .int 0), (0, .ref mm), (1, .int x), (2, .int 0), (4, .int 20), (5, .int (nI k))]) hx hb dX11_best_112 rfl hl (by decide) rfl (fun ls hl => ?_)
                    refine lv_iload hx hb dX11_best_113 (lv_at hl 1 rfl) ?_
                    refine lv_iload_n hx hb dX11_best_115 rfl (lv_at hl 4 rfl) ?_
                    refine lv_icmp_le (tgt := 124) hx hb dX11_best_116 (by decide) (fun c27 => ?_) (fun c27 => absurd c27 (by decide))
                    refine lv_iload_n hx hb dX11_best_124 rfl (lv_at hl 4 rfl) ?_
                    refine lv_istore_n (lv' := [(2, .int 0), (3, .int (-1)), (6, .int 0), (0, .ref mm), (1, .int x), (4, .int 20), (5, .int (nI k))]) hx hb dX11_best_125 rfl hl (by decide) rfl (fun ls hl => ?_)
                    refine lv_iinc (v := nI (k + 1)) (lv' := [(5, .int (nI (k + 1))), (2, .int 0), (3, .int (-1)), (6, .int 0), (0, .ref mm), (1, .int x), (4, .int 20)]) hx hb dX11_best_126 hl (k := 6) rfl (nI_1 _) (by decide) rfl (fun ls hl => ?_)
                    refine lv_goto (tgt := 40) hx hb dX11_best_129 (by decide) ?_
                    exact ih40 (k + 1) (upd (upd f (20 + k) 1) (20 + k) 0) (by omega) (by (repeat rw [u_ne _ _ (by omega)]); assumption) (by (repeat rw [u_ne _ _ (by omega)]); assumption) (by (repeat rw [u_ne _ _ (by omega)]); assumption) (by omega) _ _ (hP.sub (ws' := [(mm, .inr (11, [.ref nw, .ref kp, .ref ik, .ref rf, .int 0, .int 0, .ref sd, .ref fr, .ref qu, .int 0, .ref me, .ref by_, .int 0, .int 0, .int 0, .int 0, .int 0, .ref nx, .int 0])), (nw, .inl (cy 1, 122, .inl (upd (upd f (20 + k) 1) (20 + k) 0))), (rf, .inl (cy 1, 3, .inl (fun _ => 0)))]) [0, 1, 2] rfl) (hD.sub (ws' := [(mm, .inr (11, [.ref nw, .ref kp, .ref ik, .ref rf, .int 0, .int 0, .ref sd, .ref fr, .ref qu, .int 0, .ref me, .ref by_, .int 0, .int 0, .int 0, .int 0, .int 0, .ref nx, .int 0])), (nw, .inl (cy 1, 122, .inl (upd (upd f (20 + k) 1) (20 + k) 0))), (rf, .inl (cy 1, 3, .inl (fun _ => 0)))]) [0, 1, 2] (by decide) rfl) hS ls (lv_sub hl [4, 5, 1, 2, 6, 0] rfl)
              · skip
                refine lv_if_eq (tgt := 126) hx hb dX11_best_56 (by decide) (fun c28 => ?_) (fun c28 => absurd c28 (by decide))
                refine lv_iinc (v := nI (k + 1)) (lv' := [(5, .int (nI (k + 1))), (0, .ref mm), (1, .int x), (2, .int 0), (3, .int (-1)), (4, .int 20)]) hx hb dX11_best_126 hl (k := 5) rfl (nI_1 _) (by decide) rfl (fun ls hl => ?_)
                refine lv_goto (tgt := 40) hx hb dX11_best_129 (by decide) ?_
                exact ih40 (k + 1) (f) (by omega) (by (repeat rw [u_ne _ _ (by omega)]); assumption) (by (repeat rw [u_ne _ _ (by omega)]); assumption) (by (repeat rw [u_ne _ _ (by omega)]); assumption) (by omega) _ _ (hP.sub (ws' := [(mm, .inr (11, [.ref nw, .ref kp, .ref ik, .ref rf, .int 0, .int 0, .ref sd, .ref fr, .ref qu, .int 0, .ref me, .ref by_, .int 0, .int 0, .int 0, .int 0, .int 0, .ref nx, .int 0])), (nw, .inl (cy 1, 122, .inl f)), (rf, .inl (cy 1, 3, .inl (fun _ => 0)))]) [0, 1, 2] rfl) (hD.sub (ws' := [(mm, .inr (11, [.ref nw, .ref kp, .ref ik, .ref rf, .int 0, .int 0, .ref sd, .ref fr, .ref qu, .int 0, .ref me, .ref by_, .int 0, .int 0, .int 0, .int 0, .int 0, .ref nx, .int 0])), (nw, .inl (cy 1, 122, .inl f)), (rf, .inl (cy 1, 3, .inl (fun _ => 0)))]) [0, 1, 2] (by decide) rfl) hS ls (lv_sub hl [1, 2, 3, 4, 5, 0] rfl)
        exact lp40 (36 - 0 + 1) 0 F (by omega) h0 h1 (hz 4 (by decide) (by decide)) (Nat.lt_succ_self _) _ _ (hP.sub (ws' := [(mm, .inr (11, [.ref nw, .ref kp, .ref ik, .ref rf, .int 0, .int 0, .ref sd, .ref fr, .ref qu, .int 0, .ref me, .ref by_, .int 0, .int 0, .int 0, .int 0, .int 0, .ref nx, .int 0])), (nw, .inl (cy 1, 122, .inl F)), (rf, .inl (cy 1, 3, .inl (fun _ => 0)))]) [0, 1, 2] rfl) (hD.sub (ws' := [(mm, .inr (11, [.ref nw, .ref kp, .ref ik, .ref rf, .int 0, .int 0, .ref sd, .ref fr, .ref qu, .int 0, .ref me, .ref by_, .int 0, .int 0, .int 0, .int 0, .int 0, .ref nx, .int 0])), (nw, .inl (cy 1, 122, .inl F)), (rf, .inl (cy 1, 3, .inl (fun _ => 0)))]) [0, 1, 2] (by decide) rfl) hS ls (lv_sub hl [4, 5, 3, 2, 1, 0] rfl)
  · skip
    have hnr1 : ¬ (0 ≤ x ∧ x ≤ 1) := fun q => hnr1 ⟨(z_w 0 (by decide)).1.mpr q.1, (z_w 1 (by decide)).2.mpr q.2⟩
    refine lv_if_ne (tgt := 17) hx hb dX11_best_7 (by decide) (fun c29 => absurd c29 (by decide)) (fun c29 => ?_)
    refine lv_aload_n hx hb dX11_best_10 rfl (lv_at hl 0 rfl) ?_
    refine lv_bipush (v := (-2)) hx hb dX11_best_11 (by decide) ?_
    refine wr_i (wr := [(nw, .inl (cy 1, 122, .inl F))]) (va_runV (As := [.int (-2)]) (rest := []) ⟨hx, hb, hml, hown, hts⟩ (m_bad l D cy mm nw kp ik rf sd fr qu me by_ nx (fun _ => 0) (-2) _) (cwV 1 hts gX11_best_X11_bad rfl rfl rfl (by decide +kernel) ⟨Nat.le_of_ble_eq_true rfl, Nat.le_of_ble_eq_true rfl⟩) (pV (ci := 11) (k := 0) hKA (hP.sub (ws' := [(mm, .inr (11, [.ref nw, .ref kp, .ref ik, .ref rf, .int 0, .int 0, .ref sd, .ref fr, .ref qu, .int 0, .ref me, .ref by_, .int 0, .int 0, .int 0, .int 0, .int 0, .ref nx, .int 0])), (rf, .inl (cy 1, 3, .inl (fun _ => 0)))]) [0, 2] rfl) (hD.sub (ws' := [(mm, .inr (11, [.ref nw, .ref kp, .ref ik, .ref rf, .int 0, .int 0, .ref sd, .ref fr, .ref qu, .int 0, .ref me, .ref by_, .int 0, .int 0, .int 0, .int 0, .int 0, .ref nx, .int 0])), (rf, .inl (cy 1, 3, .inl (fun _ => 0)))]) [0, 2] (by decide) rfl) rfl rfl) rfl rfl hl.1 rfl (lv_room (Nat.le_of_ble_eq_true rfl)) dX11_best_13 ⟨Nat.le_of_ble_eq_true rfl, Nat.le_of_ble_eq_true rfl⟩) hP hD hS hA [0, 2] [1] rfl rfl (by decide +kernel) (by decide +kernel) (fun r30 ur30 H locs hwr30 hP hD hS => ?_)
    have hP : va_P D vwCl [(nw, .inl (cy 1, 122, .inl F))] H := hP
    have hD : va_D A [(nw, .inl (cy 1, 122, .inl F))] := hD
    subst hwr30
    have hP9 := hP.sub (ws' := []) [] rfl
    have hD9 := hD.sub (ws' := []) [] (by decide) rfl
    exact W.iret (v := (-2)) hx hb hr (fun t ht hW => ⟨⟨(-2), (), rfl, (by simp [sp_01, hnr1]), by rw [ht]; exact hP9, hD9⟩, hS.F ht⟩) hS.2.2 dX11_best_16
