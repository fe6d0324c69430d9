theorem dX11_parade_0 : decode cX11_parade 0 = .ok (.aload_n 0, 1) := by decide +kernel
theorem dX11_parade_1 : decode cX11_parade 1 = .ok (.iload_n 1, 1) := by decide +kernel
set_option maxRecDepth 20000 in
theorem ggX11_parade_X11_isOne : GoodIn wsX11_parade wsX11_isOne := goodIn_r _ [11, 12, 13, 14, 10, 15, 16, 17, 18, 19, 102, 103, 104, 105, 106, 107, 108, 109, 110, 111, 112, 113, 114, 115, 116, 117, 118, 119, 120] (by decide +kernel) (by decide +kernel)
set_option maxRecDepth 20000 in
theorem gX11_parade_X11_isOne : GoodIn wsX11_parade (wsV RX11 94 RX11 yX11_isOne wsX11_isOne) := goodIn_app (goodIn_of _ (by decide +kernel)) ggX11_parade_X11_isOne
theorem dX11_parade_2 : decode cX11_parade 2 = .ok (.invokevirtual 94, 3) := by decide +kernel
theorem dX11_parade_5 : decode cX11_parade 5 = .ok (.ifCond .eq 13, 3) := by decide +kernel
theorem dX11_parade_18 : decode cX11_parade 18 = .ok (.aload_n 0, 1) := by decide +kernel
theorem dX11_parade_19 : decode cX11_parade 19 = .ok (.bipush (-2), 2) := by decide +kernel
set_option maxRecDepth 20000 in
theorem ggX11_parade_X11_bad : GoodIn wsX11_parade wsX11_bad := goodIn_r _ [23, 24, 102, 103, 104, 105, 106, 107, 108, 109, 110, 111, 112, 113, 114, 115, 116, 117, 118, 119, 120] (by decide +kernel) (by decide +kernel)
set_option maxRecDepth 20000 in
theorem gX11_parade_X11_bad : GoodIn wsX11_parade (wsV RX11 60 RX11 yX11_bad wsX11_bad) := goodIn_app (goodIn_of _ (by decide +kernel)) ggX11_parade_X11_bad
theorem dX11_parade_21 : decode cX11_parade 21 = .ok (.invokevirtual 60, 3) := by decide +kernel
theorem dX11_parade_24 : decode cX11_parade 24 = .ok (.ireturn, 1) := by decide +kernel
theorem dX11_lesson_0 : decode cX11_lesson 0 = .ok (.aload_n 0, 1) := by decide +kernel
theorem dX11_lesson_1 : decode cX11_lesson 1 = .ok (.iload_n 1, 1) := by decide +kernel
set_option maxRecDepth 20000 in
theorem ggX11_lesson_X11_isOne : GoodIn wsX11_lesson wsX11_isOne := goodIn_r _ [5, 6, 7, 8, 4, 9, 10, 11, 12, 13, 94, 95, 96, 97, 98, 99, 100, 101, 102, 103, 104, 105, 106, 107, 108, 109, 110, 111, 112] (by decide +kernel) (by decide +kernel)
set_option maxRecDepth 20000 in
theorem gX11_lesson_X11_isOne : GoodIn wsX11_lesson (wsV RX11 94 RX11 yX11_isOne wsX11_isOne) := goodIn_app (goodIn_of _ (by decide +kernel)) ggX11_lesson_X11_isOne
theorem dX11_lesson_2 : decode cX11_lesson 2 = .ok (.invokevirtual 94, 3) := by decide +kernel
theorem dX11_lesson_5 : decode cX11_lesson 5 = .ok (.ifCond .eq 20, 3) := by decide +kernel
theorem dX11_lesson_25 : decode cX11_lesson 25 = .ok (.aload_n 0, 1) := by decide +kernel
theorem dX11_lesson_26 : decode cX11_lesson 26 = .ok (.bipush (-2), 2) := by decide +kernel
set_option maxRecDepth 20000 in
theorem ggX11_lesson_X11_bad : GoodIn wsX11_lesson wsX11_bad := goodIn_r _ [21, 22, 94, 95, 96, 97, 98, 99, 100, 101, 102, 103, 104, 105, 106, 107, 108, 109, 110, 111, 112] (by decide +kernel) (by decide +kernel)
set_option maxRecDepth 20000 in
theorem gX11_lesson_X11_bad : GoodIn wsX11_lesson (wsV RX11 60 RX11 yX11_bad wsX11_bad) := goodIn_app (goodIn_of _ (by decide +kernel)) ggX11_lesson_X11_bad
theorem dX11_lesson_28 : decode cX11_lesson 28 = .ok (.invokevirtual 60, 3) := by decide +kernel
theorem dX11_lesson_31 : decode cX11_lesson 31 = .ok (.ireturn, 1) := by decide +kernel
theorem dX11_speakers_0 : decode cX11_speakers 0 = .ok (.aload_n 0, 1) := by decide +kernel
set_option maxRecDepth 20000 in
theorem ggX11_speakers_X11_manySpeakers : GoodIn wsX11_speakers wsX11_manySpeakers := goodIn_r _ [5, 6, 7, 8, 4, 9, 10, 11, 12, 13, 14, 15, 16, 17, 18, 19, 20, 21, 22, 23, 24, 25, 26, 27, 28, 29, 30, 31, 32, 33, 34, 35, 36, 37, 38, 39, 40, 41, 42, 43, 44, 45, 46, 47, 48, 49, 50, 51, 52, 53, 54, 55, 56, 57, 58, 59, 60, 61, 62, 63, 64, 65, 66, 67, 68, 69, 70, 71, 72, 73, 74, 75, 76, 77, 78, 79, 80, 81, 82, 83, 84, 85, 86, 87, 88, 89, 90, 91, 92, 93, 94, 95, 96, 97, 98, 99, 100] (by decide +kernel) (by decide +kernel)
set_option maxRecDepth 20000 in
theorem gX11_speakers_X11_manySpeakers : GoodIn wsX11_speakers (wsV RX11 188 RX11 yX11_manySpeakers wsX11_manySpeakers) := goodIn_app (goodIn_of _ (by decide +kernel)) ggX11_speakers_X11_manySpeakers
theorem dX11_speakers_1 : decode cX11_speakers 1 = .ok (.invokevirtual 188, 3) := by decide +kernel
theorem dX11_speakers_4 : decode cX11_speakers 4 = .ok (.ireturn, 1) := by decide +kernel
set_option maxHeartbeats 4000000 in
set_option maxRecDepth 100000 in
theorem mt_parade (l : Launch) (D : va_G) (cy : Nat → ClassId) (mm nw kp ik rf sd fr qu me by_ nx : Nat) (F : Nat → Int32) (x y : Int32) (sz : Nat) (h0 : F 0 = 6) (h1 : F 1 = 6) (h2 : F 2 = 1) (hz : ∀ k, 3 ≤ k → k < 122 → F k = 0) : Met l yX11_parade wsX11_parade ({ frames := 2, cells := 0, slots := 0, locals := 46 }) (va_Pc [.ref mm, .int x, .int y] (kPre D cy [(mm, .inr (11, [.ref nw, .ref kp, .ref ik, .ref rf, .int 0, .int 0, .ref sd, .ref fr, .ref qu, .int 0, .ref me, .ref by_, .int 0, .int 0, .int 0, .int 0, .int 0, .ref nx, .int 0])), (nw, .inl (cy 1, 122, .inl F)), (rf, .inl (cy 1, 3, .inl (fun _ => 0)))] sz)) (va_Qi (fun (r : Int32) (_ : Unit) => r = -2) (fun (u : Unit) t => va_P D vwCl ([]) t.heap ∧ va_D (va_A [(mm, .inr (11, [.ref nw, .ref kp, .ref ik, .ref rf, .int 0, .int 0, .ref sd, .ref fr, .ref qu, .int 0, .ref me, .ref by_, .int 0, .int 0, .int 0, .int 0, .int 0, .ref nx, .int 0])), (nw, .inl (cy 1, 122, .inl F)), (rf, .inl (cy 1, 3, .inl (fun _ => 0)))] sz) ([])) (va_A [(mm, .inr (11, [.ref nw, .ref kp, .ref ik, .ref rf, .int 0, .int 0, .ref sd, .ref fr, .ref qu, .int 0, .ref me, .ref by_, .int 0, .int 0, .int 0, .int 0, .int 0, .ref nx, .int 0])), (nw, .inl (cy 1, 122, .inl F)), (rf, .inl (cy 1, 3, .inl (fun _ => 0)))] sz)) 0 0 (va_A [(mm, .inr (11, [.ref nw, .ref kp, .ref ik, .ref rf, .int 0, .int 0, .ref sd, .ref fr, .ref qu, .int 0, .ref me, .ref by_, .int 0, .int 0, .int 0, .int 0, .int 0, .ref nx, .int 0])), (nw, .inl (cy 1, 122, .inl F)), (rf, .inl (cy 1, 3, .inl (fun _ => 0)))] sz) := by
  refine Met.ofW (cc := cX11_parade) (maxL := 10) (ret := (some .int)) (by decide) rfl ?_
  intro p e s m args below meth c s₁ B hml hv
  obtain ⟨rfl, hsz, hP, hKA, hD0⟩ := hv
  have hx := B.exec
  have hb := B.bytes
  have hr := B.returns
  have hts := atoms_spec (ws := wsX11_parade) B.pre
  have hown : s.vm.findClass RX11 = some m.cls := findClass_of_methodNamed B.named
  have hlocks := B.notSynchronized
  subst hsz
  have hK := hKA.1
  have hD := hD0.self (sz := s.heap.size)
  generalize hAe : va_A [(mm, .inr (11, [.ref nw, .ref kp, .ref ik, .ref rf, .int 0, .int 0, .ref sd, .ref fr, .ref qu, .int 0, .ref me, .ref by_, .int 0, .int 0, .int 0, .int 0, .int 0, .ref nx, .int 0])), (nw, .inl (cy 1, 122, .inl F)), (rf, .inl (cy 1, 3, .inl (fun _ => 0)))] s.heap.size = A at hD ⊢
  have hA : ∀ q : Nat, s.heap.size ≤ q → A q := fun q h => by rw [← hAe]; exact Or.inr h
  have hS : va_S A s.heap s.heap [] := va_S.rf
  have hP : va_P D vwCl [(mm, .inr (11, [.ref nw, .ref kp, .ref ik, .ref rf, .int 0, .int 0, .ref sd, .ref fr, .ref qu, .int 0, .ref me, .ref by_, .int 0, .int 0, .int 0, .int 0, .int 0, .ref nx, .int 0])), (nw, .inl (cy 1, 122, .inl F)), (rf, .inl (cy 1, 3, .inl (fun _ => 0)))] s.heap := hP
  have hl := lv_entry ([.ref mm, .int x, .int y]) (n := 10) (Nat.le_of_ble_eq_true rfl)
  rw [lg_entry_eq]
  generalize (lg_sl ([.ref mm, .int x, .int y]) ++ List.replicate (10 - (lg_sl ([.ref mm, .int x, .int y])).length) Slot.unset).toArray = ls at hl ⊢
  have hl : lv_has ls 10 [(0, .ref mm), (1, .int x), (2, .int y)] := hl
  refine lv_aload_n hx hb dX11_parade_0 rfl (lv_at hl 0 rfl) ?_
  refine lv_iload_n hx hb dX11_parade_1 rfl (lv_at hl 1 rfl) ?_
  refine rd_i (va_runV (As := [.int x]) (rest := []) ⟨hx, hb, hml, hown, hts⟩ (m_isOne l D cy mm nw kp ik rf sd fr qu me by_ nx F x _ h0 h1 h2 hz) (cwV 1 hts gX11_parade_X11_isOne rfl rfl rfl (by decide +kernel) ⟨Nat.le_of_ble_eq_true rfl, Nat.le_of_ble_eq_true rfl⟩) (pV (ci := 11) (k := 0) hKA (hP.sub (ws' := [(mm, .inr (11, [.ref nw, .ref kp, .ref ik, .ref rf, .int 0, .int 0, .ref sd, .ref fr, .ref qu, .int 0, .ref me, .ref by_, .int 0, .int 0, .int 0, .int 0, .int 0, .ref nx, .int 0])), (nw, .inl (cy 1, 122, .inl F))]) [0, 1] rfl) (hD.sub (ws' := [(mm, .inr (11, [.ref nw, .ref kp, .ref ik, .ref rf, .int 0, .int 0, .ref sd, .ref fr, .ref qu, .int 0, .ref me, .ref by_, .int 0, .int 0, .int 0, .int 0, .int 0, .ref nx, .int 0])), (nw, .inl (cy 1, 122, .inl F))]) [0, 1] (by decide) rfl) rfl rfl) rfl rfl hl.1 rfl (lv_room (Nat.le_of_ble_eq_true rfl)) dX11_parade_2 ⟨Nat.le_of_ble_eq_true rfl, Nat.le_of_ble_eq_true rfl⟩) hP hS hA (fun r1 H locs hwr1 hP hS => ?_)
  rcases hwr1 with rfl
  · skip
    refine lv_if_eq (tgt := 18) hx hb dX11_parade_5 (by decide) (fun c2 => ?_) (fun c2 => absurd c2 (by decide))
    refine lv_aload_n hx hb dX11_parade_18 rfl (lv_at hl 0 rfl) ?_
    refine lv_bipush (v := (-2)) hx hb dX11_parade_19 (by decide) ?_
    refine wr_i (wr := [(nw, .inl (cy 1, 122, .inl F))]) (va_runV (As := [.int (-2)]) (rest := []) ⟨hx, hb, hml, hown, hts⟩ (m_bad l D cy mm nw kp ik rf sd fr qu me by_ nx (fun _ => 0) (-2) _) (cwV 1 hts gX11_parade_X11_bad rfl rfl rfl (by decide +kernel) ⟨Nat.le_of_ble_eq_true rfl, Nat.le_of_ble_eq_true rfl⟩) (pV (ci := 11) (k := 0) hKA (hP.sub (ws' := [(mm, .inr (11, [.ref nw, .ref kp, .ref ik, .ref rf, .int 0, .int 0, .ref sd, .ref fr, .ref qu, .int 0, .ref me, .ref by_, .int 0, .int 0, .int 0, .int 0, .int 0, .ref nx, .int 0])), (rf, .inl (cy 1, 3, .inl (fun _ => 0)))]) [0, 2] rfl) (hD.sub (ws' := [(mm, .inr (11, [.ref nw, .ref kp, .ref ik, .ref rf, .int 0, .int 0, .ref sd, .ref fr, .ref qu, .int 0, .ref me, .ref by_, .int 0, .int 0, .int 0, .int 0, .int 0, .ref nx, .int 0])), (rf, .inl (cy 1, 3, .inl (fun _ => 0)))]) [0, 2] (by decide) rfl) rfl rfl) rfl rfl hl.1 rfl (lv_room (Nat.le_of_ble_eq_true rfl)) dX11_parade_21 ⟨Nat.le_of_ble_eq_true rfl, Nat.le_of_ble_eq_true rfl⟩) hP hD hS hA [0, 2] [1] rfl rfl (by decide +kernel) (by decide +kernel) (fun r3 ur3 H locs hwr3 hP hD hS => ?_)
    have hP : va_P D vwCl [(nw, .inl (cy 1, 122, .inl F))] H := hP
    have hD : va_D A [(nw, .inl (cy 1, 122, .inl F))] := hD
    subst hwr3
    have hP9 := hP.sub (ws' := []) [] rfl
    have hD9 := hD.sub (ws' := []) [] (by decide) rfl
    exact W.iret (v := (-2)) hx hb hr (fun t ht hW => ⟨⟨(-2), (), rfl, rfl, by rw [ht]; exact hP9, hD9⟩, hS.F ht⟩) hS.2.2 dX11_parade_24

set_option maxHeartbeats 4000000 in
set_option maxRecDepth 100000 in
theorem mt_lesson (l : Launch) (D : va_G) (cy : Nat → ClassId) (mm nw kp ik rf sd fr qu me by_ nx : Nat) (F : Nat → Int32) (x y : Int32) (sz : Nat) (h0 : F 0 = 6) (h1 : F 1 = 6) (h2 : F 2 = 1) (hz : ∀ k, 3 ≤ k → k < 122 → F k = 0) : Met l yX11_lesson wsX11_lesson ({ frames := 2, cells := 0, slots := 0, locals := 46 }) (va_Pc [.ref mm, .int x, .int y] (kPre D cy [(mm, .inr (11, [.ref nw, .ref kp, .ref ik, .ref rf, .int 0, .int 0, .ref sd, .ref fr, .ref qu, .int 0, .ref me, .ref by_, .int 0, .int 0, .int 0, .int 0, .int 0, .ref nx, .int 0])), (nw, .inl (cy 1, 122, .inl F)), (rf, .inl (cy 1, 3, .inl (fun _ => 0)))] sz)) (va_Qi (fun (r : Int32) (_ : Unit) => r = -2) (fun (u : Unit) t => va_P D vwCl ([]) t.heap ∧ va_D (va_A [(mm, .inr (11, [.ref nw, .ref kp, .ref ik, .ref rf, .int 0, .int 0, .ref sd, .ref fr, .ref qu, .int 0, .ref me, .ref by_, .int 0, .int 0, .int 0, .int 0, .int 0, .ref nx, .int 0])), (nw, .inl (cy 1, 122, .inl F)), (rf, .inl (cy 1, 3, .inl (fun _ => 0)))] sz) ([])) (va_A [(mm, .inr (11, [.ref nw, .ref kp, .ref ik, .ref rf, .int 0, .int 0, .ref sd, .ref fr, .ref qu, .int 0, .ref me, .ref by_, .int 0, .int 0, .int 0, .int 0, .int 0, .ref nx, .int 0])), (nw, .inl (cy 1, 122, .inl F)), (rf, .inl (cy 1, 3, .inl (fun _ => 0)))] sz)) 0 0 (va_A [(mm, .inr (11, [.ref nw, .ref kp, .ref ik, .ref rf, .int 0, .int 0, .ref sd, .ref fr, .ref qu, .int 0, .ref me, .ref by_, .int 0, .int 0, .int 0, .int 0, .int 0, .ref nx, .int 0])), (nw, .inl (cy 1, 122, .inl F)), (rf, .inl (cy 1, 3, .inl (fun _ => 0)))] sz) := by
  refine Met.ofW (cc := cX11_lesson) (maxL := 11) (ret := (some .int)) (by decide) rfl ?_
  intro p e s m args below meth c s₁ B hml hv
  obtain ⟨rfl, hsz, hP, hKA, hD0⟩ := hv
  have hx := B.exec
  have hb := B.bytes
  have hr := B.returns
  have hts := atoms_spec (ws := wsX11_lesson) B.pre
  have hown : s.vm.findClass RX11 = some m.cls := findClass_of_methodNamed B.named
  have hlocks := B.notSynchronized
  subst hsz
  have hK := hKA.1
  have hD := hD0.self (sz := s.heap.size)
  generalize hAe : va_A [(mm, .inr (11, [.ref nw, .ref kp, .ref ik, .ref rf, .int 0, .int 0, .ref sd, .ref fr, .ref qu, .int 0, .ref me, .ref by_, .int 0, .int 0, .int 0, .int 0, .int 0, .ref nx, .int 0])), (nw, .inl (cy 1, 122, .inl F)), (rf, .inl (cy 1, 3, .inl (fun _ => 0)))] s.heap.size = A at hD ⊢
  have hA : ∀ q : Nat, s.heap.size ≤ q → A q := fun q h => by rw [← hAe]; exact Or.inr h
  have hS : va_S A s.heap s.heap [] := va_S.rf
  have hP : va_P D vwCl [(mm, .inr (11, [.ref nw, .ref kp, .ref ik, .ref rf, .int 0, .int 0, .ref sd, .ref fr, .ref qu, .int 0, .ref me, .ref by_, .int 0, .int 0, .int 0, .int 0, .int 0, .ref nx, .int 0])), (nw, .inl (cy 1, 122, .inl F)), (rf, .inl (cy 1, 3, .inl (fun _ => 0)))] s.heap := hP
  have hl := lv_entry ([.ref mm, .int x, .int y]) (n := 11) (Nat.le_of_ble_eq_true rfl)
  rw [lg_entry_eq]
  generalize (lg_sl ([.ref mm, .int x, .int y]) ++ List.replicate (11 - (lg_sl ([.ref mm, .int x, .int y])).length) Slot.unset).toArray = ls at hl ⊢
  have hl : lv_has ls 11 [(0, .ref mm), (1, .int x), (2, .int y)] := hl
  refine lv_aload_n hx hb dX11_lesson_0 rfl (lv_at hl 0 rfl) ?_
  refine lv_iload_n hx hb dX11_lesson_1 rfl (lv_at hl 1 rfl) ?_
  refine rd_i (va_runV (As := [.int x]) (rest := []) ⟨hx, hb, hml, hown, hts⟩ (m_isOne l D cy mm nw kp ik rf sd fr qu me by_ nx F x _ h0 h1 h2 hz) (cwV 1 hts gX11_lesson_X11_isOne rfl rfl rfl (by decide +kernel) ⟨Nat.le_of_ble_eq_true rfl, Nat.le_of_ble_eq_true rfl⟩) (pV (ci := 11) (k := 0) hKA (hP.sub (ws' := [(mm, .inr (11, [.ref nw, .ref kp, .ref ik, .ref rf, .int 0, .int 0, .ref sd, .ref fr, .ref qu, .int 0, .ref me, .ref by_, .int 0, .int 0, .int 0, .int 0, .int 0, .ref nx, .int 0])), (nw, .inl (cy 1, 122, .inl F))]) [0, 1] rfl) (hD.sub (ws' := [(mm, .inr (11, [.ref nw, .ref kp, .ref ik, .ref rf, .int 0, .int 0, .ref sd, .ref fr, .ref qu, .int 0, .ref me, .ref by_, .int 0, .int 0, .int 0, .int 0, .int 0, .ref nx, .int 0])), (nw, .inl (cy 1, 122, .inl F))]) [0, 1] (by decide) rfl) rfl rfl) rfl rfl hl.1 rfl (lv_room (Nat.le_of_ble_eq_true rfl)) dX11_lesson_2 ⟨Nat.le_of_ble_eq_true rfl, Nat.le_of_ble_eq_true rfl⟩) hP hS hA (fun r1 H locs hwr1 hP hS => ?_)
  rcases hwr1 with rfl
  · skip
    refine lv_if_eq (tgt := 25) hx hb dX11_lesson_5 (by decide) (fun c2 => ?_) (fun c2 => absurd c2 (by decide))
    refine lv_aload_n hx hb dX11_lesson_25 rfl (lv_at hl 0 rfl) ?_
    refine lv_bipush (v := (-2)) hx hb dX11_lesson_26 (by decide) ?_
    refine wr_i (wr := [(nw, .inl (cy 1, 122, .inl F))]) (va_runV (As := [.int (-2)]) (rest := []) ⟨hx, hb, hml, hown, hts⟩ (m_bad l D cy mm nw kp ik rf sd fr qu me by_ nx (fun _ => 0) (-2) _) (cwV 1 hts gX11_lesson_X11_bad rfl rfl rfl (by decide +kernel) ⟨Nat.le_of_ble_eq_true rfl, Nat.le_of_ble_eq_true rfl⟩) (pV (ci := 11) (k := 0) hKA (hP.sub (ws' := [(mm, .inr (11, [.ref nw, .ref kp, .ref ik, .ref rf, .int 0, .int 0, .ref sd, .ref fr, .ref qu, .int 0, .ref me, .ref by_, .int 0, .int 0, .int 0, .int 0, .int 0, .ref nx, .int 0])), (rf, .inl (cy 1, 3, .inl (fun _ => 0)))]) [0, 2] rfl) (hD.sub (ws' := [(mm, .inr (11, [.ref nw, .ref kp, .ref ik, .ref rf, .int 0, .int 0, .ref sd, .ref fr, .ref qu, .int 0, .ref me, .ref by_, .int 0, .int 0, .int 0, .int 0, .int 0, .ref nx, .int 0])), (rf, .inl (cy 1, 3, .inl (fun _ => 0)))]) [0, 2] (by decide) rfl) rfl rfl) rfl rfl hl.1 rfl (lv_room (Nat.le_of_ble_eq_true rfl)) dX11_lesson_28 ⟨Nat.le_of_ble_eq_true rfl, Nat.le_of_ble_eq_true rfl⟩) hP hD hS hA [0, 2] [1] rfl rfl (by decide +kernel) (by decide +kernel) (fun r3 ur3 H locs hwr3 hP hD hS => ?_)
    have hP : va_P D vwCl [(nw, .inl (cy 1, 122, .inl F))] H := hP
    have hD : va_D A [(nw, .inl (cy 1, 122, .inl F))] := hD
    subst hwr3
    have hP9 := hP.sub (ws' := []) [] rfl
    have hD9 := hD.sub (ws' := []) [] (by decide) rfl
    exact W.iret (v := (-2)) hx hb hr (fun t ht hW => ⟨⟨(-2), (), rfl, rfl, by rw [ht]; exact hP9, hD9⟩, hS.F ht⟩) hS.2.2 dX11_lesson_31

set_option maxHeartbeats 4000000 in
set_option maxRecDepth 100000 in
theorem mt_speakers (l : Launch) (D : va_G) (cy : Nat → ClassId) (mm nw kp ik rf sd fr qu me by_ nx : Nat) (F : Nat → Int32) (sz : Nat) (h0 : F 0 = 6) (h1 : F 1 = 6) (h2 : F 2 = 1) (hz : ∀ k, 3 ≤ k → k < 122 → F k = 0) : Met l yX11_speakers wsX11_speakers ({ frames := 3, cells := 0, slots := 0, locals := 68 }) (va_Pc [.ref mm] (kPre D cy [(mm, .inr (11, [.ref nw, .ref kp, .ref ik, .ref rf, .int 0, .int 0, .ref sd, .ref fr, .ref qu, .int 0, .ref me, .ref by_, .int 0, .int 0, .int 0, .int 0, .int 0, .ref nx, .int 0])), (nw, .inl (cy 1, 122, .inl F)), (rf, .inl (cy 1, 3, .inl (fun _ => 0)))] sz)) (va_Qi (fun (r : Int32) (_ : Unit) => r = 0) (fun (u : Unit) t => va_P D vwCl ([]) t.heap ∧ va_D (va_A [(mm, .inr (11, [.ref nw, .ref kp, .ref ik, .ref rf, .int 0, .int 0, .ref sd, .ref fr, .ref qu, .int 0, .ref me, .ref by_, .int 0, .int 0, .int 0, .int 0, .int 0, .ref nx, .int 0])), (nw, .inl (cy 1, 122, .inl F)), (rf, .inl (cy 1, 3, .inl (fun _ => 0)))] sz) ([])) (va_A [(mm, .inr (11, [.ref nw, .ref kp, .ref ik, .ref rf, .int 0, .int 0, .ref sd, .ref fr, .ref qu, .int 0, .ref me, .ref by_, .int 0, .int 0, .int 0, .int 0, .int 0, .ref nx, .int 0])), (nw, .inl (cy 1, 122, .inl F)), (rf, .inl (cy 1, 3, .inl (fun _ => 0)))] sz)) 0 0 (va_A [(mm, .inr (11, [.ref nw, .ref kp, .ref ik, .ref rf, .int 0, .int 0, .ref sd, .ref fr, .ref qu, .int 0, .ref me, .ref by_, .int 0, .int 0, .int 0, .int 0, .int 0, .ref nx, .int 0])), (nw, .inl (cy 1, 122, .inl F)), (rf, .inl (cy 1, 3, .inl (fun _ => 0)))] sz) := by
  refine Met.ofW (cc := cX11_speakers) (maxL := 1) (ret := (some .int)) (by decide) rfl ?_
  intro p e s m args below meth c s₁ B hml hv
  obtain ⟨rfl, hsz, hP, hKA, hD0⟩ := hv
  have hx := B.exec
  have hb := B.bytes
  have hr := B.returns
  have hts := atoms_spec (ws := wsX11_speakers) B.pre
  have hown : s.vm.findClass RX11 = some m.cls := findClass_of_methodNamed B.named
  have hlocks := B.notSynchronized
  subst hsz
  have hK := hKA.1
  have hD := hD0.self (sz := s.heap.size)
  generalize hAe : va_A [(mm, .inr (11, [.ref nw, .ref kp, .ref ik, .ref rf, .int 0, .int 0, .ref sd, .ref fr, .ref qu, .int 0, .ref me, .ref by_, .int 0, .int 0, .int 0, .int 0, .int 0, .ref nx, .int 0])), (nw, .inl (cy 1, 122, .inl F)), (rf, .inl (cy 1, 3, .inl (fun _ => 0)))] s.heap.size = A at hD ⊢
  have hA : ∀ q : Nat, s.heap.size ≤ q → A q := fun q h => by rw [← hAe]; exact Or.inr h
  have hS : va_S A s.heap s.heap [] := va_S.rf
  have hP : va_P D vwCl [(mm, .inr (11, [.ref nw, .ref kp, .ref ik, .ref rf, .int 0, .int 0, .ref sd, .ref fr, .ref qu, .int 0, .ref me, .ref by_, .int 0, .int 0, .int 0, .int 0, .int 0, .ref nx, .int 0])), (nw, .inl (cy 1, 122, .inl F)), (rf, .inl (cy 1, 3, .inl (fun _ => 0)))] s.heap := hP
  have hl := lv_entry ([.ref mm]) (n := 1) (Nat.le_of_ble_eq_true rfl)
  rw [lg_entry_eq]
  generalize (lg_sl ([.ref mm]) ++ List.replicate (1 - (lg_sl ([.ref mm])).length) Slot.unset).toArray = ls at hl ⊢
  have hl : lv_has ls 1 [(0, .ref mm)] := hl
  refine lv_aload_n hx hb dX11_speakers_0 rfl (lv_at hl 0 rfl) ?_
  refine rd_i (va_runV (As := []) (rest := []) ⟨hx, hb, hml, hown, hts⟩ (m_manySpeakers l D cy mm nw kp ik rf sd fr qu me by_ nx F _ (hz 4 (by decide) (by decide))) (cwV 0 hts gX11_speakers_X11_manySpeakers rfl rfl rfl (by decide +kernel) ⟨Nat.le_of_ble_eq_true rfl, Nat.le_of_ble_eq_true rfl⟩) (pV (ci := 11) (k := 0) hKA (hP.sub (ws' := [(mm, .inr (11, [.ref nw, .ref kp, .ref ik, .ref rf, .int 0, .int 0, .ref sd, .ref fr, .ref qu, .int 0, .ref me, .ref by_, .int 0, .int 0, .int 0, .int 0, .int 0, .ref nx, .int 0])), (nw, .inl (cy 1, 122, .inl F))]) [0, 1] rfl) (hD.sub (ws' := [(mm, .inr (11, [.ref nw, .ref kp, .ref ik, .ref rf, .int 0, .int 0, .ref sd, .ref fr, .ref qu, .int 0, .ref me, .ref by_, .int 0, .int 0, .int 0, .int 0, .int 0, .ref nx, .int 0])), (nw, .inl (cy 1, 122, .inl F))]) [0, 1] (by decide) rfl) rfl rfl) rfl rfl hl.1 rfl (lv_room (Nat.le_of_ble_eq_true rfl)) dX11_speakers_1 ⟨Nat.le_of_ble_eq_true rfl, Nat.le_of_ble_eq_true rfl⟩) hP hS hA (fun r1 H locs hwr1 hP hS => ?_)
  rcases hwr1 with rfl
  · skip
    have hP9 := hP.sub (ws' := []) [] rfl
    have hD9 := hD.sub (ws' := []) [] (by decide) rfl
    exact W.iret (v := 0) hx hb hr (fun t ht hW => ⟨⟨0, (), rfl, rfl, by rw [ht]; exact hP9, hD9⟩, hS.F ht⟩) hS.2.2 dX11_speakers_4
