theorem dX11_type_0 : decode cX11_type 0 = .ok (.iload_n 3, 1) := by decide +kernel
theorem dX11_type_1 : decode cX11_type 1 = .ok (.i2l, 1) := by decide +kernel
theorem dX11_type_2 : decode cX11_type 2 = .ok (.lconst 1, 1) := by decide +kernel
theorem dX11_type_3 : decode cX11_type 3 = .ok (.ldc2_w 194, 3) := by decide +kernel
set_option maxRecDepth 20000 in
theorem ggX11_type_X11_in : GoodIn wsX11_type wsX11_in := goodIn_r _ [8] (by decide +kernel) (by decide +kernel)
set_option maxRecDepth 20000 in
theorem gX11_type_X11_in : GoodIn wsX11_type (va_wsS RX11 49 yX11_in wsX11_in) := goodIn_app (goodIn_of _ (by decide +kernel)) ggX11_type_X11_in
theorem dX11_type_6 : decode cX11_type 6 = .ok (.invokestatic 49, 3) := by decide +kernel
theorem dX11_type_9 : decode cX11_type 9 = .ok (.ifCond .ne 10, 3) := by decide +kernel
theorem dX11_type_19 : decode cX11_type 19 = .ok (.aload_n 0, 1) := by decide +kernel
theorem dX11_type_20 : decode cX11_type 20 = .ok (.getfield 196, 3) := by decide +kernel
theorem dX11_type_23 : decode cX11_type 23 = .ok (.iload_n 3, 1) := by decide +kernel
theorem dX11_type_24 : decode cX11_type 24 = .ok (.iadd, 1) := by decide +kernel
theorem dX11_type_25 : decode cX11_type 25 = .ok (.sipush 250, 3) := by decide +kernel
theorem dX11_type_28 : decode cX11_type 28 = .ok (.if_icmp .le 8, 3) := by decide +kernel
theorem dX11_type_36 : decode cX11_type 36 = .ok (.iload_n 3, 1) := by decide +kernel
theorem dX11_type_37 : decode cX11_type 37 = .ok (.iconst 1, 1) := by decide +kernel
theorem dX11_type_38 : decode cX11_type 38 = .ok (.isub, 1) := by decide +kernel
theorem dX11_type_39 : decode cX11_type 39 = .ok (.istore 4, 2) := by decide +kernel
theorem dX11_type_41 : decode cX11_type 41 = .ok (.iload 4, 2) := by decide +kernel
theorem dX11_type_43 : decode cX11_type 43 = .ok (.ifCond .lt 40, 3) := by decide +kernel
theorem dX11_type_83 : decode cX11_type 83 = .ok (.aload_n 0, 1) := by decide +kernel
theorem dX11_type_84 : decode cX11_type 84 = .ok (.getfield 196, 3) := by decide +kernel
theorem dX11_type_87 : decode cX11_type 87 = .ok (.ireturn, 1) := by decide +kernel
theorem dX11_type_46 : decode cX11_type 46 = .ok (.aload_n 0, 1) := by decide +kernel
theorem dX11_type_47 : decode cX11_type 47 = .ok (.getfield 35, 3) := by decide +kernel
theorem dX11_type_50 : decode cX11_type 50 = .ok (.aload_n 0, 1) := by decide +kernel
theorem dX11_type_51 : decode cX11_type 51 = .ok (.getfield 196, 3) := by decide +kernel
theorem dX11_type_54 : decode cX11_type 54 = .ok (.lload_n 1, 1) := by decide +kernel
theorem dX11_type_55 : decode cX11_type 55 = .ok (.bipush 8, 2) := by decide +kernel
theorem dX11_type_57 : decode cX11_type 57 = .ok (.iload 4, 2) := by decide +kernel
theorem dX11_type_59 : decode cX11_type 59 = .ok (.imul, 1) := by decide +kernel
theorem dX11_type_60 : decode cX11_type 60 = .ok (.lushr, 1) := by decide +kernel
theorem dX11_type_61 : decode cX11_type 61 = .ok (.ldc2_w 199, 3) := by decide +kernel
theorem dX11_type_64 : decode cX11_type 64 = .ok (.land, 1) := by decide +kernel
theorem dX11_type_65 : decode cX11_type 65 = .ok (.l2i, 1) := by decide +kernel
theorem dX11_type_66 : decode cX11_type 66 = .ok (.iastore, 1) := by decide +kernel
theorem dX11_type_67 : decode cX11_type 67 = .ok (.aload_n 0, 1) := by decide +kernel
theorem dX11_type_68 : decode cX11_type 68 = .ok (.dup, 1) := by decide +kernel
theorem dX11_type_69 : decode cX11_type 69 = .ok (.getfield 196, 3) := by decide +kernel
theorem dX11_type_72 : decode cX11_type 72 = .ok (.iconst 1, 1) := by decide +kernel
theorem dX11_type_73 : decode cX11_type 73 = .ok (.iadd, 1) := by decide +kernel
theorem dX11_type_74 : decode cX11_type 74 = .ok (.putfield 196, 3) := by decide +kernel
theorem dX11_type_77 : decode cX11_type 77 = .ok (.iinc 4 (-1), 3) := by decide +kernel
theorem dX11_type_80 : decode cX11_type 80 = .ok (.goto (-39), 3) := by decide +kernel
theorem dX11_type_12 : decode cX11_type 12 = .ok (.aload_n 0, 1) := by decide +kernel
theorem dX11_type_13 : decode cX11_type 13 = .ok (.bipush (-2), 2) := by decide +kernel
set_option maxRecDepth 20000 in
theorem ggX11_type_X11_bad : GoodIn wsX11_type wsX11_bad := goodIn_r _ [12, 13, 18, 19, 20, 21, 22, 23, 24, 25, 26, 27, 28, 29, 30, 31, 32, 33, 34, 35, 36] (by decide +kernel) (by decide +kernel)
set_option maxRecDepth 20000 in
theorem gX11_type_X11_bad : GoodIn wsX11_type (wsV RX11 60 RX11 yX11_bad wsX11_bad) := goodIn_app (goodIn_of _ (by decide +kernel)) ggX11_type_X11_bad
theorem dX11_type_15 : decode cX11_type 15 = .ok (.invokevirtual 60, 3) := by decide +kernel
theorem dX11_type_18 : decode cX11_type 18 = .ok (.ireturn, 1) := by decide +kernel
set_option maxHeartbeats 4000000 in
set_option maxRecDepth 100000 in
theorem mt_type (l : Launch) (D : va_G) (cy : Nat → ClassId) (mm nw kp ik rf sd fr qu me by_ nx : Nat) (F : Nat → Int32) (v : Int64) (x : Int32) (sz : Nat) (h0 : F 0 = 6) (h1 : F 1 = 6) (h2 : F 2 = 1) (hz : ∀ k, 3 ≤ k → k < 122 → F k = 0) : Met l yX11_type wsX11_type ({ frames := 1, cells := 0, slots := 0, locals := 25 }) (va_Pc [.ref mm, .long v, .int x] (kPre D cy [(mm, .inr (11, [.ref nw, .ref kp, .ref ik, .ref rf, .int 0, .int 0, .ref sd, .ref fr, .ref qu, .int 0, .ref me, .ref by_, .int 0, .int 0, .int 0, .int 0, .int 0, .ref nx, .int 0])), (rf, .inl (cy 1, 3, .inl (fun _ => 0))), (by_, .inl (cy 1, 250, .inl (fun _ => 0)))] sz)) (va_Qi (fun (r : Int32) (_ : Unit) => r = sp_type x) (fun (u : Unit) t => va_P D vwCl ([]) t.heap ∧ va_D (va_A [(mm, .inr (11, [.ref nw, .ref kp, .ref ik, .ref rf, .int 0, .int 0, .ref sd, .ref fr, .ref qu, .int 0, .ref me, .ref by_, .int 0, .int 0, .int 0, .int 0, .int 0, .ref nx, .int 0])), (rf, .inl (cy 1, 3, .inl (fun _ => 0))), (by_, .inl (cy 1, 250, .inl (fun _ => 0)))] sz) ([])) (va_A [(mm, .inr (11, [.ref nw, .ref kp, .ref ik, .ref rf, .int 0, .int 0, .ref sd, .ref fr, .ref qu, .int 0, .ref me, .ref by_, .int 0, .int 0, .int 0, .int 0, .int 0, .ref nx, .int 0])), (rf, .inl (cy 1, 3, .inl (fun _ => 0))), (by_, .inl (cy 1, 250, .inl (fun _ => 0)))] sz)) 0 0 (va_A [(mm, .inr (11, [.ref nw, .ref kp, .ref ik, .ref rf, .int 0, .int 0, .ref sd, .ref fr, .ref qu, .int 0, .ref me, .ref by_, .int 0, .int 0, .int 0, .int 0, .int 0, .ref nx, .int 0])), (rf, .inl (cy 1, 3, .inl (fun _ => 0))), (by_, .inl (cy 1, 250, .inl (fun _ => 0)))] sz) := by
  refine Met.ofW (cc := cX11_type) (maxL := 5) (ret := (some .int)) (by decide) rfl ?_
  intro p e s m args below meth c s₁ B hml hv
  obtain ⟨rfl, hsz, hP, hKA, hD0⟩ := hv
  have hx := B.exec
  have hb := B.bytes
  have hr := B.returns
  have hts := atoms_spec (ws := wsX11_type) B.pre
  have hown : s.vm.findClass RX11 = some m.cls := findClass_of_methodNamed B.named
  have hlocks := B.notSynchronized
  subst hsz
  have hK := hKA.1
  have hD := hD0.self (sz := s.heap.size)
  generalize hAe : va_A [(mm, .inr (11, [.ref nw, .ref kp, .ref ik, .ref rf, .int 0, .int 0, .ref sd, .ref fr, .ref qu, .int 0, .ref me, .ref by_, .int 0, .int 0, .int 0, .int 0, .int 0, .ref nx, .int 0])), (rf, .inl (cy 1, 3, .inl (fun _ => 0))), (by_, .inl (cy 1, 250, .inl (fun _ => 0)))] s.heap.size = A at hD ⊢
  have hA : ∀ q : Nat, s.heap.size ≤ q → A q := fun q h => by rw [← hAe]; exact Or.inr h
  have hS : va_S A s.heap s.heap [] := va_S.rf
  have hP : va_P D vwCl [(mm, .inr (11, [.ref nw, .ref kp, .ref ik, .ref rf, .int 0, .int 0, .ref sd, .ref fr, .ref qu, .int 0, .ref me, .ref by_, .int 0, .int 0, .int 0, .int 0, .int 0, .ref nx, .int 0])), (rf, .inl (cy 1, 3, .inl (fun _ => 0))), (by_, .inl (cy 1, 250, .inl (fun _ => 0)))] s.heap := hP
  have hl := lv_entry ([.ref mm, .long v, .int x]) (n := 5) (Nat.le_of_ble_eq_true rfl)
  rw [lg_entry_eq]
  generalize (lg_sl ([.ref mm, .long v, .int x]) ++ List.replicate (5 - (lg_sl ([.ref mm, .long v, .int x])).length) Slot.unset).toArray = ls at hl ⊢
  have hl : lv_has ls 5 [(0, .ref mm), (1, .long v), (3, .int x)] := hl
  have z0_ := hts (.constantLong RX11 194 8) (by decide +kernel)
  have z1_ := hts (.fieldLink RX11 196 "HeardSeenModel" "bytesLong" "I") (by decide +kernel)
  have zi11_ : ∀ w ∈ u_ws RX11 TX11 19, w ∈ wsX11_type := by decide +kernel
  have z3_ := hts (.fieldLink RX11 35 "HeardSeenModel" "bytes" "[I") (by decide +kernel)
  have z4_ := hts (.constantLong RX11 199 255) (by decide +kernel)
  refine lv_iload_n hx hb dX11_type_0 rfl (lv_at hl 2 rfl) ?_
  refine lv_i2l hx hb dX11_type_1 rfl ?_
  refine lv_lconst (v := 1) hx hb dX11_type_2 (by decide) ?_
  refine lv_ldc2 hx hb hown z0_ dX11_type_3 ?_
  refine rd_i (va_runS (As := [.long x.toInt64, .long 1, .long 8]) (rest := []) ⟨hx, hb, hml, hown, hts⟩ (c_X11_in l D cy x.toInt64 1 8 _) (va_cwS 3 hts gX11_type_X11_in rfl rfl rfl (by decide +kernel) ⟨Nat.le_of_ble_eq_true rfl, Nat.le_of_ble_eq_true rfl⟩) (pS hKA pE (dE (A := A))) rfl rfl hl.1 rfl (lv_room (Nat.le_of_ble_eq_true rfl)) dX11_type_6 ⟨Nat.le_of_ble_eq_true rfl, Nat.le_of_ble_eq_true rfl⟩) hP hS hA (fun r1 H locs hwr1 hP hS => ?_)
  rcases hwr1 with ⟨rfl, har1, hbr1⟩ | ⟨rfl, hnr1⟩
  · skip
    have har1 : 1 ≤ x := (z_w 1 (by decide)).1.mp har1
    have hbr1 : x ≤ 8 := (z_w 8 (by decide)).2.mp hbr1
    obtain ⟨nn, hn1, hn8, rfl⟩ := z_nn1 har1 hbr1
    refine lv_if_ne (tgt := 19) hx hb dX11_type_9 (by decide) (fun c2 => ?_) (fun c2 => absurd c2 (by decide))
    refine lv_aload_n hx hb dX11_type_19 rfl (lv_at hl 0 rfl) ?_
    refine va_get (D := D) (ci := 11) (v := .int 0) (C := RX11) (T := TX11) (N := 19) hx hb hts zi11_ hown hK hP 0 rfl rfl 12 (by decide) z1_ (fun _ h9 => h9) rfl dX11_type_20 ?_
    refine lv_iload_n hx hb dX11_type_23 rfl (lv_at hl 2 rfl) ?_
    refine lv_iadd hx hb dX11_type_24 ?_
    refine lv_topi (fun x3 ex3 => ?_)
    obtain rfl : x3 = nI (0 + nn) := by rw [ex3]; exact nI_add _ _
    refine lv_sipush (v := 250) hx hb dX11_type_25 (by decide) ?_
    refine lv_icmp_le (tgt := 36) hx hb dX11_type_28 (by decide) (fun c4 => ?_) (fun c4 => absurd (nI_le (b := 250) (by omega) (by decide)) c4)
    refine lv_iload_n hx hb dX11_type_36 rfl (lv_at hl 2 rfl) ?_
    refine lv_iconst (v := 1) hx hb dX11_type_37 (by decide) ?_
    refine lv_isub hx hb dX11_type_38 ?_
    refine lv_topi (fun x5 ex5 => ?_)
    obtain rfl : x5 = nI (nn - 1) := by rw [ex5]; exact pk_sub (by omega)
    refine lv_istore (lv' := [(4, .int (nI (nn - 1))), (0, .ref mm), (1, .long v), (3, .int (nI nn))]) hx hb dX11_type_39 hl (by decide) rfl (fun ls hl => ?_)
    have e00 : (0 : Int32) = nI 0 := rfl
    have lp41 : ∀ (n41 : Nat) (r : Nat) (xx : Int32) (t0 : Nat) (f : Nat → Int32), t0 + r = nn → xx.toInt = (r : Int) - 1 → r < n41 → ∀ (H : Heap) (locs : List Loc), va_P D vwCl [(mm, .inr (11, [.ref nw, .ref kp, .ref ik, .ref rf, .int 0, .int 0, .ref sd, .ref fr, .ref qu, .int 0, .ref me, .ref by_, .int (nI t0), .int 0, .int 0, .int 0, .int 0, .ref nx, .int 0])), (rf, .inl (cy 1, 3, .inl (fun _ => 0))), (by_, .inl (cy 1, 250, .inl f))] H → va_D A [(mm, .inr (11, [.ref nw, .ref kp, .ref ik, .ref rf, .int 0, .int 0, .ref sd, .ref fr, .ref qu, .int 0, .ref me, .ref by_, .int (nI t0), .int 0, .int 0, .int 0, .int 0, .ref nx, .int 0])), (rf, .inl (cy 1, 3, .inl (fun _ => 0))), (by_, .inl (cy 1, 250, .inl f))] → va_S A s.heap H locs → ∀ ls : Array Slot, lv_has ls 5 [(0, .ref mm), (1, .long v), (3, .int (nI nn)), (4, .int xx)] → W p l e (headSpec wsX11_type ({ frames := 1, cells := 0, slots := 0, locals := 25 })).room s m [.ref mm, .long v, .int (nI nn)].toArray below meth c H locs 0 0 (MQ below (va_Qi (fun (r : Int32) (_ : Unit) => r = sp_type (nI nn)) (fun (u : Unit) t => va_P D vwCl ([]) t.heap ∧ va_D A ([])) A) [.ref mm, .long v, .int (nI nn)].toArray s 0 0 A) (F0 m 41 ls []) := by
      intro n41
      induction n41 with
      | zero => intro r xx t0 f hrr hx4 hm; exact absurd hm (Nat.not_lt_zero _)
      | succ n41 ih41 =>
        intro r xx t0 f hrr hx4 hm41 H locs hP hD hS ls hl
        refine lv_iload hx hb dX11_type_41 (lv_at hl 3 rfl) ?_
        refine lv_if_lt (tgt := 83) hx hb dX11_type_43 (by decide) (fun c6 => ?_) (fun c6 => ?_)
        · skip
          refine lv_aload_n hx hb dX11_type_83 rfl (lv_at hl 0 rfl) ?_
          refine va_get (D := D) (ci := 11) (v := .int (nI t0)) (C := RX11) (T := TX11) (N := 19) hx hb hts zi11_ hown hK hP 0 rfl rfl 12 (by decide) z1_ (fun _ h9 => h9) rfl dX11_type_84 ?_
          have hP9 := hP.sub (ws' := []) [] rfl
          have hD9 := hD.sub (ws' := []) [] (by decide) rfl
          exact W.iret (v := nI t0) hx hb hr (fun t ht hW => ⟨⟨nI t0, (), rfl, (by have q : xx.toInt < 0 := (z_lt _ _).mp (by assumption); have q2 : t0 = nn := (by omega); rw [q2]; simp [sp_type, har1, hbr1]), by rw [ht]; exact hP9, hD9⟩, hS.F ht⟩) hS.2.2 dX11_type_87
        · skip
          refine lv_aload_n hx hb dX11_type_46 rfl (lv_at hl 0 rfl) ?_
          refine va_get (D := D) (ci := 11) (v := .ref by_) (C := RX11) (T := TX11) (N := 19) hx hb hts zi11_ hown hK hP 0 rfl rfl 11 (by decide) z3_ (fun _ h9 => h9) rfl dX11_type_47 ?_
          refine lv_aload_n hx hb dX11_type_50 rfl (lv_at hl 0 rfl) ?_
          refine va_get (D := D) (ci := 11) (v := .int (nI t0)) (C := RX11) (T := TX11) (N := 19) hx hb hts zi11_ hown hK hP 0 rfl rfl 12 (by decide) z1_ (fun _ h9 => h9) rfl dX11_type_51 ?_
          refine lv_lload_n hx hb dX11_type_54 rfl (lv_at hl 1 rfl) ?_
          refine lv_bipush (v := 8) hx hb dX11_type_55 (by decide) ?_
          refine lv_iload hx hb dX11_type_57 (lv_at hl 3 rfl) ?_
          refine lv_imul hx hb dX11_type_59 ?_
          refine lv_lushr hx hb dX11_type_60 rfl ?_
          refine lv_ldc2 hx hb hown z4_ dX11_type_61 ?_
          refine lv_land hx hb dX11_type_64 ?_
          refine lv_l2i hx hb dX11_type_65 rfl ?_
          refine lv_topi (fun x7 ex7 => ?_)
          refine my_iast hx hb hK hP hD hS 2 1 rfl rfl (vp_in_nI (by have q2 := (z_dec hx4 (by assumption)).1; omega) (by decide)) (nI_clamp (by omega)) dX11_type_66 (fun H locs hP hD hS => ?_)
          have hP : va_P D vwCl [(mm, .inr (11, [.ref nw, .ref kp, .ref ik, .ref rf, .int 0, .int 0, .ref sd, .ref fr, .ref qu, .int 0, .ref me, .ref by_, .int (nI t0), .int 0, .int 0, .int 0, .int 0, .ref nx, .int 0])), (rf, .inl (cy 1, 3, .inl (fun _ => 0))), (by_, .inl (cy 1, 250, .inl (upd f t0 x7)))] H := hP
          have hD : va_D A [(mm, .inr (11, [.ref nw, .ref kp, .ref ik, .ref rf, .int 0, .int 0, .ref sd, .ref fr, .ref qu, .int 0, .ref me, .ref by_, .int (nI t0), .int 0, .int 0, .int 0, .int 0, .ref nx, .int 0])), (rf, .inl (cy 1, 3, .inl (fun _ => 0))), (by_, .inl (cy 1, 250, .inl (upd f t0 x7)))] := hD
          refine lv_aload_n hx hb dX11_type_67 rfl (lv_at hl 0 rfl) ?_
          refine lv_dup hx hb dX11_type_68 rfl ?_
          refine va_get (D := D) (ci := 11) (v := .int (nI t0)) (C := RX11) (T := TX11) (N := 19) hx hb hts zi11_ hown hK hP 0 rfl rfl 12 (by decide) z1_ (fun _ h9 => h9) rfl dX11_type_69 ?_
          refine lv_iconst (v := 1) hx hb dX11_type_72 (by decide) ?_
          refine lv_iadd hx hb dX11_type_73 ?_
          refine lv_topi (fun x8 ex8 => ?_)
          obtain rfl : x8 = nI (t0 + 1) := by rw [ex8]; exact nI_add _ _
          refine va_put (D := D) (ci := 11) (v := .int (nI (t0 + 1))) (ty := .int) (C := RX11) (T := TX11) (N := 19) hx hb hts zi11_ tyX11 tyX11_ok nmX11 hown hK hP hD hS 0 rfl rfl 12 (by decide) z1_ (fun _ h9 => h9) rfl (by decide +kernel) rfl rfl (Nat.le_of_ble_eq_true rfl) dX11_type_74 (fun H locs hP hD hS => ?_)
          have hP : va_P D vwCl [(mm, .inr (11, [.ref nw, .ref kp, .ref ik, .ref rf, .int 0, .int 0, .ref sd, .ref fr, .ref qu, .int 0, .ref me, .ref by_, .int (nI (t0 + 1)), .int 0, .int 0, .int 0, .int 0, .ref nx, .int 0])), (rf, .inl (cy 1, 3, .inl (fun _ => 0))), (by_, .inl (cy 1, 250, .inl (upd f t0 x7)))] H := hP
          have hD : va_D A [(mm, .inr (11, [.ref nw, .ref kp, .ref ik, .ref rf, .int 0, .int 0, .ref sd, .ref fr, .ref qu, .int 0, .ref me, .ref by_, .int (nI (t0 + 1)), .int 0, .int 0, .int 0, .int 0, .ref nx, .int 0])), (rf, .inl (cy 1, 3, .inl (fun _ => 0))), (by_, .inl (cy 1, 250, .inl (upd f t0 x7)))] := hD
          obtain ⟨x9, ex9⟩ : ∃ y : Int32, y = xx + (-1) := ⟨_, rfl⟩
          refine lv_iinc (v := x9) (lv' := [(4, .int x9), (0, .ref mm), (1, .long v), (3, .int (nI nn))]) hx hb dX11_type_77 hl (k := 3) rfl (by rw [ex9]; rfl) (by decide) rfl (fun ls hl => ?_)
          refine lv_goto (tgt := 41) hx hb dX11_type_80 (by decide) ?_
          exact ih41 (r - 1) x9 (t0 + 1) (upd f t0 x7) (by have := (z_dec hx4 (by assumption)).1; omega) (by rw [ex9]; exact (z_dec hx4 (by assumption)).2) (by have := (z_dec hx4 (by assumption)).1; omega) _ _ (hP.sub (ws' := [(mm, .inr (11, [.ref nw, .ref kp, .ref ik, .ref rf, .int 0, .int 0, .ref sd, .ref fr, .ref qu, .int 0, .ref me, .ref by_, .int (nI (t0 + 1)), .int 0, .int 0, .int 0, .int 0, .ref nx, .int 0])), (rf, .inl (cy 1, 3, .inl (fun _ => 0))), (by_, .inl (cy 1, 250, .inl (upd f t0 x7)))]) [0, 1, 2] rfl) (hD.sub (ws' := [(mm, .inr (11, [.ref nw, .ref kp, .ref ik, .ref rf, .int 0, .int 0, .ref sd, .ref fr, .ref qu, .int 0, .ref me, .ref by_, .int (nI (t0 + 1)), .int 0, .int 0, .int 0, .int 0, .ref nx, .int 0])), (rf, .inl (cy 1, 3, .inl (fun _ => 0))), (by_, .inl (cy 1, 250, .inl (upd f t0 x7)))]) [0, 1, 2] (by decide) rfl) hS ls (lv_sub hl [1, 2, 3, 0] rfl)
    exact lp41 (nn + 1) nn (nI (nn - 1)) 0 (fun _ => 0) (by omega) (by rw [nI_toInt (by omega)]; omega) (Nat.lt_succ_self _) _ _ (hP.sub (ws' := [(mm, .inr (11, [.ref nw, .ref kp, .ref ik, .ref rf, .int 0, .int 0, .ref sd, .ref fr, .ref qu, .int 0, .ref me, .ref by_, .int 0, .int 0, .int 0, .int 0, .int 0, .ref nx, .int 0])), (rf, .inl (cy 1, 3, .inl (fun _ => 0))), (by_, .inl (cy 1, 250, .inl (fun _ => 0)))]) [0, 1, 2] rfl) (hD.sub (ws' := [(mm, .inr (11, [.ref nw, .ref kp, .ref ik, .ref rf, .int 0, .int 0, .ref sd, .ref fr, .ref qu, .int 0, .ref me, .ref by_, .int 0, .int 0, .int 0, .int 0, .int 0, .ref nx, .int 0])), (rf, .inl (cy 1, 3, .inl (fun _ => 0))), (by_, .inl (cy 1, 250, .inl (fun _ => 0)))]) [0, 1, 2] (by decide) rfl) hS ls (lv_sub hl [1, 2, 3, 0] rfl)
  · skip
    have hnr1 : ¬ (1 ≤ x ∧ x ≤ 8) := fun q => hnr1 ⟨(z_w 1 (by decide)).1.mpr q.1, (z_w 8 (by decide)).2.mpr q.2⟩
    refine lv_if_ne (tgt := 19) hx hb dX11_type_9 (by decide) (fun c10 => absurd c10 (by decide)) (fun c10 => ?_)
    refine lv_aload_n hx hb dX11_type_12 rfl (lv_at hl 0 rfl) ?_
    refine lv_bipush (v := (-2)) hx hb dX11_type_13 (by decide) ?_
    refine wr_i (wr := [(by_, .inl (cy 1, 250, .inl (fun _ => 0)))]) (va_runV (As := [.int (-2)]) (rest := []) ⟨hx, hb, hml, hown, hts⟩ (m_bad l D cy mm nw kp ik rf sd fr qu me by_ nx (fun _ => 0) (-2) _) (cwV 1 hts gX11_type_X11_bad rfl rfl rfl (by decide +kernel) ⟨Nat.le_of_ble_eq_true rfl, Nat.le_of_ble_eq_true rfl⟩) (pV (ci := 11) (k := 0) hKA (hP.sub (ws' := [(mm, .inr (11, [.ref nw, .ref kp, .ref ik, .ref rf, .int 0, .int 0, .ref sd, .ref fr, .ref qu, .int 0, .ref me, .ref by_, .int 0, .int 0, .int 0, .int 0, .int 0, .ref nx, .int 0])), (rf, .inl (cy 1, 3, .inl (fun _ => 0)))]) [0, 1] rfl) (hD.sub (ws' := [(mm, .inr (11, [.ref nw, .ref kp, .ref ik, .ref rf, .int 0, .int 0, .ref sd, .ref fr, .ref qu, .int 0, .ref me, .ref by_, .int 0, .int 0, .int 0, .int 0, .int 0, .ref nx, .int 0])), (rf, .inl (cy 1, 3, .inl (fun _ => 0)))]) [0, 1] (by decide) rfl) rfl rfl) rfl rfl hl.1 rfl (lv_room (Nat.le_of_ble_eq_true rfl)) dX11_type_15 ⟨Nat.le_of_ble_eq_true rfl, Nat.le_of_ble_eq_true rfl⟩) hP hD hS hA [0, 1] [2] rfl rfl (by decide +kernel) (by decide +kernel) (fun r11 ur11 H locs hwr11 hP hD hS => ?_)
    have hP : va_P D vwCl [(by_, .inl (cy 1, 250, .inl (fun _ => 0)))] H := hP
    have hD : va_D A [(by_, .inl (cy 1, 250, .inl (fun _ => 0)))] := hD
    subst hwr11
    have hP9 := hP.sub (ws' := []) [] rfl
    have hD9 := hD.sub (ws' := []) [] (by decide) rfl
    exact W.iret (v := (-2)) hx hb hr (fun t ht hW => ⟨⟨(-2), (), rfl, (by simp [sp_type, hnr1]), by rw [ht]; exact hP9, hD9⟩, hS.F ht⟩) hS.2.2 dX11_type_18
