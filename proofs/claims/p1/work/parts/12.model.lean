theorem dX11_in_0 : decode cX11_in 0 = .ok (.lload_n 0, 1) := by decide +kernel
theorem dX11_in_1 : decode cX11_in 1 = .ok (.lload_n 2, 1) := by decide +kernel
theorem dX11_in_2 : decode cX11_in 2 = .ok (.lcmp, 1) := by decide +kernel
theorem dX11_in_3 : decode cX11_in 3 = .ok (.ifCond .lt 14, 3) := by decide +kernel
theorem dX11_in_17 : decode cX11_in 17 = .ok (.iconst 0, 1) := by decide +kernel
theorem dX11_in_18 : decode cX11_in 18 = .ok (.ireturn, 1) := by decide +kernel
theorem dX11_in_6 : decode cX11_in 6 = .ok (.lload_n 0, 1) := by decide +kernel
theorem dX11_in_7 : decode cX11_in 7 = .ok (.lload 4, 2) := by decide +kernel
theorem dX11_in_9 : decode cX11_in 9 = .ok (.lcmp, 1) := by decide +kernel
theorem dX11_in_10 : decode cX11_in 10 = .ok (.ifCond .gt 7, 3) := by decide +kernel
theorem dX11_in_13 : decode cX11_in 13 = .ok (.iconst 1, 1) := by decide +kernel
theorem dX11_in_14 : decode cX11_in 14 = .ok (.goto 4, 3) := by decide +kernel
theorem dX11_begin_0 : decode cX11_begin 0 = .ok (.iconst 0, 1) := by decide +kernel
theorem dX11_begin_1 : decode cX11_begin 1 = .ok (.istore_n 3, 1) := by decide +kernel
theorem dX11_begin_2 : decode cX11_begin 2 = .ok (.iload_n 3, 1) := by decide +kernel
theorem dX11_begin_3 : decode cX11_begin 3 = .ok (.bipush 122, 2) := by decide +kernel
theorem dX11_begin_5 : decode cX11_begin 5 = .ok (.if_icmp .ge 13, 3) := by decide +kernel
theorem dX11_begin_18 : decode cX11_begin 18 = .ok (.aload_n 0, 1) := by decide +kernel
theorem dX11_begin_19 : decode cX11_begin 19 = .ok (.iconst 0, 1) := by decide +kernel
theorem dX11_begin_20 : decode cX11_begin 20 = .ok (.iload_n 1, 1) := by decide +kernel
theorem dX11_begin_21 : decode cX11_begin 21 = .ok (.iastore, 1) := by decide +kernel
theorem dX11_begin_22 : decode cX11_begin 22 = .ok (.aload_n 0, 1) := by decide +kernel
theorem dX11_begin_23 : decode cX11_begin 23 = .ok (.iconst 1, 1) := by decide +kernel
theorem dX11_begin_24 : decode cX11_begin 24 = .ok (.iload_n 2, 1) := by decide +kernel
theorem dX11_begin_25 : decode cX11_begin 25 = .ok (.iastore, 1) := by decide +kernel
theorem dX11_begin_26 : decode cX11_begin 26 = .ok (.aload_n 0, 1) := by decide +kernel
theorem dX11_begin_27 : decode cX11_begin 27 = .ok (.iconst 2, 1) := by decide +kernel
theorem dX11_begin_28 : decode cX11_begin 28 = .ok (.iconst 1, 1) := by decide +kernel
theorem dX11_begin_29 : decode cX11_begin 29 = .ok (.iastore, 1) := by decide +kernel
theorem dX11_begin_30 : decode cX11_begin 30 = .ok (.return_, 1) := by decide +kernel
theorem dX11_begin_8 : decode cX11_begin 8 = .ok (.aload_n 0, 1) := by decide +kernel
theorem dX11_begin_9 : decode cX11_begin 9 = .ok (.iload_n 3, 1) := by decide +kernel
theorem dX11_begin_10 : decode cX11_begin 10 = .ok (.iconst 0, 1) := by decide +kernel
theorem dX11_begin_11 : decode cX11_begin 11 = .ok (.iastore, 1) := by decide +kernel
theorem dX11_begin_12 : decode cX11_begin 12 = .ok (.iinc 3 1, 3) := by decide +kernel
theorem dX11_begin_15 : decode cX11_begin 15 = .ok (.goto (-13), 3) := by decide +kernel
theorem dX11_squares_0 : decode cX11_squares 0 = .ok (.aload_n 0, 1) := by decide +kernel
theorem dX11_squares_1 : decode cX11_squares 1 = .ok (.getfield 7, 3) := by decide +kernel
theorem dX11_squares_4 : decode cX11_squares 4 = .ok (.iconst 0, 1) := by decide +kernel
theorem dX11_squares_5 : decode cX11_squares 5 = .ok (.iaload, 1) := by decide +kernel
theorem dX11_squares_6 : decode cX11_squares 6 = .ok (.aload_n 0, 1) := by decide +kernel
theorem dX11_squares_7 : decode cX11_squares 7 = .ok (.getfield 7, 3) := by decide +kernel
theorem dX11_squares_10 : decode cX11_squares 10 = .ok (.iconst 1, 1) := by decide +kernel
theorem dX11_squares_11 : decode cX11_squares 11 = .ok (.iaload, 1) := by decide +kernel
theorem dX11_squares_12 : decode cX11_squares 12 = .ok (.imul, 1) := by decide +kernel
theorem dX11_squares_13 : decode cX11_squares 13 = .ok (.ireturn, 1) := by decide +kernel
theorem dX11_people_0 : decode cX11_people 0 = .ok (.aload_n 0, 1) := by decide +kernel
theorem dX11_people_1 : decode cX11_people 1 = .ok (.getfield 7, 3) := by decide +kernel
theorem dX11_people_4 : decode cX11_people 4 = .ok (.iconst 4, 1) := by decide +kernel
theorem dX11_people_5 : decode cX11_people 5 = .ok (.iaload, 1) := by decide +kernel
theorem dX11_people_6 : decode cX11_people 6 = .ok (.ireturn, 1) := by decide +kernel
theorem dX11_isSquare_0 : decode cX11_isSquare 0 = .ok (.iload_n 1, 1) := by decide +kernel
theorem dX11_isSquare_1 : decode cX11_isSquare 1 = .ok (.i2l, 1) := by decide +kernel
theorem dX11_isSquare_2 : decode cX11_isSquare 2 = .ok (.lconst 0, 1) := by decide +kernel
theorem dX11_isSquare_3 : decode cX11_isSquare 3 = .ok (.aload_n 0, 1) := by decide +kernel
set_option maxRecDepth 20000 in
theorem ggX11_isSquare_X11_squares : GoodIn wsX11_isSquare wsX11_squares := goodIn_r _ [5, 6, 10, 11, 12, 13, 14, 15, 16, 17, 18, 19, 20, 21, 22, 23, 24, 25, 26, 27, 28] (by decide +kernel) (by decide +kernel)
set_option maxRecDepth 20000 in
theorem gX11_isSquare_X11_squares : GoodIn wsX11_isSquare (wsV RX11 45 RX11 yX11_squares wsX11_squares) := goodIn_app (goodIn_of _ (by decide +kernel)) ggX11_isSquare_X11_squares
theorem dX11_isSquare_4 : decode cX11_isSquare 4 = .ok (.invokevirtual 45, 3) := by decide +kernel
theorem dX11_isSquare_7 : decode cX11_isSquare 7 = .ok (.iconst 1, 1) := by decide +kernel
theorem dX11_isSquare_8 : decode cX11_isSquare 8 = .ok (.isub, 1) := by decide +kernel
theorem dX11_isSquare_9 : decode cX11_isSquare 9 = .ok (.i2l, 1) := by decide +kernel
set_option maxRecDepth 20000 in
theorem ggX11_isSquare_X11_in : GoodIn wsX11_isSquare wsX11_in := goodIn_r _ [9] (by decide +kernel) (by decide +kernel)
set_option maxRecDepth 20000 in
theorem gX11_isSquare_X11_in : GoodIn wsX11_isSquare (va_wsS RX11 49 yX11_in wsX11_in) := goodIn_app (goodIn_of _ (by decide +kernel)) ggX11_isSquare_X11_in
theorem dX11_isSquare_10 : decode cX11_isSquare 10 = .ok (.invokestatic 49, 3) := by decide +kernel
theorem dX11_isSquare_13 : decode cX11_isSquare 13 = .ok (.ireturn, 1) := by decide +kernel
theorem dX11_isOne_0 : decode cX11_isOne 0 = .ok (.iload_n 1, 1) := by decide +kernel
theorem dX11_isOne_1 : decode cX11_isOne 1 = .ok (.i2l, 1) := by decide +kernel
theorem dX11_isOne_2 : decode cX11_isOne 2 = .ok (.lconst 0, 1) := by decide +kernel
theorem dX11_isOne_3 : decode cX11_isOne 3 = .ok (.aload_n 0, 1) := by decide +kernel
set_option maxRecDepth 20000 in
theorem ggX11_isOne_X11_people : GoodIn wsX11_isOne wsX11_people := goodIn_r _ [5, 6, 10, 11, 12, 13, 14, 15, 16, 17, 18, 19, 20, 21, 22, 23, 24, 25, 26, 27, 28] (by decide +kernel) (by decide +kernel)
set_option maxRecDepth 20000 in
theorem gX11_isOne_X11_people : GoodIn wsX11_isOne (wsV RX11 53 RX11 yX11_people wsX11_people) := goodIn_app (goodIn_of _ (by decide +kernel)) ggX11_isOne_X11_people
theorem dX11_isOne_4 : decode cX11_isOne 4 = .ok (.invokevirtual 53, 3) := by decide +kernel
theorem dX11_isOne_7 : decode cX11_isOne 7 = .ok (.iconst 1, 1) := by decide +kernel
theorem dX11_isOne_8 : decode cX11_isOne 8 = .ok (.isub, 1) := by decide +kernel
theorem dX11_isOne_9 : decode cX11_isOne 9 = .ok (.i2l, 1) := by decide +kernel
set_option maxRecDepth 20000 in
theorem ggX11_isOne_X11_in : GoodIn wsX11_isOne wsX11_in := goodIn_r _ [9] (by decide +kernel) (by decide +kernel)
set_option maxRecDepth 20000 in
theorem gX11_isOne_X11_in : GoodIn wsX11_isOne (va_wsS RX11 49 yX11_in wsX11_in) := goodIn_app (goodIn_of _ (by decide +kernel)) ggX11_isOne_X11_in
theorem dX11_isOne_10 : decode cX11_isOne 10 = .ok (.invokestatic 49, 3) := by decide +kernel
theorem dX11_isOne_13 : decode cX11_isOne 13 = .ok (.ireturn, 1) := by decide +kernel
theorem dX11_isSet_0 : decode cX11_isSet 0 = .ok (.iload_n 1, 1) := by decide +kernel
theorem dX11_isSet_1 : decode cX11_isSet 1 = .ok (.i2l, 1) := by decide +kernel
theorem dX11_isSet_2 : decode cX11_isSet 2 = .ok (.lconst 0, 1) := by decide +kernel
theorem dX11_isSet_3 : decode cX11_isSet 3 = .ok (.iconst 1, 1) := by decide +kernel
theorem dX11_isSet_4 : decode cX11_isSet 4 = .ok (.aload_n 0, 1) := by decide +kernel
set_option maxRecDepth 20000 in
theorem ggX11_isSet_X11_people : GoodIn wsX11_isSet wsX11_people := goodIn_r _ [5, 6, 10, 11, 12, 13, 14, 15, 16, 17, 18, 19, 20, 21, 22, 23, 24, 25, 26, 27, 28] (by decide +kernel) (by decide +kernel)
set_option maxRecDepth 20000 in
theorem gX11_isSet_X11_people : GoodIn wsX11_isSet (wsV RX11 53 RX11 yX11_people wsX11_people) := goodIn_app (goodIn_of _ (by decide +kernel)) ggX11_isSet_X11_people
theorem dX11_isSet_5 : decode cX11_isSet 5 = .ok (.invokevirtual 53, 3) := by decide +kernel
theorem dX11_isSet_8 : decode cX11_isSet 8 = .ok (.ishl, 1) := by decide +kernel
theorem dX11_isSet_9 : decode cX11_isSet 9 = .ok (.iconst 1, 1) := by decide +kernel
theorem dX11_isSet_10 : decode cX11_isSet 10 = .ok (.isub, 1) := by decide +kernel
theorem dX11_isSet_11 : decode cX11_isSet 11 = .ok (.i2l, 1) := by decide +kernel
set_option maxRecDepth 20000 in
theorem ggX11_isSet_X11_in : GoodIn wsX11_isSet wsX11_in := goodIn_r _ [9] (by decide +kernel) (by decide +kernel)
set_option maxRecDepth 20000 in
theorem gX11_isSet_X11_in : GoodIn wsX11_isSet (va_wsS RX11 49 yX11_in wsX11_in) := goodIn_app (goodIn_of _ (by decide +kernel)) ggX11_isSet_X11_in
theorem dX11_isSet_12 : decode cX11_isSet 12 = .ok (.invokestatic 49, 3) := by decide +kernel
theorem dX11_isSet_15 : decode cX11_isSet 15 = .ok (.ireturn, 1) := by decide +kernel
theorem dX11_bad_0 : decode cX11_bad 0 = .ok (.aload_n 0, 1) := by decide +kernel
theorem dX11_bad_1 : decode cX11_bad 1 = .ok (.getfield 20, 3) := by decide +kernel
theorem dX11_bad_4 : decode cX11_bad 4 = .ok (.iconst 0, 1) := by decide +kernel
theorem dX11_bad_5 : decode cX11_bad 5 = .ok (.dup2, 1) := by decide +kernel
theorem dX11_bad_6 : decode cX11_bad 6 = .ok (.iaload, 1) := by decide +kernel
theorem dX11_bad_7 : decode cX11_bad 7 = .ok (.iconst 1, 1) := by decide +kernel
theorem dX11_bad_8 : decode cX11_bad 8 = .ok (.iadd, 1) := by decide +kernel
theorem dX11_bad_9 : decode cX11_bad 9 = .ok (.iastore, 1) := by decide +kernel
theorem dX11_bad_10 : decode cX11_bad 10 = .ok (.iload_n 1, 1) := by decide +kernel
theorem dX11_bad_11 : decode cX11_bad 11 = .ok (.ireturn, 1) := by decide +kernel
theorem dX11_no_0 : decode cX11_no 0 = .ok (.aload_n 0, 1) := by decide +kernel
theorem dX11_no_1 : decode cX11_no 1 = .ok (.getfield 20, 3) := by decide +kernel
theorem dX11_no_4 : decode cX11_no 4 = .ok (.iconst 1, 1) := by decide +kernel
theorem dX11_no_5 : decode cX11_no 5 = .ok (.dup2, 1) := by decide +kernel
theorem dX11_no_6 : decode cX11_no 6 = .ok (.iaload, 1) := by decide +kernel
theorem dX11_no_7 : decode cX11_no 7 = .ok (.iconst 1, 1) := by decide +kernel
theorem dX11_no_8 : decode cX11_no 8 = .ok (.iadd, 1) := by decide +kernel
theorem dX11_no_9 : decode cX11_no 9 = .ok (.iastore, 1) := by decide +kernel
theorem dX11_no_10 : decode cX11_no 10 = .ok (.iload_n 1, 1) := by decide +kernel
theorem dX11_no_11 : decode cX11_no 11 = .ok (.ireturn, 1) := by decide +kernel
theorem dX11_isStood_0 : decode cX11_isStood 0 = .ok (.iconst 0, 1) := by decide +kernel
theorem dX11_isStood_1 : decode cX11_isStood 1 = .ok (.istore_n 3, 1) := by decide +kernel
theorem dX11_isStood_2 : decode cX11_isStood 2 = .ok (.iconst 0, 1) := by decide +kernel
theorem dX11_isStood_3 : decode cX11_isStood 3 = .ok (.istore 4, 2) := by decide +kernel
theorem dX11_isStood_5 : decode cX11_isStood 5 = .ok (.iload 4, 2) := by decide +kernel
theorem dX11_isStood_7 : decode cX11_isStood 7 = .ok (.aload_n 0, 1) := by decide +kernel
theorem dX11_isStood_8 : decode cX11_isStood 8 = .ok (.iconst 4, 1) := by decide +kernel
theorem dX11_isStood_9 : decode cX11_isStood 9 = .ok (.iaload, 1) := by decide +kernel
theorem dX11_isStood_10 : decode cX11_isStood 10 = .ok (.if_icmp .ge 39, 3) := by decide +kernel
theorem dX11_isStood_49 : decode cX11_isStood 49 = .ok (.iload_n 3, 1) := by decide +kernel
theorem dX11_isStood_50 : decode cX11_isStood 50 = .ok (.ireturn, 1) := by decide +kernel
theorem dX11_isFree_0 : decode cX11_isFree 0 = .ok (.aload_n 0, 1) := by decide +kernel
theorem dX11_isFree_1 : decode cX11_isFree 1 = .ok (.getfield 7, 3) := by decide +kernel
theorem dX11_isFree_4 : decode cX11_isFree 4 = .ok (.bipush 20, 2) := by decide +kernel
theorem dX11_isFree_6 : decode cX11_isFree 6 = .ok (.iload_n 1, 1) := by decide +kernel
theorem dX11_isFree_7 : decode cX11_isFree 7 = .ok (.iadd, 1) := by decide +kernel
theorem dX11_isFree_8 : decode cX11_isFree 8 = .ok (.iaload, 1) := by decide +kernel
theorem dX11_isFree_9 : decode cX11_isFree 9 = .ok (.ifCond .ne 19, 3) := by decide +kernel
theorem dX11_isFree_28 : decode cX11_isFree 28 = .ok (.iconst 0, 1) := by decide +kernel
theorem dX11_isFree_29 : decode cX11_isFree 29 = .ok (.ireturn, 1) := by decide +kernel
theorem dX11_isFree_12 : decode cX11_isFree 12 = .ok (.aload_n 0, 1) := by decide +kernel
theorem dX11_isFree_13 : decode cX11_isFree 13 = .ok (.getfield 7, 3) := by decide +kernel
theorem dX11_isFree_16 : decode cX11_isFree 16 = .ok (.iload_n 1, 1) := by decide +kernel
theorem dX11_isFree_17 : decode cX11_isFree 17 = .ok (.iload_n 2, 1) := by decide +kernel
set_option maxRecDepth 20000 in
theorem ggX11_isFree_X11_isStood : GoodIn wsX11_isFree wsX11_isStood := goodIn_r _ [5] (by decide +kernel) (by decide +kernel)
set_option maxRecDepth 20000 in
theorem gX11_isFree_X11_isStood : GoodIn wsX11_isFree (va_wsS RX11 64 yX11_isStood wsX11_isStood) := goodIn_app (goodIn_of _ (by decide +kernel)) ggX11_isFree_X11_isStood
theorem dX11_isFree_18 : decode cX11_isFree 18 = .ok (.invokestatic 64, 3) := by decide +kernel
theorem dX11_isFree_21 : decode cX11_isFree 21 = .ok (.ifCond .ne 7, 3) := by decide +kernel
theorem dX11_isFree_24 : decode cX11_isFree 24 = .ok (.iconst 1, 1) := by decide +kernel
theorem dX11_isFree_25 : decode cX11_isFree 25 = .ok (.goto 4, 3) := by decide +kernel
theorem z_w {q : Int32} (n : Int32) {K : Int64} (h : n.toInt64 = K) : (K ≤ q.toInt64 ↔ n ≤ q) ∧ (q.toInt64 ≤ K ↔ q ≤ n) := by
  subst h
  exact ⟨z_wle n q, z_wle q n⟩
theorem z_35 (q : Int32) : q ≤ 35 ↔ q < 36 := by
  rw [z_le, z_lt]
  have a : (35 : Int32).toInt = 35 := by decide
  have b : (36 : Int32).toInt = 36 := by decide
  omega
theorem u_eq (f : Nat → Int32) (k : Nat) (x : Int32) : upd f k x k = x := pk_us
theorem u_ne (f : Nat → Int32) {k j : Nat} (x : Int32) (h : j ≠ k) : upd f k x j = f j := pk_un h

set_option maxHeartbeats 4000000 in
set_option maxRecDepth 100000 in
theorem c_X11_in (l : Launch) (D : va_G) (cy : Nat → ClassId) (v lo hi : Int64) (sz : Nat)  : Met l yX11_in wsX11_in ({ frames := 0, cells := 0, slots := 0, locals := 0 }) (va_Pc [.long v, .long lo, .long hi] (kPre D cy [] sz)) (va_Qi (fun (r : Int32) (_ : Unit) => (r = 1 ∧ lo ≤ v ∧ v ≤ hi) ∨ (r = 0 ∧ ¬ (lo ≤ v ∧ v ≤ hi))) (fun _ _ => True) (fun q : Nat => sz ≤ q)) 0 0 (fun q : Nat => sz ≤ q) := by
  refine Met.ofW (cc := cX11_in) (maxL := 6) (ret := (some .boolean)) (by decide) rfl ?_
  intro p e s m args below meth c s₁ B hml hv
  obtain ⟨rfl, hsz, hP, hKA, hD0⟩ := hv
  have hx := B.exec
  have hb := B.bytes
  have hr := B.returns
  have hts := atoms_spec (ws := wsX11_in) B.pre
  have hown : s.vm.findClass RX11 = some m.cls := findClass_of_methodNamed B.named
  have hlocks := B.notSynchronized
  subst hsz
  have hK := hKA.1
  have hD := hD0
  generalize hAe : (fun q : Nat => s.heap.size ≤ q) = A
  have hA : ∀ q : Nat, s.heap.size ≤ q → A q := fun q h => by rw [← hAe]; exact h
  have hS : va_S A s.heap s.heap [] := va_S.rf
  have hP : va_P D vwCl [] s.heap := hP
  have hl := lv_entry ([.long v, .long lo, .long hi]) (n := 6) (Nat.le_of_ble_eq_true rfl)
  rw [lg_entry_eq]
  generalize (lg_sl ([.long v, .long lo, .long hi]) ++ List.replicate (6 - (lg_sl ([.long v, .long lo, .long hi])).length) Slot.unset).toArray = ls at hl ⊢
  have hl : lv_has ls 6 [(0, .long v), (2, .long lo), (4, .long hi)] := hl
  refine lv_lload_n hx hb dX11_in_0 rfl (lv_at hl 0 rfl) ?_
  refine lv_lload_n hx hb dX11_in_1 rfl (lv_at hl 1 rfl) ?_
  refine W.lcmp hx hb dX11_in_2 ?_
  refine lv_if_lt (tgt := 17) hx hb dX11_in_3 (by decide) (fun c1 => ?_) (fun c1 => ?_)
  · skip
    refine lv_iconst (v := 0) hx hb dX11_in_17 (by decide) ?_
    exact W.zret (v := 0) hx hb hr rfl (fun t ht hW => ⟨⟨0, (), rfl, (by first | exact Or.inl ⟨rfl, Int64.not_lt.mp (fun q => absurd ((lg_cmp_lt _ _).mpr q) (by assumption)), Int64.not_lt.mp (fun q => absurd ((lg_cmp_gt _ _).mpr q) (by assumption))⟩ | exact Or.inr ⟨rfl, fun q => absurd ((lg_cmp_lt _ _).mp (by assumption)) (Int64.not_lt.mpr q.1)⟩ | exact Or.inr ⟨rfl, fun q => absurd ((lg_cmp_gt _ _).mp (by assumption)) (Int64.not_lt.mpr q.2)⟩), trivial⟩, hS.F ht⟩) hS.2.2 dX11_in_18
  · skip
    refine lv_lload_n hx hb dX11_in_6 rfl (lv_at hl 0 rfl) ?_
    refine lv_lload hx hb dX11_in_7 (lv_at hl 2 rfl) ?_
    refine W.lcmp hx hb dX11_in_9 ?_
    refine lv_if_gt (tgt := 17) hx hb dX11_in_10 (by decide) (fun c2 => ?_) (fun c2 => ?_)
    · skip
      refine lv_iconst (v := 0) hx hb dX11_in_17 (by decide) ?_
      exact W.zret (v := 0) hx hb hr rfl (fun t ht hW => ⟨⟨0, (), rfl, (by first | exact Or.inl ⟨rfl, Int64.not_lt.mp (fun q => absurd ((lg_cmp_lt _ _).mpr q) (by assumption)), Int64.not_lt.mp (fun q => absurd ((lg_cmp_gt _ _).mpr q) (by assumption))⟩ | exact Or.inr ⟨rfl, fun q => absurd ((lg_cmp_lt _ _).mp (by assumption)) (Int64.not_lt.mpr q.1)⟩ | exact Or.inr ⟨rfl, fun q => absurd ((lg_cmp_gt _ _).mp (by assumption)) (Int64.not_lt.mpr q.2)⟩), trivial⟩, hS.F ht⟩) hS.2.2 dX11_in_18
    · skip
      refine lv_iconst (v := 1) hx hb dX11_in_13 (by decide) ?_
      refine lv_goto (tgt := 18) hx hb dX11_in_14 (by decide) ?_
      exact W.zret (v := 1) hx hb hr rfl (fun t ht hW => ⟨⟨1, (), rfl, (by first | exact Or.inl ⟨rfl, Int64.not_lt.mp (fun q => absurd ((lg_cmp_lt _ _).mpr q) (by assumption)), Int64.not_lt.mp (fun q => absurd ((lg_cmp_gt _ _).mpr q) (by assumption))⟩ | exact Or.inr ⟨rfl, fun q => absurd ((lg_cmp_lt _ _).mp (by assumption)) (Int64.not_lt.mpr q.1)⟩ | exact Or.inr ⟨rfl, fun q => absurd ((lg_cmp_gt _ _).mp (by assumption)) (Int64.not_lt.mpr q.2)⟩), trivial⟩, hS.F ht⟩) hS.2.2 dX11_in_18

set_option maxHeartbeats 4000000 in
set_option maxRecDepth 100000 in
theorem c_X11_begin (l : Launch) (D : va_G) (cy : Nat → ClassId) (tt : Nat) (f : Nat → Int32) (w h : Int32) (sz : Nat)  : Met l yX11_begin wsX11_begin ({ frames := 0, cells := 0, slots := 0, locals := 0 }) (va_Pc [.ref tt, .int w, .int h] (kPre D cy [(tt, .inl (cy 1, 122, .inl f))] sz)) (va_Qv (fun (u : Nat → Int32) => u 0 = w ∧ u 1 = h ∧ u 2 = 1 ∧ ∀ k, 3 ≤ k → k < 122 → u k = 0) (fun (u : Nat → Int32) t => va_P D vwCl ([(tt, .inl (cy 1, 122, .inl u))]) t.heap ∧ va_D (va_A [(tt, .inl (cy 1, 122, .inl f))] sz) ([(tt, .inl (cy 1, 122, .inl u))])) (va_A [(tt, .inl (cy 1, 122, .inl f))] sz)) 0 0 (va_A [(tt, .inl (cy 1, 122, .inl f))] sz) := by
  refine Met.ofW (cc := cX11_begin) (maxL := 4) (ret := none) (by decide) rfl ?_
  intro p e s m args below meth c s₁ B hml hv
  obtain ⟨rfl, hsz, hP, hKA, hD0⟩ := hv
  have hx := B.exec
  have hb := B.bytes
  have hr := B.returns
  have hts := atoms_spec (ws := wsX11_begin) B.pre
  have hown : s.vm.findClass RX11 = some m.cls := findClass_of_methodNamed B.named
  have hlocks := B.notSynchronized
  subst hsz
  have hK := hKA.1
  have hD := hD0.self (sz := s.heap.size)
  generalize hAe : va_A [(tt, .inl (cy 1, 122, .inl f))] s.heap.size = A at hD ⊢
  have hA : ∀ q : Nat, s.heap.size ≤ q → A q := fun q h => by rw [← hAe]; exact Or.inr h
  have hS : va_S A s.heap s.heap [] := va_S.rf
  have hP : va_P D vwCl [(tt, .inl (cy 1, 122, .inl f))] s.heap := hP
  have hl := lv_entry ([.ref tt, .int w, .int h]) (n := 4) (Nat.le_of_ble_eq_true rfl)
  rw [lg_entry_eq]
  generalize (lg_sl ([.ref tt, .int w, .int h]) ++ List.replicate (4 - (lg_sl ([.ref tt, .int w, .int h])).length) Slot.unset).toArray = ls at hl ⊢
  have hl : lv_has ls 4 [(0, .ref tt), (1, .int w), (2, .int h)] := hl
  refine lv_iconst (v := 0) hx hb dX11_begin_0 (by decide) ?_
  refine lv_istore_n (lv' := [(3, .int 0), (0, .ref tt), (1, .int w), (2, .int h)]) hx hb dX11_begin_1 rfl hl (by decide) rfl (fun ls hl => ?_)
  have lp2 : ∀ (n2 : Nat) (k : Nat) (f : Nat → Int32), k ≤ 122 → (∀ j, j < k → f j = 0) → 122 - k < n2 → ∀ (H : Heap) (locs : List Loc), va_P D vwCl [(tt, .inl (cy 1, 122, .inl f))] H → va_D A [(tt, .inl (cy 1, 122, .inl f))] → va_S A s.heap H locs → ∀ ls : Array Slot, lv_has ls 4 [(0, .ref tt), (1, .int w), (2, .int h), (3, .int (nI k))] → W p l e (headSpec wsX11_begin ({ frames := 0, cells := 0, slots := 0, locals := 0 })).room s m [.ref tt, .int w, .int h].toArray below meth c H locs 0 0 (MQ below (va_Qv (fun (u : Nat → Int32) => u 0 = w ∧ u 1 = h ∧ u 2 = 1 ∧ ∀ k, 3 ≤ k → k < 122 → u k = 0) (fun (u : Nat → Int32) t => va_P D vwCl ([(tt, .inl (cy 1, 122, .inl u))]) t.heap ∧ va_D A ([(tt, .inl (cy 1, 122, .inl u))])) A) [.ref tt, .int w, .int h].toArray s 0 0 A) (F0 m 2 ls []) := by
    intro n2
    induction n2 with
    | zero => intro k f hk hzz hm; exact absurd hm (Nat.not_lt_zero _)
    | succ n2 ih2 =>
      intro k f hk hzz hm2 H locs hP hD hS ls hl
      refine lv_iload_n hx hb dX11_begin_2 rfl (lv_at hl 3 rfl) ?_
      refine lv_bipush (v := 122) hx hb dX11_begin_3 (by decide) ?_
      refine lv_icmp_ge (tgt := 18) hx hb dX11_begin_5 (by decide) (fun c1 => ?_) (fun c1 => ?_)
      · skip
        refine lv_aload_n hx hb dX11_begin_18 rfl (lv_at hl 0 rfl) ?_
        refine lv_iconst (v := 0) hx hb dX11_begin_19 (by decide) ?_
        refine lv_iload_n hx hb dX11_begin_20 rfl (lv_at hl 1 rfl) ?_
        refine my_iast hx hb hK hP hD hS 0 1 rfl rfl (by rw [vp_in_iff]; decide +kernel) (k := 0) (by decide +kernel) dX11_begin_21 (fun H locs hP hD hS => ?_)
        have hP : va_P D vwCl [(tt, .inl (cy 1, 122, .inl (upd f 0 w)))] H := hP
        have hD : va_D A [(tt, .inl (cy 1, 122, .inl (upd f 0 w)))] := hD
        refine lv_aload_n hx hb dX11_begin_22 rfl (lv_at hl 0 rfl) ?_
        refine lv_iconst (v := 1) hx hb dX11_begin_23 (by decide) ?_
        refine lv_iload_n hx hb dX11_begin_24 rfl (lv_at hl 2 rfl) ?_
        refine my_iast hx hb hK hP hD hS 0 1 rfl rfl (by rw [vp_in_iff]; decide +kernel) (k := 1) (by decide +kernel) dX11_begin_25 (fun H locs hP hD hS => ?_)
        have hP : va_P D vwCl [(tt, .inl (cy 1, 122, .inl (upd (upd f 0 w) 1 h)))] H := hP
        have hD : va_D A [(tt, .inl (cy 1, 122, .inl (upd (upd f 0 w) 1 h)))] := hD
        refine lv_aload_n hx hb dX11_begin_26 rfl (lv_at hl 0 rfl) ?_
        refine lv_iconst (v := 2) hx hb dX11_begin_27 (by decide) ?_
        refine lv_iconst (v := 1) hx hb dX11_begin_28 (by decide) ?_
        refine my_iast hx hb hK hP hD hS 0 1 rfl rfl (by rw [vp_in_iff]; decide +kernel) (k := 2) (by decide +kernel) dX11_begin_29 (fun H locs hP hD hS => ?_)
        have hP : va_P D vwCl [(tt, .inl (cy 1, 122, .inl (upd (upd (upd f 0 w) 1 h) 2 1)))] H := hP
        have hD : va_D A [(tt, .inl (cy 1, 122, .inl (upd (upd (upd f 0 w) 1 h) 2 1)))] := hD
        have hP9 := hP.sub (ws' := [(tt, .inl (cy 1, 122, .inl (upd (upd (upd f 0 w) 1 h) 2 1)))]) [0] rfl
        have hD9 := hD.sub (ws' := [(tt, .inl (cy 1, 122, .inl (upd (upd (upd f 0 w) 1 h) 2 1)))]) [0] (by decide) rfl
        exact W.vret hx hb hr (fun t ht hW => ⟨⟨(upd (upd (upd f 0 w) 1 h) 2 1), rfl, ⟨rfl, rfl, rfl, (fun j h3 hj => by have q := nge_of (n := 122) rfl hk (by decide) (by assumption); show upd _ _ _ j = 0; rw [u_ne _ _ (by omega), u_ne _ _ (by omega), u_ne _ _ (by omega)]; exact hzz j (by omega))⟩, by rw [ht]; exact hP9, hD9⟩, hS.F ht⟩) hS.2.2 dX11_begin_30
      · skip
        refine lv_aload_n hx hb dX11_begin_8 rfl (lv_at hl 0 rfl) ?_
        refine lv_iload_n hx hb dX11_begin_9 rfl (lv_at hl 3 rfl) ?_
        refine lv_iconst (v := 0) hx hb dX11_begin_10 (by decide) ?_
        refine my_iast hx hb hK hP hD hS 0 1 rfl rfl (vp_in_nI (nlt_of (n := 122) rfl hk (by decide) (by assumption)) (by decide)) (nI_clamp (by omega)) dX11_begin_11 (fun H locs hP hD hS => ?_)
        have hP : va_P D vwCl [(tt, .inl (cy 1, 122, .inl (upd f k 0)))] H := hP
        have hD : va_D A [(tt, .inl (cy 1, 122, .inl (upd f k 0)))] := hD
        refine lv_iinc (v := nI (k + 1)) (lv' := [(3, .int (nI (k + 1))), (0, .ref tt), (1, .int w), (2, .int h)]) hx hb dX11_begin_12 hl (k := 3) rfl (nI_1 _) (by decide) rfl (fun ls hl => ?_)
        refine lv_goto (tgt := 2) hx hb dX11_begin_15 (by decide) ?_
        exact ih2 (k + 1) (upd f k 0) (nlt_of (n := 122) rfl hk (by decide) (by assumption)) (fun j hj => if q : j = k then (by subst q; exact u_eq _ _ _) else (by rw [u_ne _ _ q]; exact hzz j (by omega))) (by have := nlt_of (n := 122) rfl hk (by decide) (by assumption); omega) _ _ (hP.sub (ws' := [(tt, .inl (cy 1, 122, .inl (upd f k 0)))]) [0] rfl) (hD.sub (ws' := [(tt, .inl (cy 1, 122, .inl (upd f k 0)))]) [0] (by decide) rfl) hS ls (lv_sub hl [1, 2, 3, 0] rfl)
  exact lp2 (122 - 0 + 1) 0 f (by omega) (fun j hj => absurd hj (Nat.not_lt_zero j)) (Nat.lt_succ_self _) _ _ (hP.sub (ws' := [(tt, .inl (cy 1, 122, .inl f))]) [0] rfl) (hD.sub (ws' := [(tt, .inl (cy 1, 122, .inl f))]) [0] (by decide) rfl) hS ls (lv_sub hl [1, 2, 3, 0] rfl)

set_option maxHeartbeats 4000000 in
set_option maxRecDepth 100000 in
theorem c_X11_squares (l : Launch) (D : va_G) (cy : Nat → ClassId) (mm nw kp ik rf sd fr qu me by_ nx : Nat) (F : Nat → Int32) (sz : Nat)  : Met l yX11_squares wsX11_squares ({ frames := 0, cells := 0, slots := 0, locals := 0 }) (va_Pc [.ref mm] (kPre D cy [(mm, .inr (11, [.ref nw, .ref kp, .ref ik, .ref rf, .int 0, .int 0, .ref sd, .ref fr, .ref qu, .int 0, .ref me, .ref by_, .int 0, .int 0, .int 0, .int 0, .int 0, .ref nx, .int 0])), (nw, .inl (cy 1, 122, .inl F))] sz)) (va_Qi (fun (r : Int32) (_ : Unit) => r = F 0 * F 1) (fun _ _ => True) (fun q : Nat => sz ≤ q)) 0 0 (fun q : Nat => sz ≤ q) := by
  refine Met.ofW (cc := cX11_squares) (maxL := 1) (ret := (some .int)) (by decide) rfl ?_
  intro p e s m args below meth c s₁ B hml hv
  obtain ⟨rfl, hsz, hP, hKA, hD0⟩ := hv
  have hx := B.exec
  have hb := B.bytes
  have hr := B.returns
  have hts := atoms_spec (ws := wsX11_squares) B.pre
  have hown : s.vm.findClass RX11 = some m.cls := findClass_of_methodNamed B.named
  have hlocks := B.notSynchronized
  subst hsz
  have hK := hKA.1
  have hD := hD0
  generalize hAe : (fun q : Nat => s.heap.size ≤ q) = A
  have hA : ∀ q : Nat, s.heap.size ≤ q → A q := fun q h => by rw [← hAe]; exact h
  have hS : va_S A s.heap s.heap [] := va_S.rf
  have hP : va_P D vwCl [(mm, .inr (11, [.ref nw, .ref kp, .ref ik, .ref rf, .int 0, .int 0, .ref sd, .ref fr, .ref qu, .int 0, .ref me, .ref by_, .int 0, .int 0, .int 0, .int 0, .int 0, .ref nx, .int 0])), (nw, .inl (cy 1, 122, .inl F))] s.heap := hP
  have hl := lv_entry ([.ref mm]) (n := 1) (Nat.le_of_ble_eq_true rfl)
  rw [lg_entry_eq]
  generalize (lg_sl ([.ref mm]) ++ List.replicate (1 - (lg_sl ([.ref mm])).length) Slot.unset).toArray = ls at hl ⊢
  have hl : lv_has ls 1 [(0, .ref mm)] := hl
  have z0_ := hts (.fieldLink RX11 7 "HeardSeenModel" "now" "[I") (by decide +kernel)
  have zi11_ : ∀ w ∈ u_ws RX11 TX11 19, w ∈ wsX11_squares := by decide +kernel
  refine lv_aload_n hx hb dX11_squares_0 rfl (lv_at hl 0 rfl) ?_
  refine va_get (D := D) (ci := 11) (v := .ref nw) (C := RX11) (T := TX11) (N := 19) hx hb hts zi11_ hown hK hP 0 rfl rfl 0 (by decide) z0_ (fun _ h9 => h9) rfl dX11_squares_1 ?_
  refine lv_iconst (v := 0) hx hb dX11_squares_4 (by decide) ?_
  refine my_iald hx hb hK hP 1 1 rfl rfl (by rw [vp_in_iff]; decide +kernel) (k := 0) (by decide +kernel) dX11_squares_5 ?_
  refine lv_aload_n hx hb dX11_squares_6 rfl (lv_at hl 0 rfl) ?_
  refine va_get (D := D) (ci := 11) (v := .ref nw) (C := RX11) (T := TX11) (N := 19) hx hb hts zi11_ hown hK hP 0 rfl rfl 0 (by decide) z0_ (fun _ h9 => h9) rfl dX11_squares_7 ?_
  refine lv_iconst (v := 1) hx hb dX11_squares_10 (by decide) ?_
  refine my_iald hx hb hK hP 1 1 rfl rfl (by rw [vp_in_iff]; decide +kernel) (k := 1) (by decide +kernel) dX11_squares_11 ?_
  refine lv_imul hx hb dX11_squares_12 ?_
  exact W.iret (v := (F 0) * (F 1)) hx hb hr (fun t ht hW => ⟨⟨(F 0) * (F 1), (), rfl, rfl, trivial⟩, hS.F ht⟩) hS.2.2 dX11_squares_13

set_option maxHeartbeats 4000000 in
set_option maxRecDepth 100000 in
theorem c_X11_people (l : Launch) (D : va_G) (cy : Nat → ClassId) (mm nw kp ik rf sd fr qu me by_ nx : Nat) (F : Nat → Int32) (sz : Nat)  : Met l yX11_people wsX11_people ({ frames := 0, cells := 0, slots := 0, locals := 0 }) (va_Pc [.ref mm] (kPre D cy [(mm, .inr (11, [.ref nw, .ref kp, .ref ik, .ref rf, .int 0, .int 0, .ref sd, .ref fr, .ref qu, .int 0, .ref me, .ref by_, .int 0, .int 0, .int 0, .int 0, .int 0, .ref nx, .int 0])), (nw, .inl (cy 1, 122, .inl F))] sz)) (va_Qi (fun (r : Int32) (_ : Unit) => r = F 4) (fun _ _ => True) (fun q : Nat => sz ≤ q)) 0 0 (fun q : Nat => sz ≤ q) := by
  refine Met.ofW (cc := cX11_people) (maxL := 1) (ret := (some .int)) (by decide) rfl ?_
  intro p e s m args below meth c s₁ B hml hv
  obtain ⟨rfl, hsz, hP, hKA, hD0⟩ := hv
  have hx := B.exec
  have hb := B.bytes
  have hr := B.returns
  have hts := atoms_spec (ws := wsX11_people) B.pre
  have hown : s.vm.findClass RX11 = some m.cls := findClass_of_methodNamed B.named
  have hlocks := B.notSynchronized
  subst hsz
  have hK := hKA.1
  have hD := hD0
  generalize hAe : (fun q : Nat => s.heap.size ≤ q) = A
  have hA : ∀ q : Nat, s.heap.size ≤ q → A q := fun q h => by rw [← hAe]; exact h
  have hS : va_S A s.heap s.heap [] := va_S.rf
  have hP : va_P D vwCl [(mm, .inr (11, [.ref nw, .ref kp, .ref ik, .ref rf, .int 0, .int 0, .ref sd, .ref fr, .ref qu, .int 0, .ref me, .ref by_, .int 0, .int 0, .int 0, .int 0, .int 0, .ref nx, .int 0])), (nw, .inl (cy 1, 122, .inl F))] s.heap := hP
  have hl := lv_entry ([.ref mm]) (n := 1) (Nat.le_of_ble_eq_true rfl)
  rw [lg_entry_eq]
  generalize (lg_sl ([.ref mm]) ++ List.replicate (1 - (lg_sl ([.ref mm])).length) Slot.unset).toArray = ls at hl ⊢
  have hl : lv_has ls 1 [(0, .ref mm)] := hl
  have z0_ := hts (.fieldLink RX11 7 "HeardSeenModel" "now" "[I") (by decide +kernel)
  have zi11_ : ∀ w ∈ u_ws RX11 TX11 19, w ∈ wsX11_people := by decide +kernel
  refine lv_aload_n hx hb dX11_people_0 rfl (lv_at hl 0 rfl) ?_
  refine va_get (D := D) (ci := 11) (v := .ref nw) (C := RX11) (T := TX11) (N := 19) hx hb hts zi11_ hown hK hP 0 rfl rfl 0 (by decide) z0_ (fun _ h9 => h9) rfl dX11_people_1 ?_
  refine lv_iconst (v := 4) hx hb dX11_people_4 (by decide) ?_
  refine my_iald hx hb hK hP 1 1 rfl rfl (by rw [vp_in_iff]; decide +kernel) (k := 4) (by decide +kernel) dX11_people_5 ?_
  exact W.iret (v := F 4) hx hb hr (fun t ht hW => ⟨⟨F 4, (), rfl, rfl, trivial⟩, hS.F ht⟩) hS.2.2 dX11_people_6

set_option maxHeartbeats 4000000 in
set_option maxRecDepth 100000 in
theorem m_isSquare (l : Launch) (D : va_G) (cy : Nat → ClassId) (mm nw kp ik rf sd fr qu me by_ nx : Nat) (F : Nat → Int32) (x : Int32) (sz : Nat) (h0 : F 0 = 6) (h1 : F 1 = 6) (h2 : F 2 = 1) (hz : ∀ k, 3 ≤ k → k < 122 → F k = 0) : Met l yX11_isSquare wsX11_isSquare ({ frames := 1, cells := 0, slots := 0, locals := 25 }) (va_Pc [.ref mm, .int x] (kPre D cy [(mm, .inr (11, [.ref nw, .ref kp, .ref ik, .ref rf, .int 0, .int 0, .ref sd, .ref fr, .ref qu, .int 0, .ref me, .ref by_, .int 0, .int 0, .int 0, .int 0, .int 0, .ref nx, .int 0])), (nw, .inl (cy 1, 122, .inl F))] sz)) (va_Qi (fun (r : Int32) (_ : Unit) => (r = 1 ∧ 0 ≤ x ∧ x < 36) ∨ (r = 0 ∧ ¬ (0 ≤ x ∧ x < 36))) (fun _ _ => True) (fun q : Nat => sz ≤ q)) 0 0 (fun q : Nat => sz ≤ q) := by
  refine Met.ofW (cc := cX11_isSquare) (maxL := 2) (ret := (some .boolean)) (by decide) rfl ?_
  intro p e s m args below meth c s₁ B hml hv
  obtain ⟨rfl, hsz, hP, hKA, hD0⟩ := hv
  have hx := B.exec
  have hb := B.bytes
  have hr := B.returns
  have hts := atoms_spec (ws := wsX11_isSquare) B.pre
  have hown : s.vm.findClass RX11 = some m.cls := findClass_of_methodNamed B.named
  have hlocks := B.notSynchronized
  subst hsz
  have hK := hKA.1
  have hD := hD0
  generalize hAe : (fun q : Nat => s.heap.size ≤ q) = A
  have hA : ∀ q : Nat, s.heap.size ≤ q → A q := fun q h => by rw [← hAe]; exact h
  have hS : va_S A s.heap s.heap [] := va_S.rf
  have hP : va_P D vwCl [(mm, .inr (11, [.ref nw, .ref kp, .ref ik, .ref rf, .int 0, .int 0, .ref sd, .ref fr, .ref qu, .int 0, .ref me, .ref by_, .int 0, .int 0, .int 0, .int 0, .int 0, .ref nx, .int 0])), (nw, .inl (cy 1, 122, .inl F))] s.heap := hP
  have hl := lv_entry ([.ref mm, .int x]) (n := 2) (Nat.le_of_ble_eq_true rfl)
  rw [lg_entry_eq]
  generalize (lg_sl ([.ref mm, .int x]) ++ List.replicate (2 - (lg_sl ([.ref mm, .int x])).length) Slot.unset).toArray = ls at hl ⊢
  have hl : lv_has ls 2 [(0, .ref mm), (1, .int x)] := hl
  refine lv_iload_n hx hb dX11_isSquare_0 rfl (lv_at hl 1 rfl) ?_
  refine lv_i2l hx hb dX11_isSquare_1 rfl ?_
  refine lv_lconst (v := 0) hx hb dX11_isSquare_2 (by decide) ?_
  refine lv_aload_n hx hb dX11_isSquare_3 rfl (lv_at hl 0 rfl) ?_
  refine rd_i (va_runV (As := []) (rest := [.long 0, .long x.toInt64]) ⟨hx, hb, hml, hown, hts⟩ (c_X11_squares l D cy mm nw kp ik rf sd fr qu me by_ nx F _) (cwV 0 hts gX11_isSquare_X11_squares rfl rfl rfl (by decide +kernel) ⟨Nat.le_of_ble_eq_true rfl, Nat.le_of_ble_eq_true rfl⟩) (pV (ci := 11) (k := 0) hKA (hP.sub (ws' := [(mm, .inr (11, [.ref nw, .ref kp, .ref ik, .ref rf, .int 0, .int 0, .ref sd, .ref fr, .ref qu, .int 0, .ref me, .ref by_, .int 0, .int 0, .int 0, .int 0, .int 0, .ref nx, .int 0])), (nw, .inl (cy 1, 122, .inl F))]) [0, 1] rfl) (hD.sub (ws' := [(mm, .inr (11, [.ref nw, .ref kp, .ref ik, .ref rf, .int 0, .int 0, .ref sd, .ref fr, .ref qu, .int 0, .ref me, .ref by_, .int 0, .int 0, .int 0, .int 0, .int 0, .ref nx, .int 0])), (nw, .inl (cy 1, 122, .inl F))]) [0, 1] (by decide) rfl) rfl rfl) rfl rfl hl.1 rfl (lv_room (Nat.le_of_ble_eq_true rfl)) dX11_isSquare_4 ⟨Nat.le_of_ble_eq_true rfl, Nat.le_of_ble_eq_true rfl⟩) hP hS hA (fun r1 H locs hwr1 hP hS => ?_)
  obtain rfl : r1 = 36 := by rw [hwr1]; rw [h0, h1]; decide
  refine lv_iconst (v := 1) hx hb dX11_isSquare_7 (by decide) ?_
  refine lv_isub hx hb dX11_isSquare_8 ?_
  refine lv_topi (fun x2 ex2 => ?_)
  obtain rfl : x2 = 35 := by rw [ex2]; decide +kernel
  refine lv_i2l hx hb dX11_isSquare_9 rfl ?_
  refine lv_topl (fun x3 ex3 => ?_)
  obtain rfl : x3 = 35 := by rw [ex3]; decide +kernel
  refine rd_i (va_runS (As := [.long x.toInt64, .long 0, .long 35]) (rest := []) ⟨hx, hb, hml, hown, hts⟩ (c_X11_in l D cy x.toInt64 0 35 _) (va_cwS 3 hts gX11_isSquare_X11_in rfl rfl rfl (by decide +kernel) ⟨Nat.le_of_ble_eq_true rfl, Nat.le_of_ble_eq_true rfl⟩) (pS hKA pE (dE (A := A))) rfl rfl hl.1 rfl (lv_room (Nat.le_of_ble_eq_true rfl)) dX11_isSquare_10 ⟨Nat.le_of_ble_eq_true rfl, Nat.le_of_ble_eq_true rfl⟩) hP hS hA (fun r4 H locs hwr4 hP hS => ?_)
  rcases hwr4 with ⟨rfl, har4, hbr4⟩ | ⟨rfl, hnr4⟩
  · skip
    have har4 : 0 ≤ x := (z_w 0 (by decide)).1.mp har4
    have hbr4 : x ≤ 35 := (z_w 35 (by decide)).2.mp hbr4
    exact W.zret (v := 1) hx hb hr rfl (fun t ht hW => ⟨⟨1, (), rfl, (by first | exact Or.inl ⟨rfl, by assumption, (z_35 _).mp (by assumption)⟩ | exact Or.inr ⟨rfl, fun q => absurd ⟨q.1, (z_35 _).mpr q.2⟩ (by assumption : ¬ (0 ≤ x ∧ x ≤ 35))⟩), trivial⟩, hS.F ht⟩) hS.2.2 dX11_isSquare_13
  · skip
    have hnr4 : ¬ (0 ≤ x ∧ x ≤ 35) := fun q => hnr4 ⟨(z_w 0 (by decide)).1.mpr q.1, (z_w 35 (by decide)).2.mpr q.2⟩
    exact W.zret (v := 0) hx hb hr rfl (fun t ht hW => ⟨⟨0, (), rfl, (by first | exact Or.inl ⟨rfl, by assumption, (z_35 _).mp (by assumption)⟩ | exact Or.inr ⟨rfl, fun q => absurd ⟨q.1, (z_35 _).mpr q.2⟩ (by assumption : ¬ (0 ≤ x ∧ x ≤ 35))⟩), trivial⟩, hS.F ht⟩) hS.2.2 dX11_isSquare_13

set_option maxHeartbeats 4000000 in
set_option maxRecDepth 100000 in
theorem m_isOne (l : Launch) (D : va_G) (cy : Nat → ClassId) (mm nw kp ik rf sd fr qu me by_ nx : Nat) (F : Nat → Int32) (x : Int32) (sz : Nat) (h0 : F 0 = 6) (h1 : F 1 = 6) (h2 : F 2 = 1) (hz : ∀ k, 3 ≤ k → k < 122 → F k = 0) : Met l yX11_isOne wsX11_isOne ({ frames := 1, cells := 0, slots := 0, locals := 25 }) (va_Pc [.ref mm, .int x] (kPre D cy [(mm, .inr (11, [.ref nw, .ref kp, .ref ik, .ref rf, .int 0, .int 0, .ref sd, .ref fr, .ref qu, .int 0, .ref me, .ref by_, .int 0, .int 0, .int 0, .int 0, .int 0, .ref nx, .int 0])), (nw, .inl (cy 1, 122, .inl F))] sz)) (va_Qi (fun (r : Int32) (_ : Unit) => r = 0) (fun _ _ => True) (fun q : Nat => sz ≤ q)) 0 0 (fun q : Nat => sz ≤ q) := by
  refine Met.ofW (cc := cX11_isOne) (maxL := 2) (ret := (some .boolean)) (by decide) rfl ?_
  intro p e s m args below meth c s₁ B hml hv
  obtain ⟨rfl, hsz, hP, hKA, hD0⟩ := hv
  have hx := B.exec
  have hb := B.bytes
  have hr := B.returns
  have hts := atoms_spec (ws := wsX11_isOne) B.pre
  have hown : s.vm.findClass RX11 = some m.cls := findClass_of_methodNamed B.named
  have hlocks := B.notSynchronized
  subst hsz
  have hK := hKA.1
  have hD := hD0
  generalize hAe : (fun q : Nat => s.heap.size ≤ q) = A
  have hA : ∀ q : Nat, s.heap.size ≤ q → A q := fun q h => by rw [← hAe]; exact h
  have hS : va_S A s.heap s.heap [] := va_S.rf
  have hP : va_P D vwCl [(mm, .inr (11, [.ref nw, .ref kp, .ref ik, .ref rf, .int 0, .int 0, .ref sd, .ref fr, .ref qu, .int 0, .ref me, .ref by_, .int 0, .int 0, .int 0, .int 0, .int 0, .ref nx, .int 0])), (nw, .inl (cy 1, 122, .inl F))] s.heap := hP
  have hl := lv_entry ([.ref mm, .int x]) (n := 2) (Nat.le_of_ble_eq_true rfl)
  rw [lg_entry_eq]
  generalize (lg_sl ([.ref mm, .int x]) ++ List.replicate (2 - (lg_sl ([.ref mm, .int x])).length) Slot.unset).toArray = ls at hl ⊢
  have hl : lv_has ls 2 [(0, .ref mm), (1, .int x)] := hl
  refine lv_iload_n hx hb dX11_isOne_0 rfl (lv_at hl 1 rfl) ?_
  refine lv_i2l hx hb dX11_isOne_1 rfl ?_
  refine lv_lconst (v := 0) hx hb dX11_isOne_2 (by decide) ?_
  refine lv_aload_n hx hb dX11_isOne_3 rfl (lv_at hl 0 rfl) ?_
  refine rd_i (va_runV (As := []) (rest := [.long 0, .long x.toInt64]) ⟨hx, hb, hml, hown, hts⟩ (c_X11_people l D cy mm nw kp ik rf sd fr qu me by_ nx F _) (cwV 0 hts gX11_isOne_X11_people rfl rfl rfl (by decide +kernel) ⟨Nat.le_of_ble_eq_true rfl, Nat.le_of_ble_eq_true rfl⟩) (pV (ci := 11) (k := 0) hKA (hP.sub (ws' := [(mm, .inr (11, [.ref nw, .ref kp, .ref ik, .ref rf, .int 0, .int 0, .ref sd, .ref fr, .ref qu, .int 0, .ref me, .ref by_, .int 0, .int 0, .int 0, .int 0, .int 0, .ref nx, .int 0])), (nw, .inl (cy 1, 122, .inl F))]) [0, 1] rfl) (hD.sub (ws' := [(mm, .inr (11, [.ref nw, .ref kp, .ref ik, .ref rf, .int 0, .int 0, .ref sd, .ref fr, .ref qu, .int 0, .ref me, .ref by_, .int 0, .int 0, .int 0, .int 0, .int 0, .ref nx, .int 0])), (nw, .inl (cy 1, 122, .inl F))]) [0, 1] (by decide) rfl) rfl rfl) rfl rfl hl.1 rfl (lv_room (Nat.le_of_ble_eq_true rfl)) dX11_isOne_4 ⟨Nat.le_of_ble_eq_true rfl, Nat.le_of_ble_eq_true rfl⟩) hP hS hA (fun r1 H locs hwr1 hP hS => ?_)
  obtain rfl : r1 = 0 := by rw [hwr1]; exact hz 4 (by decide) (by decide)
  refine lv_iconst (v := 1) hx hb dX11_isOne_7 (by decide) ?_
  refine lv_isub hx hb dX11_isOne_8 ?_
  refine lv_topi (fun x2 ex2 => ?_)
  obtain rfl : x2 = (-1) := by rw [ex2]; decide +kernel
  refine lv_i2l hx hb dX11_isOne_9 rfl ?_
  refine lv_topl (fun x3 ex3 => ?_)
  obtain rfl : x3 = (-1) := by rw [ex3]; decide +kernel
  refine rd_i (va_runS (As := [.long x.toInt64, .long 0, .long (-1)]) (rest := []) ⟨hx, hb, hml, hown, hts⟩ (c_X11_in l D cy x.toInt64 0 (-1) _) (va_cwS 3 hts gX11_isOne_X11_in rfl rfl rfl (by decide +kernel) ⟨Nat.le_of_ble_eq_true rfl, Nat.le_of_ble_eq_true rfl⟩) (pS hKA pE (dE (A := A))) rfl rfl hl.1 rfl (lv_room (Nat.le_of_ble_eq_true rfl)) dX11_isOne_10 ⟨Nat.le_of_ble_eq_true rfl, Nat.le_of_ble_eq_true rfl⟩) hP hS hA (fun r4 H locs hwr4 hP hS => ?_)
  rcases hwr4 with ⟨rfl, har4, hbr4⟩ | ⟨rfl, hnr4⟩
  · exact absurd (Int64.le_trans har4 hbr4) (by decide)
  · skip
    have hnr4 : ¬ (0 ≤ x ∧ x ≤ (-1)) := fun q => hnr4 ⟨(z_w 0 (by decide)).1.mpr q.1, (z_w (-1) (by decide)).2.mpr q.2⟩
    exact W.zret (v := 0) hx hb hr rfl (fun t ht hW => ⟨⟨0, (), rfl, rfl, trivial⟩, hS.F ht⟩) hS.2.2 dX11_isOne_13

set_option maxHeartbeats 4000000 in
set_option maxRecDepth 100000 in
theorem m_isSet (l : Launch) (D : va_G) (cy : Nat → ClassId) (mm nw kp ik rf sd fr qu me by_ nx : Nat) (F : Nat → Int32) (x : Int32) (sz : Nat) (h0 : F 0 = 6) (h1 : F 1 = 6) (h2 : F 2 = 1) (hz : ∀ k, 3 ≤ k → k < 122 → F k = 0) : Met l yX11_isSet wsX11_isSet ({ frames := 1, cells := 0, slots := 0, locals := 25 }) (va_Pc [.ref mm, .int x] (kPre D cy [(mm, .inr (11, [.ref nw, .ref kp, .ref ik, .ref rf, .int 0, .int 0, .ref sd, .ref fr, .ref qu, .int 0, .ref me, .ref by_, .int 0, .int 0, .int 0, .int 0, .int 0, .ref nx, .int 0])), (nw, .inl (cy 1, 122, .inl F))] sz)) (va_Qi (fun (r : Int32) (_ : Unit) => (r = 1 ∧ 0 ≤ x ∧ x ≤ 0) ∨ (r = 0 ∧ ¬ (0 ≤ x ∧ x ≤ 0))) (fun _ _ => True) (fun q : Nat => sz ≤ q)) 0 0 (fun q : Nat => sz ≤ q) := by
  refine Met.ofW (cc := cX11_isSet) (maxL := 2) (ret := (some .boolean)) (by decide) rfl ?_
  intro p e s m args below meth c s₁ B hml hv
  obtain ⟨rfl, hsz, hP, hKA, hD0⟩ := hv
  have hx := B.exec
  have hb := B.bytes
  have hr := B.returns
  have hts := atoms_spec (ws := wsX11_isSet) B.pre
  have hown : s.vm.findClass RX11 = some m.cls := findClass_of_methodNamed B.named
  have hlocks := B.notSynchronized
  subst hsz
  have hK := hKA.1
  have hD := hD0
  generalize hAe : (fun q : Nat => s.heap.size ≤ q) = A
  have hA : ∀ q : Nat, s.heap.size ≤ q → A q := fun q h => by rw [← hAe]; exact h
  have hS : va_S A s.heap s.heap [] := va_S.rf
  have hP : va_P D vwCl [(mm, .inr (11, [.ref nw, .ref kp, .ref ik, .ref rf, .int 0, .int 0, .ref sd, .ref fr, .ref qu, .int 0, .ref me, .ref by_, .int 0, .int 0, .int 0, .int 0, .int 0, .ref nx, .int 0])), (nw, .inl (cy 1, 122, .inl F))] s.heap := hP
  have hl := lv_entry ([.ref mm, .int x]) (n := 2) (Nat.le_of_ble_eq_true rfl)
  rw [lg_entry_eq]
  generalize (lg_sl ([.ref mm, .int x]) ++ List.replicate (2 - (lg_sl ([.ref mm, .int x])).length) Slot.unset).toArray = ls at hl ⊢
  have hl : lv_has ls 2 [(0, .ref mm), (1, .int x)] := hl
  refine lv_iload_n hx hb dX11_isSet_0 rfl (lv_at hl 1 rfl) ?_
  refine lv_i2l hx hb dX11_isSet_1 rfl ?_
  refine lv_lconst (v := 0) hx hb dX11_isSet_2 (by decide) ?_
  refine lv_iconst (v := 1) hx hb dX11_isSet_3 (by decide) ?_
  refine lv_aload_n hx hb dX11_isSet_4 rfl (lv_at hl 0 rfl) ?_
  refine rd_i (va_runV (As := []) (rest := [.int 1, .long 0, .long x.toInt64]) ⟨hx, hb, hml, hown, hts⟩ (c_X11_people l D cy mm nw kp ik rf sd fr qu me by_ nx F _) (cwV 0 hts gX11_isSet_X11_people rfl rfl rfl (by decide +kernel) ⟨Nat.le_of_ble_eq_true rfl, Nat.le_of_ble_eq_true rfl⟩) (pV (ci := 11) (k := 0) hKA (hP.sub (ws' := [(mm, .inr (11, [.ref nw, .ref kp, .ref ik, .ref rf, .int 0, .int 0, .ref sd, .ref fr, .ref qu, .int 0, .ref me, .ref by_, .int 0, .int 0, .int 0, .int 0, .int 0, .ref nx, .int 0])), (nw, .inl (cy 1, 122, .inl F))]) [0, 1] rfl) (hD.sub (ws' := [(mm, .inr (11, [.ref nw, .ref kp, .ref ik, .ref rf, .int 0, .int 0, .ref sd, .ref fr, .ref qu, .int 0, .ref me, .ref by_, .int 0, .int 0, .int 0, .int 0, .int 0, .ref nx, .int 0])), (nw, .inl (cy 1, 122, .inl F))]) [0, 1] (by decide) rfl) rfl rfl) rfl rfl hl.1 rfl (lv_room (Nat.le_of_ble_eq_true rfl)) dX11_isSet_5 ⟨Nat.le_of_ble_eq_true rfl, Nat.le_of_ble_eq_true rfl⟩) hP hS hA (fun r1 H locs hwr1 hP hS => ?_)
  obtain rfl : r1 = 0 := by rw [hwr1]; exact hz 4 (by decide) (by decide)
  refine lv_ishl hx hb dX11_isSet_8 ?_
  refine lv_topi (fun x2 ex2 => ?_)
  obtain rfl : x2 = 1 := by rw [ex2]; decide +kernel
  refine lv_iconst (v := 1) hx hb dX11_isSet_9 (by decide) ?_
  refine lv_isub hx hb dX11_isSet_10 ?_
  refine lv_topi (fun x3 ex3 => ?_)
  obtain rfl : x3 = 0 := by rw [ex3]; decide +kernel
  refine lv_i2l hx hb dX11_isSet_11 rfl ?_
  refine lv_topl (fun x4 ex4 => ?_)
  obtain rfl : x4 = 0 := by rw [ex4]; decide +kernel
  refine rd_i (va_runS (As := [.long x.toInt64, .long 0, .long 0]) (rest := []) ⟨hx, hb, hml, hown, hts⟩ (c_X11_in l D cy x.toInt64 0 0 _) (va_cwS 3 hts gX11_isSet_X11_in rfl rfl rfl (by decide +kernel) ⟨Nat.le_of_ble_eq_true rfl, Nat.le_of_ble_eq_true rfl⟩) (pS hKA pE (dE (A := A))) rfl rfl hl.1 rfl (lv_room (Nat.le_of_ble_eq_true rfl)) dX11_isSet_12 ⟨Nat.le_of_ble_eq_true rfl, Nat.le_of_ble_eq_true rfl⟩) hP hS hA (fun r5 H locs hwr5 hP hS => ?_)
  rcases hwr5 with ⟨rfl, har5, hbr5⟩ | ⟨rfl, hnr5⟩
  · skip
    have har5 : 0 ≤ x := (z_w 0 (by decide)).1.mp har5
    have hbr5 : x ≤ 0 := (z_w 0 (by decide)).2.mp hbr5
    exact W.zret (v := 1) hx hb hr rfl (fun t ht hW => ⟨⟨1, (), rfl, (by first | exact Or.inl ⟨rfl, by assumption, by assumption⟩ | exact Or.inr ⟨rfl, by assumption⟩), trivial⟩, hS.F ht⟩) hS.2.2 dX11_isSet_15
  · skip
    have hnr5 : ¬ (0 ≤ x ∧ x ≤ 0) := fun q => hnr5 ⟨(z_w 0 (by decide)).1.mpr q.1, (z_w 0 (by decide)).2.mpr q.2⟩
    exact W.zret (v := 0) hx hb hr rfl (fun t ht hW => ⟨⟨0, (), rfl, (by first | exact Or.inl ⟨rfl, by assumption, by assumption⟩ | exact Or.inr ⟨rfl, by assumption⟩), trivial⟩, hS.F ht⟩) hS.2.2 dX11_isSet_15

set_option maxHeartbeats 4000000 in
set_option maxRecDepth 100000 in
theorem m_bad (l : Launch) (D : va_G) (cy : Nat → ClassId) (mm nw kp ik rf sd fr qu me by_ nx : Nat) (fr_ : Nat → Int32) (x : Int32) (sz : Nat)  : Met l yX11_bad wsX11_bad ({ frames := 0, cells := 0, slots := 0, locals := 0 }) (va_Pc [.ref mm, .int x] (kPre D cy [(mm, .inr (11, [.ref nw, .ref kp, .ref ik, .ref rf, .int 0, .int 0, .ref sd, .ref fr, .ref qu, .int 0, .ref me, .ref by_, .int 0, .int 0, .int 0, .int 0, .int 0, .ref nx, .int 0])), (rf, .inl (cy 1, 3, .inl fr_))] sz)) (va_Qi (fun (r : Int32) (_ : Unit) => r = x) (fun (u : Unit) t => va_P D vwCl ([]) t.heap ∧ va_D (va_A [(mm, .inr (11, [.ref nw, .ref kp, .ref ik, .ref rf, .int 0, .int 0, .ref sd, .ref fr, .ref qu, .int 0, .ref me, .ref by_, .int 0, .int 0, .int 0, .int 0, .int 0, .ref nx, .int 0])), (rf, .inl (cy 1, 3, .inl fr_))] sz) ([])) (va_A [(mm, .inr (11, [.ref nw, .ref kp, .ref ik, .ref rf, .int 0, .int 0, .ref sd, .ref fr, .ref qu, .int 0, .ref me, .ref by_, .int 0, .int 0, .int 0, .int 0, .int 0, .ref nx, .int 0])), (rf, .inl (cy 1, 3, .inl fr_))] sz)) 0 0 (va_A [(mm, .inr (11, [.ref nw, .ref kp, .ref ik, .ref rf, .int 0, .int 0, .ref sd, .ref fr, .ref qu, .int 0, .ref me, .ref by_, .int 0, .int 0, .int 0, .int 0, .int 0, .ref nx, .int 0])), (rf, .inl (cy 1, 3, .inl fr_))] sz) := by
  refine Met.ofW (cc := cX11_bad) (maxL := 2) (ret := (some .int)) (by decide) rfl ?_
  intro p e s m args below meth c s₁ B hml hv
  obtain ⟨rfl, hsz, hP, hKA, hD0⟩ := hv
  have hx := B.exec
  have hb := B.bytes
  have hr := B.returns
  have hts := atoms_spec (ws := wsX11_bad) B.pre
  have hown : s.vm.findClass RX11 = some m.cls := findClass_of_methodNamed B.named
  have hlocks := B.notSynchronized
  subst hsz
  have hK := hKA.1
  have hD := hD0.self (sz := s.heap.size)
  generalize hAe : va_A [(mm, .inr (11, [.ref nw, .ref kp, .ref ik, .ref rf, .int 0, .int 0, .ref sd, .ref fr, .ref qu, .int 0, .ref me, .ref by_, .int 0, .int 0, .int 0, .int 0, .int 0, .ref nx, .int 0])), (rf, .inl (cy 1, 3, .inl fr_))] s.heap.size = A at hD ⊢
  have hA : ∀ q : Nat, s.heap.size ≤ q → A q := fun q h => by rw [← hAe]; exact Or.inr h
  have hS : va_S A s.heap s.heap [] := va_S.rf
  have hP : va_P D vwCl [(mm, .inr (11, [.ref nw, .ref kp, .ref ik, .ref rf, .int 0, .int 0, .ref sd, .ref fr, .ref qu, .int 0, .ref me, .ref by_, .int 0, .int 0, .int 0, .int 0, .int 0, .ref nx, .int 0])), (rf, .inl (cy 1, 3, .inl fr_))] s.heap := hP
  have hl := lv_entry ([.ref mm, .int x]) (n := 2) (Nat.le_of_ble_eq_true rfl)
  rw [lg_entry_eq]
  generalize (lg_sl ([.ref mm, .int x]) ++ List.replicate (2 - (lg_sl ([.ref mm, .int x])).length) Slot.unset).toArray = ls at hl ⊢
  have hl : lv_has ls 2 [(0, .ref mm), (1, .int x)] := hl
  have z0_ := hts (.fieldLink RX11 20 "HeardSeenModel" "refused" "[I") (by decide +kernel)
  have zi11_ : ∀ w ∈ u_ws RX11 TX11 19, w ∈ wsX11_bad := by decide +kernel
  refine lv_aload_n hx hb dX11_bad_0 rfl (lv_at hl 0 rfl) ?_
  refine va_get (D := D) (ci := 11) (v := .ref rf) (C := RX11) (T := TX11) (N := 19) hx hb hts zi11_ hown hK hP 0 rfl rfl 3 (by decide) z0_ (fun _ h9 => h9) rfl dX11_bad_1 ?_
  refine lv_iconst (v := 0) hx hb dX11_bad_4 (by decide) ?_
  refine lv_dup2_11 hx hb dX11_bad_5 rfl rfl ?_
  refine my_iald hx hb hK hP 1 1 rfl rfl (by rw [vp_in_iff]; decide +kernel) (k := 0) (by decide +kernel) dX11_bad_6 ?_
  refine lv_iconst (v := 1) hx hb dX11_bad_7 (by decide) ?_
  refine lv_iadd hx hb dX11_bad_8 ?_
  refine lv_topi (fun x1 ex1 => ?_)
  refine my_iast hx hb hK hP hD hS 1 1 rfl rfl (by rw [vp_in_iff]; decide +kernel) (k := 0) (by decide +kernel) dX11_bad_9 (fun H locs hP hD hS => ?_)
  have hP : va_P D vwCl [(mm, .inr (11, [.ref nw, .ref kp, .ref ik, .ref rf, .int 0, .int 0, .ref sd, .ref fr, .ref qu, .int 0, .ref me, .ref by_, .int 0, .int 0, .int 0, .int 0, .int 0, .ref nx, .int 0])), (rf, .inl (cy 1, 3, .inl (upd fr_ 0 x1)))] H := hP
  have hD : va_D A [(mm, .inr (11, [.ref nw, .ref kp, .ref ik, .ref rf, .int 0, .int 0, .ref sd, .ref fr, .ref qu, .int 0, .ref me, .ref by_, .int 0, .int 0, .int 0, .int 0, .int 0, .ref nx, .int 0])), (rf, .inl (cy 1, 3, .inl (upd fr_ 0 x1)))] := hD
  refine lv_iload_n hx hb dX11_bad_10 rfl (lv_at hl 1 rfl) ?_
  have hP9 := hP.sub (ws' := []) [] rfl
  have hD9 := hD.sub (ws' := []) [] (by decide) rfl
  exact W.iret (v := x) hx hb hr (fun t ht hW => ⟨⟨x, (), rfl, rfl, by rw [ht]; exact hP9, hD9⟩, hS.F ht⟩) hS.2.2 dX11_bad_11

set_option maxHeartbeats 4000000 in
set_option maxRecDepth 100000 in
theorem m_no (l : Launch) (D : va_G) (cy : Nat → ClassId) (mm nw kp ik rf sd fr qu me by_ nx : Nat) (fr_ : Nat → Int32) (x : Int32) (sz : Nat)  : Met l yX11_no wsX11_no ({ frames := 0, cells := 0, slots := 0, locals := 0 }) (va_Pc [.ref mm, .int x] (kPre D cy [(mm, .inr (11, [.ref nw, .ref kp, .ref ik, .ref rf, .int 0, .int 0, .ref sd, .ref fr, .ref qu, .int 0, .ref me, .ref by_, .int 0, .int 0, .int 0, .int 0, .int 0, .ref nx, .int 0])), (rf, .inl (cy 1, 3, .inl fr_))] sz)) (va_Qi (fun (r : Int32) (_ : Unit) => r = x) (fun (u : Unit) t => va_P D vwCl ([]) t.heap ∧ va_D (va_A [(mm, .inr (11, [.ref nw, .ref kp, .ref ik, .ref rf, .int 0, .int 0, .ref sd, .ref fr, .ref qu, .int 0, .ref me, .ref by_, .int 0, .int 0, .int 0, .int 0, .int 0, .ref nx, .int 0])), (rf, .inl (cy 1, 3, .inl fr_))] sz) ([])) (va_A [(mm, .inr (11, [.ref nw, .ref kp, .ref ik, .ref rf, .int 0, .int 0, .ref sd, .ref fr, .ref qu, .int 0, .ref me, .ref by_, .int 0, .int 0, .int 0, .int 0, .int 0, .ref nx, .int 0])), (rf, .inl (cy 1, 3, .inl fr_))] sz)) 0 0 (va_A [(mm, .inr (11, [.ref nw, .ref kp, .ref ik, .ref rf, .int 0, .int 0, .ref sd, .ref fr, .ref qu, .int 0, .ref me, .ref by_, .int 0, .int 0, .int 0, .int 0, .int 0, .ref nx, .int 0])), (rf, .inl (cy 1, 3, .inl fr_))] sz) := by
  refine Met.ofW (cc := cX11_no) (maxL := 2) (ret := (some .int)) (by decide) rfl ?_
  intro p e s m args below meth c s₁ B hml hv
  obtain ⟨rfl, hsz, hP, hKA, hD0⟩ := hv
  have hx := B.exec
  have hb := B.bytes
  have hr := B.returns
  have hts := atoms_spec (ws := wsX11_no) B.pre
  have hown : s.vm.findClass RX11 = some m.cls := findClass_of_methodNamed B.named
  have hlocks := B.notSynchronized
  subst hsz
  have hK := hKA.1
  have hD := hD0.self (sz := s.heap.size)
  generalize hAe : va_A [(mm, .inr (11, [.ref nw, .ref kp, .ref ik, .ref rf, .int 0, .int 0, .ref sd, .ref fr, .ref qu, .int 0, .ref me, .ref by_, .int 0, .int 0, .int 0, .int 0, .int 0, .ref nx, .int 0])), (rf, .inl (cy 1, 3, .inl fr_))] s.heap.size = A at hD ⊢
  have hA : ∀ q : Nat, s.heap.size ≤ q → A q := fun q h => by rw [← hAe]; exact Or.inr h
  have hS : va_S A s.heap s.heap [] := va_S.rf
  have hP : va_P D vwCl [(mm, .inr (11, [.ref nw, .ref kp, .ref ik, .ref rf, .int 0, .int 0, .ref sd, .ref fr, .ref qu, .int 0, .ref me, .ref by_, .int 0, .int 0, .int 0, .int 0, .int 0, .ref nx, .int 0])), (rf, .inl (cy 1, 3, .inl fr_))] s.heap := hP
  have hl := lv_entry ([.ref mm, .int x]) (n := 2) (Nat.le_of_ble_eq_true rfl)
  rw [lg_entry_eq]
  generalize (lg_sl ([.ref mm, .int x]) ++ List.replicate (2 - (lg_sl ([.ref mm, .int x])).length) Slot.unset).toArray = ls at hl ⊢
  have hl : lv_has ls 2 [(0, .ref mm), (1, .int x)] := hl
  have z0_ := hts (.fieldLink RX11 20 "HeardSeenModel" "refused" "[I") (by decide +kernel)
  have zi11_ : ∀ w ∈ u_ws RX11 TX11 19, w ∈ wsX11_no := by decide +kernel
  refine lv_aload_n hx hb dX11_no_0 rfl (lv_at hl 0 rfl) ?_
  refine va_get (D := D) (ci := 11) (v := .ref rf) (C := RX11) (T := TX11) (N := 19) hx hb hts zi11_ hown hK hP 0 rfl rfl 3 (by decide) z0_ (fun _ h9 => h9) rfl dX11_no_1 ?_
  refine lv_iconst (v := 1) hx hb dX11_no_4 (by decide) ?_
  refine lv_dup2_11 hx hb dX11_no_5 rfl rfl ?_
  refine my_iald hx hb hK hP 1 1 rfl rfl (by rw [vp_in_iff]; decide +kernel) (k := 1) (by decide +kernel) dX11_no_6 ?_
  refine lv_iconst (v := 1) hx hb dX11_no_7 (by decide) ?_
  refine lv_iadd hx hb dX11_no_8 ?_
  refine lv_topi (fun x1 ex1 => ?_)
  refine my_iast hx hb hK hP hD hS 1 1 rfl rfl (by rw [vp_in_iff]; decide +kernel) (k := 1) (by decide +kernel) dX11_no_9 (fun H locs hP hD hS => ?_)
  have hP : va_P D vwCl [(mm, .inr (11, [.ref nw, .ref kp, .ref ik, .ref rf, .int 0, .int 0, .ref sd, .ref fr, .ref qu, .int 0, .ref me, .ref by_, .int 0, .int 0, .int 0, .int 0, .int 0, .ref nx, .int 0])), (rf, .inl (cy 1, 3, .inl (upd fr_ 1 x1)))] H := hP
  have hD : va_D A [(mm, .inr (11, [.ref nw, .ref kp, .ref ik, .ref rf, .int 0, .int 0, .ref sd, .ref fr, .ref qu, .int 0, .ref me, .ref by_, .int 0, .int 0, .int 0, .int 0, .int 0, .ref nx, .int 0])), (rf, .inl (cy 1, 3, .inl (upd fr_ 1 x1)))] := hD
  refine lv_iload_n hx hb dX11_no_10 rfl (lv_at hl 1 rfl) ?_
  have hP9 := hP.sub (ws' := []) [] rfl
  have hD9 := hD.sub (ws' := []) [] (by decide) rfl
  exact W.iret (v := x) hx hb hr (fun t ht hW => ⟨⟨x, (), rfl, rfl, by rw [ht]; exact hP9, hD9⟩, hS.F ht⟩) hS.2.2 dX11_no_11

set_option maxHeartbeats 4000000 in
set_option maxRecDepth 100000 in
theorem m_isStood (l : Launch) (D : va_G) (cy : Nat → ClassId) (nw : Nat) (F : Nat → Int32) (x y : Int32) (sz : Nat) (h4 : F 4 = 0) : Met l yX11_isStood wsX11_isStood ({ frames := 0, cells := 0, slots := 0, locals := 0 }) (va_Pc [.ref nw, .int x, .int y] (kPre D cy [(nw, .inl (cy 1, 122, .inl F))] sz)) (va_Qi (fun (r : Int32) (_ : Unit) => r = 0) (fun _ _ => True) (fun q : Nat => sz ≤ q)) 0 0 (fun q : Nat => sz ≤ q) := by
  refine Met.ofW (cc := cX11_isStood) (maxL := 5) (ret := (some .boolean)) (by decide) rfl ?_
  intro p e s m args below meth c s₁ B hml hv
  obtain ⟨rfl, hsz, hP, hKA, hD0⟩ := hv
  have hx := B.exec
  have hb := B.bytes
  have hr := B.returns
  have hts := atoms_spec (ws := wsX11_isStood) B.pre
  have hown : s.vm.findClass RX11 = some m.cls := findClass_of_methodNamed B.named
  have hlocks := B.notSynchronized
  subst hsz
  have hK := hKA.1
  have hD := hD0
  generalize hAe : (fun q : Nat => s.heap.size ≤ q) = A
  have hA : ∀ q : Nat, s.heap.size ≤ q → A q := fun q h => by rw [← hAe]; exact h
  have hS : va_S A s.heap s.heap [] := va_S.rf
  have hP : va_P D vwCl [(nw, .inl (cy 1, 122, .inl F))] s.heap := hP
  have hl := lv_entry ([.ref nw, .int x, .int y]) (n := 5) (Nat.le_of_ble_eq_true rfl)
  rw [lg_entry_eq]
  generalize (lg_sl ([.ref nw, .int x, .int y]) ++ List.replicate (5 - (lg_sl ([.ref nw, .int x, .int y])).length) Slot.unset).toArray = ls at hl ⊢
  have hl : lv_has ls 5 [(0, .ref nw), (1, .int x), (2, .int y)] := hl
  refine lv_iconst (v := 0) hx hb dX11_isStood_0 (by decide) ?_
  refine lv_istore_n (lv' := [(3, .int 0), (0, .ref nw), (1, .int x), (2, .int y)]) hx hb dX11_isStood_1 rfl hl (by decide) rfl (fun ls hl => ?_)
  refine lv_iconst (v := 0) hx hb dX11_isStood_2 (by decide) ?_
  refine lv_istore (lv' := [(4, .int 0), (3, .int 0), (0, .ref nw), (1, .int x), (2, .int y)]) hx hb dX11_isStood_3 hl (by decide) rfl (fun ls hl => ?_)
  refine lv_iload hx hb dX11_isStood_5 (lv_at hl 0 rfl) ?_
  refine lv_aload_n hx hb dX11_isStood_7 rfl (lv_at hl 2 rfl) ?_
  refine lv_iconst (v := 4) hx hb dX11_isStood_8 (by decide) ?_
  refine my_iald hx hb hK hP 0 1 rfl rfl (by rw [vp_in_iff]; decide +kernel) (k := 4) (by decide +kernel) dX11_isStood_9 ?_
  rw [show F 4 = 0 from h4]
  refine lv_icmp_ge (tgt := 49) hx hb dX11_isStood_10 (by decide) (fun c1 => ?_) (fun c1 => absurd c1 (by decide))
  refine lv_iload_n hx hb dX11_isStood_49 rfl (lv_at hl 1 rfl) ?_
  exact W.zret (v := 0) hx hb hr rfl (fun t ht hW => ⟨⟨0, (), rfl, rfl, trivial⟩, hS.F ht⟩) hS.2.2 dX11_isStood_50

set_option maxHeartbeats 4000000 in
set_option maxRecDepth 100000 in
theorem m_isFree (l : Launch) (D : va_G) (cy : Nat → ClassId) (mm nw kp ik rf sd fr qu me by_ nx : Nat) (F : Nat → Int32) (j : Nat) (y : Int32) (sz : Nat) (hj : j < 36) (h4 : F 4 = 0) : Met l yX11_isFree wsX11_isFree ({ frames := 1, cells := 0, slots := 0, locals := 24 }) (va_Pc [.ref mm, .int (nI j), .int y] (kPre D cy [(mm, .inr (11, [.ref nw, .ref kp, .ref ik, .ref rf, .int 0, .int 0, .ref sd, .ref fr, .ref qu, .int 0, .ref me, .ref by_, .int 0, .int 0, .int 0, .int 0, .int 0, .ref nx, .int 0])), (nw, .inl (cy 1, 122, .inl F))] sz)) (va_Qi (fun (r : Int32) (_ : Unit) => (r = 1 ∧ F (20 + j) = 0) ∨ (r = 0 ∧ ¬ F (20 + j) = 0)) (fun _ _ => True) (fun q : Nat => sz ≤ q)) 0 0 (fun q : Nat => sz ≤ q) := by
  refine Met.ofW (cc := cX11_isFree) (maxL := 3) (ret := (some .boolean)) (by decide) rfl ?_
  intro p e s m args below meth c s₁ B hml hv
  obtain ⟨rfl, hsz, hP, hKA, hD0⟩ := hv
  have hx := B.exec
  have hb := B.bytes
  have hr := B.returns
  have hts := atoms_spec (ws := wsX11_isFree) B.pre
  have hown : s.vm.findClass RX11 = some m.cls := findClass_of_methodNamed B.named
  have hlocks := B.notSynchronized
  subst hsz
  have hK := hKA.1
  have hD := hD0
  generalize hAe : (fun q : Nat => s.heap.size ≤ q) = A
  have hA : ∀ q : Nat, s.heap.size ≤ q → A q := fun q h => by rw [← hAe]; exact h
  have hS : va_S A s.heap s.heap [] := va_S.rf
  have hP : va_P D vwCl [(mm, .inr (11, [.ref nw, .ref kp, .ref ik, .ref rf, .int 0, .int 0, .ref sd, .ref fr, .ref qu, .int 0, .ref me, .ref by_, .int 0, .int 0, .int 0, .int 0, .int 0, .ref nx, .int 0])), (nw, .inl (cy 1, 122, .inl F))] s.heap := hP
  have hl := lv_entry ([.ref mm, .int (nI j), .int y]) (n := 3) (Nat.le_of_ble_eq_true rfl)
  rw [lg_entry_eq]
  generalize (lg_sl ([.ref mm, .int (nI j), .int y]) ++ List.replicate (3 - (lg_sl ([.ref mm, .int (nI j), .int y])).length) Slot.unset).toArray = ls at hl ⊢
  have hl : lv_has ls 3 [(0, .ref mm), (1, .int (nI j)), (2, .int y)] := hl
  have z0_ := hts (.fieldLink RX11 7 "HeardSeenModel" "now" "[I") (by decide +kernel)
  have zi11_ : ∀ w ∈ u_ws RX11 TX11 19, w ∈ wsX11_isFree := by decide +kernel
  refine lv_aload_n hx hb dX11_isFree_0 rfl (lv_at hl 0 rfl) ?_
  refine va_get (D := D) (ci := 11) (v := .ref nw) (C := RX11) (T := TX11) (N := 19) hx hb hts zi11_ hown hK hP 0 rfl rfl 0 (by decide) z0_ (fun _ h9 => h9) rfl dX11_isFree_1 ?_
  refine lv_bipush (v := 20) hx hb dX11_isFree_4 (by decide) ?_
  refine lv_iload_n hx hb dX11_isFree_6 rfl (lv_at hl 1 rfl) ?_
  refine lv_iadd hx hb dX11_isFree_7 ?_
  refine lv_topi (fun x1 ex1 => ?_)
  obtain rfl : x1 = nI (20 + j) := by rw [ex1]; exact nI_add _ _
  refine my_iald hx hb hK hP 1 1 rfl rfl (by first | assumption | (exact vp_in_nI (by omega) (by omega))) (nI_clamp (by omega)) dX11_isFree_8 ?_
  refine lv_if_ne (tgt := 28) hx hb dX11_isFree_9 (by decide) (fun c2 => ?_) (fun c2 => ?_)
  · skip
    refine lv_iconst (v := 0) hx hb dX11_isFree_28 (by decide) ?_
    exact W.zret (v := 0) hx hb hr rfl (fun t ht hW => ⟨⟨0, (), rfl, (by first | exact Or.inl ⟨rfl, by assumption⟩ | exact Or.inr ⟨rfl, by assumption⟩), trivial⟩, hS.F ht⟩) hS.2.2 dX11_isFree_29
  · skip
    refine lv_aload_n hx hb dX11_isFree_12 rfl (lv_at hl 0 rfl) ?_
    refine va_get (D := D) (ci := 11) (v := .ref nw) (C := RX11) (T := TX11) (N := 19) hx hb hts zi11_ hown hK hP 0 rfl rfl 0 (by decide) z0_ (fun _ h9 => h9) rfl dX11_isFree_13 ?_
    refine lv_iload_n hx hb dX11_isFree_16 rfl (lv_at hl 1 rfl) ?_
    refine lv_iload_n hx hb dX11_isFree_17 rfl (lv_at hl 2 rfl) ?_
    refine rd_i (va_runS (As := [.ref nw, .int (nI j), .int y]) (rest := []) ⟨hx, hb, hml, hown, hts⟩ (m_isStood l D cy nw F (nI j) y _ (by assumption)) (va_cwS 3 hts gX11_isFree_X11_isStood rfl rfl rfl (by decide +kernel) ⟨Nat.le_of_ble_eq_true rfl, Nat.le_of_ble_eq_true rfl⟩) (pS hKA (hP.sub (ws' := [(nw, .inl (cy 1, 122, .inl F))]) [1] rfl) (hD.sub (ws' := [(nw, .inl (cy 1, 122, .inl F))]) [1] (by decide) rfl)) rfl rfl hl.1 rfl (lv_room (Nat.le_of_ble_eq_true rfl)) dX11_isFree_18 ⟨Nat.le_of_ble_eq_true rfl, Nat.le_of_ble_eq_true rfl⟩) hP hS hA (fun r3 H locs hwr3 hP hS => ?_)
    rcases hwr3 with rfl
    · skip
      refine lv_if_ne (tgt := 28) hx hb dX11_isFree_21 (by decide) (fun c4 => absurd c4 (by decide)) (fun c4 => ?_)
      refine lv_iconst (v := 1) hx hb dX11_isFree_24 (by decide) ?_
      refine lv_goto (tgt := 29) hx hb dX11_isFree_25 (by decide) ?_
      exact W.zret (v := 1) hx hb hr rfl (fun t ht hW => ⟨⟨1, (), rfl, (by first | exact Or.inl ⟨rfl, by assumption⟩ | exact Or.inr ⟨rfl, by assumption⟩), trivial⟩, hS.F ht⟩) hS.2.2 dX11_isFree_29
