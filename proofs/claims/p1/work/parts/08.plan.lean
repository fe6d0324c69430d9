theorem dX8_byteAt_0 : decode cX8_byteAt 0 = .ok (.iload_n 1, 1) := by decide +kernel
theorem dX8_byteAt_1 : decode cX8_byteAt 1 = .ok (.ifCond .lt 33, 3) := by decide +kernel
theorem dX8_byteAt_4 : decode cX8_byteAt 4 = .ok (.iload_n 1, 1) := by decide +kernel
theorem dX8_byteAt_5 : decode cX8_byteAt 5 = .ok (.aload_n 0, 1) := by decide +kernel
theorem dX8_byteAt_6 : decode cX8_byteAt 6 = .ok (.getfield 15, 3) := by decide +kernel
theorem dX8_byteAt_9 : decode cX8_byteAt 9 = .ok (.if_icmp .ge 25, 3) := by decide +kernel
theorem dX8_byteAt_34 : decode cX8_byteAt 34 = .ok (.iconst (-1), 1) := by decide +kernel
theorem dX8_byteAt_35 : decode cX8_byteAt 35 = .ok (.ireturn, 1) := by decide +kernel
theorem dX8_takeToken_0 : decode cX8_takeToken 0 = .ok (.aload_n 0, 1) := by decide +kernel
theorem dX8_takeToken_1 : decode cX8_takeToken 1 = .ok (.getfield 19, 3) := by decide +kernel
theorem dX8_takeToken_4 : decode cX8_takeToken 4 = .ok (.aload_n 0, 1) := by decide +kernel
theorem dX8_takeToken_5 : decode cX8_takeToken 5 = .ok (.getfield 15, 3) := by decide +kernel
theorem dX8_takeToken_8 : decode cX8_takeToken 8 = .ok (.if_icmp .ge 29, 3) := by decide +kernel
theorem dX8_takeToken_37 : decode cX8_takeToken 37 = .ok (.aload_n 0, 1) := by decide +kernel
theorem dX8_takeToken_38 : decode cX8_takeToken 38 = .ok (.aload_n 0, 1) := by decide +kernel
theorem dX8_takeToken_39 : decode cX8_takeToken 39 = .ok (.getfield 19, 3) := by decide +kernel
theorem dX8_takeToken_42 : decode cX8_takeToken 42 = .ok (.putfield 35, 3) := by decide +kernel
theorem dX8_takeToken_45 : decode cX8_takeToken 45 = .ok (.aload_n 0, 1) := by decide +kernel
theorem dX8_takeToken_46 : decode cX8_takeToken 46 = .ok (.iconst (-1), 1) := by decide +kernel
theorem dX8_takeToken_47 : decode cX8_takeToken 47 = .ok (.putfield 114, 3) := by decide +kernel
theorem dX8_takeToken_50 : decode cX8_takeToken 50 = .ok (.aload_n 0, 1) := by decide +kernel
theorem dX8_takeToken_51 : decode cX8_takeToken 51 = .ok (.aload_n 0, 1) := by decide +kernel
theorem dX8_takeToken_52 : decode cX8_takeToken 52 = .ok (.getfield 19, 3) := by decide +kernel
set_option maxRecDepth 20000 in
theorem ggX8_takeToken_X8_byteAt : GoodIn wsX8_takeToken wsX8_byteAt := goodIn_r _ [10, 2, 11, 26, 27, 28, 29, 30, 31, 32] (by decide +kernel) (by decide +kernel)
set_option maxRecDepth 20000 in
theorem gX8_takeToken_X8_byteAt : GoodIn wsX8_takeToken (wsV RX8 117 RX8 yX8_byteAt wsX8_byteAt) := goodIn_app (goodIn_of _ (by decide +kernel)) ggX8_takeToken_X8_byteAt
theorem dX8_takeToken_55 : decode cX8_takeToken 55 = .ok (.invokevirtual 117, 3) := by decide +kernel
theorem dX8_takeToken_58 : decode cX8_takeToken 58 = .ok (.istore_n 1, 1) := by decide +kernel
theorem dX8_takeToken_59 : decode cX8_takeToken 59 = .ok (.iload_n 1, 1) := by decide +kernel
theorem dX8_takeToken_60 : decode cX8_takeToken 60 = .ok (.iconst (-1), 1) := by decide +kernel
theorem dX8_takeToken_61 : decode cX8_takeToken 61 = .ok (.if_icmp .ne 11, 3) := by decide +kernel
theorem dX8_takeToken_64 : decode cX8_takeToken 64 = .ok (.aload_n 0, 1) := by decide +kernel
theorem dX8_takeToken_65 : decode cX8_takeToken 65 = .ok (.iconst 0, 1) := by decide +kernel
theorem dX8_takeToken_66 : decode cX8_takeToken 66 = .ok (.putfield 28, 3) := by decide +kernel
theorem dX8_takeToken_69 : decode cX8_takeToken 69 = .ok (.goto 76, 3) := by decide +kernel
theorem dX8_takeToken_145 : decode cX8_takeToken 145 = .ok (.return_, 1) := by decide +kernel
theorem dX8_layInto_0 : decode cX8_layInto 0 = .ok (.aload_n 0, 1) := by decide +kernel
theorem dX8_layInto_1 : decode cX8_layInto 1 = .ok (.iconst 0, 1) := by decide +kernel
theorem dX8_layInto_2 : decode cX8_layInto 2 = .ok (.putfield 19, 3) := by decide +kernel
theorem dX8_layInto_5 : decode cX8_layInto 5 = .ok (.aload_n 0, 1) := by decide +kernel
theorem dX8_layInto_6 : decode cX8_layInto 6 = .ok (.iconst (-1), 1) := by decide +kernel
theorem dX8_layInto_7 : decode cX8_layInto 7 = .ok (.putfield 22, 3) := by decide +kernel
theorem dX8_layInto_10 : decode cX8_layInto 10 = .ok (.aload_n 0, 1) := by decide +kernel
set_option maxRecDepth 20000 in
theorem ggX8_layInto_X8_takeToken : GoodIn wsX8_layInto wsX8_takeToken := goodIn_r _ [9, 1, 10, 4, 11, 3, 12, 13, 14, 8, 15, 16, 17, 18, 19, 20, 21, 22, 23, 24, 25, 26, 27, 28, 29, 30, 190, 191, 192, 193, 194, 195, 196] (by decide +kernel) (by decide +kernel)
set_option maxRecDepth 20000 in
theorem gX8_layInto_X8_takeToken : GoodIn wsX8_layInto (wsV RX8 25 RX8 yX8_takeToken wsX8_takeToken) := goodIn_app (goodIn_of _ (by decide +kernel)) ggX8_layInto_X8_takeToken
theorem dX8_layInto_11 : decode cX8_layInto 11 = .ok (.invokevirtual 25, 3) := by decide +kernel
theorem dX8_layInto_14 : decode cX8_layInto 14 = .ok (.aload_n 0, 1) := by decide +kernel
theorem dX8_layInto_15 : decode cX8_layInto 15 = .ok (.getfield 28, 3) := by decide +kernel
theorem dX8_layInto_18 : decode cX8_layInto 18 = .ok (.iconst 1, 1) := by decide +kernel
theorem dX8_layInto_19 : decode cX8_layInto 19 = .ok (.if_icmp .ne 10, 3) := by decide +kernel
theorem dX8_layInto_29 : decode cX8_layInto 29 = .ok (.aload_n 0, 1) := by decide +kernel
theorem dX8_layInto_30 : decode cX8_layInto 30 = .ok (.getfield 35, 3) := by decide +kernel
theorem dX8_layInto_33 : decode cX8_layInto 33 = .ok (.ireturn, 1) := by decide +kernel
theorem dX8_append_0 : decode cX8_append 0 = .ok (.iload_n 3, 1) := by decide +kernel
theorem dX8_append_1 : decode cX8_append 1 = .ok (.sipush 250, 3) := by decide +kernel
theorem dX8_append_4 : decode cX8_append 4 = .ok (.aload_n 0, 1) := by decide +kernel
theorem dX8_append_5 : decode cX8_append 5 = .ok (.getfield 15, 3) := by decide +kernel
theorem dX8_append_8 : decode cX8_append 8 = .ok (.isub, 1) := by decide +kernel
theorem dX8_append_9 : decode cX8_append 9 = .ok (.if_icmp .le 5, 3) := by decide +kernel
theorem dX8_append_14 : decode cX8_append 14 = .ok (.iload_n 3, 1) := by decide +kernel
theorem dX8_append_15 : decode cX8_append 15 = .ok (.iconst 1, 1) := by decide +kernel
theorem dX8_append_16 : decode cX8_append 16 = .ok (.isub, 1) := by decide +kernel
theorem dX8_append_17 : decode cX8_append 17 = .ok (.istore 4, 2) := by decide +kernel
theorem dX8_append_19 : decode cX8_append 19 = .ok (.iload 4, 2) := by decide +kernel
theorem dX8_append_21 : decode cX8_append 21 = .ok (.ifCond .lt 53, 3) := by decide +kernel
theorem dX8_append_74 : decode cX8_append 74 = .ok (.iconst 1, 1) := by decide +kernel
theorem dX8_append_75 : decode cX8_append 75 = .ok (.ireturn, 1) := by decide +kernel
theorem dX8_append_24 : decode cX8_append 24 = .ok (.aload_n 0, 1) := by decide +kernel
theorem dX8_append_25 : decode cX8_append 25 = .ok (.getfield 15, 3) := by decide +kernel
theorem dX8_append_28 : decode cX8_append 28 = .ok (.ifCond .lt 40, 3) := by decide +kernel
theorem dX8_append_31 : decode cX8_append 31 = .ok (.aload_n 0, 1) := by decide +kernel
theorem dX8_append_32 : decode cX8_append 32 = .ok (.getfield 15, 3) := by decide +kernel
theorem dX8_append_35 : decode cX8_append 35 = .ok (.aload_n 0, 1) := by decide +kernel
theorem dX8_append_36 : decode cX8_append 36 = .ok (.getfield 9, 3) := by decide +kernel
theorem dX8_append_39 : decode cX8_append 39 = .ok (.arraylength, 1) := by decide +kernel
theorem dX8_append_40 : decode cX8_append 40 = .ok (.if_icmp .ge 28, 3) := by decide +kernel
theorem dX8_append_43 : decode cX8_append 43 = .ok (.aload_n 0, 1) := by decide +kernel
theorem dX8_append_44 : decode cX8_append 44 = .ok (.getfield 9, 3) := by decide +kernel
theorem dX8_append_47 : decode cX8_append 47 = .ok (.aload_n 0, 1) := by decide +kernel
theorem dX8_append_48 : decode cX8_append 48 = .ok (.dup, 1) := by decide +kernel
theorem dX8_append_49 : decode cX8_append 49 = .ok (.getfield 15, 3) := by decide +kernel
theorem dX8_append_52 : decode cX8_append 52 = .ok (.dup_x1, 1) := by decide +kernel
theorem dX8_append_53 : decode cX8_append 53 = .ok (.iconst 1, 1) := by decide +kernel
theorem dX8_append_54 : decode cX8_append 54 = .ok (.iadd, 1) := by decide +kernel
theorem dX8_append_55 : decode cX8_append 55 = .ok (.putfield 15, 3) := by decide +kernel
theorem dX8_append_58 : decode cX8_append 58 = .ok (.lload_n 1, 1) := by decide +kernel
theorem dX8_append_59 : decode cX8_append 59 = .ok (.bipush 8, 2) := by decide +kernel
theorem dX8_append_61 : decode cX8_append 61 = .ok (.iload 4, 2) := by decide +kernel
theorem dX8_append_63 : decode cX8_append 63 = .ok (.imul, 1) := by decide +kernel
theorem dX8_append_64 : decode cX8_append 64 = .ok (.lshr, 1) := by decide +kernel
theorem dX8_append_65 : decode cX8_append 65 = .ok (.l2i, 1) := by decide +kernel
theorem dX8_append_66 : decode cX8_append 66 = .ok (.i2b, 1) := by decide +kernel
theorem dX8_append_67 : decode cX8_append 67 = .ok (.bastore, 1) := by decide +kernel
theorem dX8_append_68 : decode cX8_append 68 = .ok (.iinc 4 (-1), 3) := by decide +kernel
theorem dX8_append_71 : decode cX8_append 71 = .ok (.goto (-52), 3) := by decide +kernel
theorem dX8_append_12 : decode cX8_append 12 = .ok (.iconst 0, 1) := by decide +kernel
theorem dX8_append_13 : decode cX8_append 13 = .ok (.ireturn, 1) := by decide +kernel
theorem dX10_refuseBad_0 : decode cX10_refuseBad 0 = .ok (.aload_n 0, 1) := by decide +kernel
theorem dX10_refuseBad_1 : decode cX10_refuseBad 1 = .ok (.dup, 1) := by decide +kernel
theorem dX10_refuseBad_2 : decode cX10_refuseBad 2 = .ok (.getfield 204, 3) := by decide +kernel
theorem dX10_refuseBad_5 : decode cX10_refuseBad 5 = .ok (.iconst 1, 1) := by decide +kernel
theorem dX10_refuseBad_6 : decode cX10_refuseBad 6 = .ok (.iadd, 1) := by decide +kernel
theorem dX10_refuseBad_7 : decode cX10_refuseBad 7 = .ok (.putfield 204, 3) := by decide +kernel
theorem dX10_refuseBad_10 : decode cX10_refuseBad 10 = .ok (.iload_n 1, 1) := by decide +kernel
theorem dX10_refuseBad_11 : decode cX10_refuseBad 11 = .ok (.ireturn, 1) := by decide +kernel
theorem dX10_refuseNo_0 : decode cX10_refuseNo 0 = .ok (.aload_n 0, 1) := by decide +kernel
theorem dX10_refuseNo_1 : decode cX10_refuseNo 1 = .ok (.dup, 1) := by decide +kernel
theorem dX10_refuseNo_2 : decode cX10_refuseNo 2 = .ok (.getfield 207, 3) := by decide +kernel
theorem dX10_refuseNo_5 : decode cX10_refuseNo 5 = .ok (.iconst 1, 1) := by decide +kernel
theorem dX10_refuseNo_6 : decode cX10_refuseNo 6 = .ok (.iadd, 1) := by decide +kernel
theorem dX10_refuseNo_7 : decode cX10_refuseNo 7 = .ok (.putfield 207, 3) := by decide +kernel
theorem dX10_refuseNo_10 : decode cX10_refuseNo 10 = .ok (.iload_n 1, 1) := by decide +kernel
theorem dX10_refuseNo_11 : decode cX10_refuseNo 11 = .ok (.ireturn, 1) := by decide +kernel
theorem dX10_refuseFull_0 : decode cX10_refuseFull 0 = .ok (.aload_n 0, 1) := by decide +kernel
theorem dX10_refuseFull_1 : decode cX10_refuseFull 1 = .ok (.dup, 1) := by decide +kernel
theorem dX10_refuseFull_2 : decode cX10_refuseFull 2 = .ok (.getfield 210, 3) := by decide +kernel
theorem dX10_refuseFull_5 : decode cX10_refuseFull 5 = .ok (.iconst 1, 1) := by decide +kernel
theorem dX10_refuseFull_6 : decode cX10_refuseFull 6 = .ok (.iadd, 1) := by decide +kernel
theorem dX10_refuseFull_7 : decode cX10_refuseFull 7 = .ok (.putfield 210, 3) := by decide +kernel
theorem dX10_refuseFull_10 : decode cX10_refuseFull 10 = .ok (.bipush (-4), 2) := by decide +kernel
theorem dX10_refuseFull_12 : decode cX10_refuseFull 12 = .ok (.ireturn, 1) := by decide +kernel
theorem dX10_isPairOfTwo_0 : decode cX10_isPairOfTwo 0 = .ok (.aload_n 0, 1) := by decide +kernel
theorem dX10_isPairOfTwo_1 : decode cX10_isPairOfTwo 1 = .ok (.getfield 10, 3) := by decide +kernel
theorem dX10_isPairOfTwo_4 : decode cX10_isPairOfTwo 4 = .ok (.iload_n 1, 1) := by decide +kernel
set_option maxRecDepth 20000 in
theorem ggX10_isPairOfTwo_X3_isPerson : GoodIn wsX10_isPairOfTwo wsX3_isPerson := goodIn_r _ [6, 7, 17, 18, 19, 20, 21, 22, 23, 24, 25, 26, 27, 28, 29, 30, 31, 32] (by decide +kernel) (by decide +kernel)
set_option maxRecDepth 20000 in
theorem gX10_isPairOfTwo_X3_isPerson : GoodIn wsX10_isPairOfTwo (wsV RX10 98 RX3 yX3_isPerson wsX3_isPerson) := goodIn_app (goodIn_of _ (by decide +kernel)) ggX10_isPairOfTwo_X3_isPerson
theorem dX10_isPairOfTwo_5 : decode cX10_isPairOfTwo 5 = .ok (.invokevirtual 98, 3) := by decide +kernel
theorem dX10_isPairOfTwo_8 : decode cX10_isPairOfTwo 8 = .ok (.ifCond .eq 23, 3) := by decide +kernel
theorem dX10_isPairOfTwo_31 : decode cX10_isPairOfTwo 31 = .ok (.iconst 0, 1) := by decide +kernel
theorem dX10_isPairOfTwo_32 : decode cX10_isPairOfTwo 32 = .ok (.ireturn, 1) := by decide +kernel
theorem dX10_isGroup_0 : decode cX10_isGroup 0 = .ok (.iload_n 1, 1) := by decide +kernel
theorem dX10_isGroup_1 : decode cX10_isGroup 1 = .ok (.iconst 0, 1) := by decide +kernel
theorem dX10_isGroup_2 : decode cX10_isGroup 2 = .ok (.aload_n 0, 1) := by decide +kernel
theorem dX10_isGroup_3 : decode cX10_isGroup 3 = .ok (.getfield 10, 3) := by decide +kernel
set_option maxRecDepth 20000 in
theorem ggX10_isGroup_X3_everybody : GoodIn wsX10_isGroup wsX3_everybody := goodIn_r _ [6, 7, 21, 22, 23, 24, 25, 26, 27, 28, 29, 30, 31, 32, 33, 34, 35, 36] (by decide +kernel) (by decide +kernel)
set_option maxRecDepth 20000 in
theorem gX10_isGroup_X3_everybody : GoodIn wsX10_isGroup (wsV RX10 231 RX3 yX3_everybody wsX3_everybody) := goodIn_app (goodIn_of _ (by decide +kernel)) ggX10_isGroup_X3_everybody
theorem dX10_isGroup_6 : decode cX10_isGroup 6 = .ok (.invokevirtual 231, 3) := by decide +kernel
set_option maxRecDepth 20000 in
theorem ggX10_isGroup_X10_isWithin : GoodIn wsX10_isGroup wsX10_isWithin := goodIn_r _ [11] (by decide +kernel) (by decide +kernel)
set_option maxRecDepth 20000 in
theorem gX10_isGroup_X10_isWithin : GoodIn wsX10_isGroup (va_wsS RX10 48 yX10_isWithin wsX10_isWithin) := goodIn_app (goodIn_of _ (by decide +kernel)) ggX10_isGroup_X10_isWithin
theorem dX10_isGroup_9 : decode cX10_isGroup 9 = .ok (.invokestatic 48, 3) := by decide +kernel
theorem dX10_isGroup_12 : decode cX10_isGroup 12 = .ok (.ireturn, 1) := by decide +kernel
set_option maxHeartbeats 4000000 in
set_option maxRecDepth 100000 in
theorem c0_byteAt (l : Launch) (D : va_G) (cy : Nat → ClassId) (pn b : Nat) (nx so sta va fa : Int32) (sz : Nat)  : Met l yX8_byteAt wsX8_byteAt ({ frames := 0, cells := 0, slots := 0, locals := 0 }) (va_Pc [.ref pn, .int 0] (kPre D cy [(pn, .inr (8, [.ref b, .int 0, .int nx, .int so, .int sta, .int va, .int fa]))] sz)) (va_Qi (fun (r : Int32) (_ : Unit) => r = -1) (fun _ _ => True) (fun q : Nat => sz ≤ q)) 0 0 (fun q : Nat => sz ≤ q) := by
  refine Met.ofW (cc := cX8_byteAt) (maxL := 2) (ret := (some .int)) (by decide) rfl ?_
  intro p e s m args below meth c s₁ B hml hv
  obtain ⟨rfl, hsz, hP, hKA, hD0⟩ := hv
  have hx := B.exec
  have hb := B.bytes
  have hr := B.returns
  have hts := atoms_spec (ws := wsX8_byteAt) B.pre
  have hown : s.vm.findClass RX8 = some m.cls := findClass_of_methodNamed B.named
  have hlocks := B.notSynchronized
  subst hsz
  have hK := hKA.1
  have hD := hD0
  generalize hAe : (fun q : Nat => s.heap.size ≤ q) = A
  have hA : ∀ q : Nat, s.heap.size ≤ q → A q := fun q h => by rw [← hAe]; exact h
  have hS : va_S A s.heap s.heap [] := va_S.rf
  have hP : va_P D vwCl [(pn, .inr (8, [.ref b, .int 0, .int nx, .int so, .int sta, .int va, .int fa]))] s.heap := hP
  have hl := lv_entry ([.ref pn, .int 0]) (n := 2) (Nat.le_of_ble_eq_true rfl)
  rw [lg_entry_eq]
  generalize (lg_sl ([.ref pn, .int 0]) ++ List.replicate (2 - (lg_sl ([.ref pn, .int 0])).length) Slot.unset).toArray = ls at hl ⊢
  have hl : lv_has ls 2 [(0, .ref pn), (1, .int 0)] := hl
  have z0_ := hts (.fieldLink RX8 15 "HeardSeen$Plan" "length" "I") (by decide +kernel)
  have zi8_ : ∀ w ∈ u_ws RX8 TX8 7, w ∈ wsX8_byteAt := by decide +kernel
  refine lv_iload_n hx hb dX8_byteAt_0 rfl (lv_at hl 1 rfl) ?_
  refine lv_if_lt (tgt := 34) hx hb dX8_byteAt_1 (by decide) (fun c1 => absurd c1 (by decide)) (fun c1 => ?_)
  refine lv_iload_n hx hb dX8_byteAt_4 rfl (lv_at hl 1 rfl) ?_
  refine lv_aload_n hx hb dX8_byteAt_5 rfl (lv_at hl 0 rfl) ?_
  refine va_get (D := D) (ci := 8) (v := .int 0) (C := RX8) (T := TX8) (N := 7) hx hb hts zi8_ hown hK hP 0 rfl rfl 1 (by decide) z0_ (fun _ h9 => h9) rfl dX8_byteAt_6 ?_
  refine lv_icmp_ge (tgt := 34) hx hb dX8_byteAt_9 (by decide) (fun c2 => ?_) (fun c2 => absurd c2 (by decide))
  refine lv_iconst (v := (-1)) hx hb dX8_byteAt_34 (by decide) ?_
  exact W.iret (v := (-1)) hx hb hr (fun t ht hW => ⟨⟨(-1), (), rfl, rfl, trivial⟩, hS.F ht⟩) hS.2.2 dX8_byteAt_35

set_option maxHeartbeats 4000000 in
set_option maxRecDepth 100000 in
theorem c0_takeToken (l : Launch) (D : va_G) (cy : Nat → ClassId) (pn b : Nat) (so sta va fa : Int32) (sz : Nat)  : Met l yX8_takeToken wsX8_takeToken ({ frames := 1, cells := 0, slots := 0, locals := 21 }) (va_Pc [.ref pn] (kPre D cy [(pn, .inr (8, [.ref b, .int 0, .int 0, .int so, .int sta, .int va, .int fa]))] sz)) (va_Qv (fun (_ : Unit) => True) (fun (u : Unit) t => va_P D vwCl ([(pn, .inr (8, [.ref b, .int 0, .int 0, .int 0, .int 0, .int (-1), .int fa]))]) t.heap ∧ va_D (va_A [(pn, .inr (8, [.ref b, .int 0, .int 0, .int so, .int sta, .int va, .int fa]))] sz) ([(pn, .inr (8, [.ref b, .int 0, .int 0, .int 0, .int 0, .int (-1), .int fa]))])) (va_A [(pn, .inr (8, [.ref b, .int 0, .int 0, .int so, .int sta, .int va, .int fa]))] sz)) 0 0 (va_A [(pn, .inr (8, [.ref b, .int 0, .int 0, .int so, .int sta, .int va, .int fa]))] sz) := by
  refine Met.ofW (cc := cX8_takeToken) (maxL := 2) (ret := none) (by decide) rfl ?_
  intro p e s m args below meth c s₁ B hml hv
  obtain ⟨rfl, hsz, hP, hKA, hD0⟩ := hv
  have hx := B.exec
  have hb := B.bytes
  have hr := B.returns
  have hts := atoms_spec (ws := wsX8_takeToken) B.pre
  have hown : s.vm.findClass RX8 = some m.cls := findClass_of_methodNamed B.named
  have hlocks := B.notSynchronized
  subst hsz
  have hK := hKA.1
  have hD := hD0.self (sz := s.heap.size)
  generalize hAe : va_A [(pn, .inr (8, [.ref b, .int 0, .int 0, .int so, .int sta, .int va, .int fa]))] s.heap.size = A at hD ⊢
  have hA : ∀ q : Nat, s.heap.size ≤ q → A q := fun q h => by rw [← hAe]; exact Or.inr h
  have hS : va_S A s.heap s.heap [] := va_S.rf
  have hP : va_P D vwCl [(pn, .inr (8, [.ref b, .int 0, .int 0, .int so, .int sta, .int va, .int fa]))] s.heap := hP
  have hl := lv_entry ([.ref pn]) (n := 2) (Nat.le_of_ble_eq_true rfl)
  rw [lg_entry_eq]
  generalize (lg_sl ([.ref pn]) ++ List.replicate (2 - (lg_sl ([.ref pn])).length) Slot.unset).toArray = ls at hl ⊢
  have hl : lv_has ls 2 [(0, .ref pn)] := hl
  have z0_ := hts (.fieldLink RX8 19 "HeardSeen$Plan" "next" "I") (by decide +kernel)
  have zi8_ : ∀ w ∈ u_ws RX8 TX8 7, w ∈ wsX8_takeToken := by decide +kernel
  have z2_ := hts (.fieldLink RX8 15 "HeardSeen$Plan" "length" "I") (by decide +kernel)
  have z3_ := hts (.fieldLink RX8 35 "HeardSeen$Plan" "start" "I") (by decide +kernel)
  have z4_ := hts (.fieldLink RX8 114 "HeardSeen$Plan" "value" "I") (by decide +kernel)
  have z5_ := hts (.fieldLink RX8 28 "HeardSeen$Plan" "sort" "I") (by decide +kernel)
  refine lv_aload_n hx hb dX8_takeToken_0 rfl (lv_at hl 0 rfl) ?_
  refine va_get (D := D) (ci := 8) (v := .int 0) (C := RX8) (T := TX8) (N := 7) hx hb hts zi8_ hown hK hP 0 rfl rfl 2 (by decide) z0_ (fun _ h9 => h9) rfl dX8_takeToken_1 ?_
  refine lv_aload_n hx hb dX8_takeToken_4 rfl (lv_at hl 0 rfl) ?_
  refine va_get (D := D) (ci := 8) (v := .int 0) (C := RX8) (T := TX8) (N := 7) hx hb hts zi8_ hown hK hP 0 rfl rfl 1 (by decide) z2_ (fun _ h9 => h9) rfl dX8_takeToken_5 ?_
  refine lv_icmp_ge (tgt := 37) hx hb dX8_takeToken_8 (by decide) (fun c1 => ?_) (fun c1 => absurd c1 (by decide))
  refine lv_aload_n hx hb dX8_takeToken_37 rfl (lv_at hl 0 rfl) ?_
  refine lv_aload_n hx hb dX8_takeToken_38 rfl (lv_at hl 0 rfl) ?_
  refine va_get (D := D) (ci := 8) (v := .int 0) (C := RX8) (T := TX8) (N := 7) hx hb hts zi8_ hown hK hP 0 rfl rfl 2 (by decide) z0_ (fun _ h9 => h9) rfl dX8_takeToken_39 ?_
  refine va_put (D := D) (ci := 8) (v := .int 0) (ty := .int) (C := RX8) (T := TX8) (N := 7) hx hb hts zi8_ tyX8 tyX8_ok nmX8 hown hK hP hD hS 0 rfl rfl 4 (by decide) z3_ (fun _ h9 => h9) rfl (by decide +kernel) rfl rfl (Nat.le_of_ble_eq_true rfl) dX8_takeToken_42 (fun H locs hP hD hS => ?_)
  have hP : va_P D vwCl [(pn, .inr (8, [.ref b, .int 0, .int 0, .int so, .int 0, .int va, .int fa]))] H := hP
  have hD : va_D A [(pn, .inr (8, [.ref b, .int 0, .int 0, .int so, .int 0, .int va, .int fa]))] := hD
  refine lv_aload_n hx hb dX8_takeToken_45 rfl (lv_at hl 0 rfl) ?_
  refine lv_iconst (v := (-1)) hx hb dX8_takeToken_46 (by decide) ?_
  refine va_put (D := D) (ci := 8) (v := .int (-1)) (ty := .int) (C := RX8) (T := TX8) (N := 7) hx hb hts zi8_ tyX8 tyX8_ok nmX8 hown hK hP hD hS 0 rfl rfl 5 (by decide) z4_ (fun _ h9 => h9) rfl (by decide +kernel) rfl rfl (Nat.le_of_ble_eq_true rfl) dX8_takeToken_47 (fun H locs hP hD hS => ?_)
  have hP : va_P D vwCl [(pn, .inr (8, [.ref b, .int 0, .int 0, .int so, .int 0, .int (-1), .int fa]))] H := hP
  have hD : va_D A [(pn, .inr (8, [.ref b, .int 0, .int 0, .int so, .int 0, .int (-1), .int fa]))] := hD
  refine lv_aload_n hx hb dX8_takeToken_50 rfl (lv_at hl 0 rfl) ?_
  refine lv_aload_n hx hb dX8_takeToken_51 rfl (lv_at hl 0 rfl) ?_
  refine va_get (D := D) (ci := 8) (v := .int 0) (C := RX8) (T := TX8) (N := 7) hx hb hts zi8_ hown hK hP 0 rfl rfl 2 (by decide) z0_ (fun _ h9 => h9) rfl dX8_takeToken_52 ?_
  refine rd_i (va_runV (As := [.int 0]) (rest := []) ⟨hx, hb, hml, hown, hts⟩ (c0_byteAt l D cy pn b 0 so 0 (-1) fa _) (cwV 1 hts gX8_takeToken_X8_byteAt rfl rfl rfl (by decide +kernel) ⟨Nat.le_of_ble_eq_true rfl, Nat.le_of_ble_eq_true rfl⟩) (pV (ci := 8) (k := 0) hKA (hP.sub (ws' := [(pn, .inr (8, [.ref b, .int 0, .int 0, .int so, .int 0, .int (-1), .int fa]))]) [0] rfl) (hD.sub (ws' := [(pn, .inr (8, [.ref b, .int 0, .int 0, .int so, .int 0, .int (-1), .int fa]))]) [0] (by decide) rfl) rfl rfl) rfl rfl hl.1 rfl (lv_room (Nat.le_of_ble_eq_true rfl)) dX8_takeToken_55 ⟨Nat.le_of_ble_eq_true rfl, Nat.le_of_ble_eq_true rfl⟩) hP hS hA (fun r2 H locs hwr2 hP hS => ?_)
  rcases hwr2 with rfl
  · skip
    refine lv_istore_n (lv' := [(1, .int (-1)), (0, .ref pn)]) hx hb dX8_takeToken_58 rfl hl (by decide) rfl (fun ls hl => ?_)
    refine lv_iload_n hx hb dX8_takeToken_59 rfl (lv_at hl 0 rfl) ?_
    refine lv_iconst (v := (-1)) hx hb dX8_takeToken_60 (by decide) ?_
    refine lv_icmp_ne (tgt := 72) hx hb dX8_takeToken_61 (by decide) (fun c3 => absurd c3 (by decide)) (fun c3 => ?_)
    refine lv_aload_n hx hb dX8_takeToken_64 rfl (lv_at hl 1 rfl) ?_
    refine lv_iconst (v := 0) hx hb dX8_takeToken_65 (by decide) ?_
    refine va_put (D := D) (ci := 8) (v := .int 0) (ty := .int) (C := RX8) (T := TX8) (N := 7) hx hb hts zi8_ tyX8 tyX8_ok nmX8 hown hK hP hD hS 0 rfl rfl 3 (by decide) z5_ (fun _ h9 => h9) rfl (by decide +kernel) rfl rfl (Nat.le_of_ble_eq_true rfl) dX8_takeToken_66 (fun H locs hP hD hS => ?_)
    have hP : va_P D vwCl [(pn, .inr (8, [.ref b, .int 0, .int 0, .int 0, .int 0, .int (-1), .int fa]))] H := hP
    have hD : va_D A [(pn, .inr (8, [.ref b, .int 0, .int 0, .int 0, .int 0, .int (-1), .int fa]))] := hD
    refine lv_goto (tgt := 145) hx hb dX8_takeToken_69 (by decide) ?_
    have hP9 := hP.sub (ws' := [(pn, .inr (8, [.ref b, .int 0, .int 0, .int 0, .int 0, .int (-1), .int fa]))]) [0] rfl
    have hD9 := hD.sub (ws' := [(pn, .inr (8, [.ref b, .int 0, .int 0, .int 0, .int 0, .int (-1), .int fa]))]) [0] (by decide) rfl
    exact W.vret hx hb hr (fun t ht hW => ⟨⟨(), rfl, trivial, by rw [ht]; exact hP9, hD9⟩, hS.F ht⟩) hS.2.2 dX8_takeToken_145

set_option maxHeartbeats 4000000 in
set_option maxRecDepth 100000 in
theorem c0_layInto (l : Launch) (D : va_G) (cy : Nat → ClassId) (pn b gd : Nat) (nx so sta va fa : Int32) (sz : Nat)  : Met l yX8_layInto wsX8_layInto ({ frames := 2, cells := 0, slots := 0, locals := 42 }) (va_Pc [.ref pn, .ref gd] (kPre D cy [(pn, .inr (8, [.ref b, .int 0, .int nx, .int so, .int sta, .int va, .int fa]))] sz)) (va_Qi (fun (r : Int32) (_ : Unit) => r = 0) (fun (u : Unit) t => va_P D vwCl ([]) t.heap ∧ va_D (va_A [(pn, .inr (8, [.ref b, .int 0, .int nx, .int so, .int sta, .int va, .int fa]))] sz) ([])) (va_A [(pn, .inr (8, [.ref b, .int 0, .int nx, .int so, .int sta, .int va, .int fa]))] sz)) 0 0 (va_A [(pn, .inr (8, [.ref b, .int 0, .int nx, .int so, .int sta, .int va, .int fa]))] sz) := by
  refine Met.ofW (cc := cX8_layInto) (maxL := 3) (ret := (some .int)) (by decide) rfl ?_
  intro p e s m args below meth c s₁ B hml hv
  obtain ⟨rfl, hsz, hP, hKA, hD0⟩ := hv
  have hx := B.exec
  have hb := B.bytes
  have hr := B.returns
  have hts := atoms_spec (ws := wsX8_layInto) B.pre
  have hown : s.vm.findClass RX8 = some m.cls := findClass_of_methodNamed B.named
  have hlocks := B.notSynchronized
  subst hsz
  have hK := hKA.1
  have hD := hD0.self (sz := s.heap.size)
  generalize hAe : va_A [(pn, .inr (8, [.ref b, .int 0, .int nx, .int so, .int sta, .int va, .int fa]))] s.heap.size = A at hD ⊢
  have hA : ∀ q : Nat, s.heap.size ≤ q → A q := fun q h => by rw [← hAe]; exact Or.inr h
  have hS : va_S A s.heap s.heap [] := va_S.rf
  have hP : va_P D vwCl [(pn, .inr (8, [.ref b, .int 0, .int nx, .int so, .int sta, .int va, .int fa]))] s.heap := hP
  have hl := lv_entry ([.ref pn, .ref gd]) (n := 3) (Nat.le_of_ble_eq_true rfl)
  rw [lg_entry_eq]
  generalize (lg_sl ([.ref pn, .ref gd]) ++ List.replicate (3 - (lg_sl ([.ref pn, .ref gd])).length) Slot.unset).toArray = ls at hl ⊢
  have hl : lv_has ls 3 [(0, .ref pn), (1, .ref gd)] := hl
  have z0_ := hts (.fieldLink RX8 19 "HeardSeen$Plan" "next" "I") (by decide +kernel)
  have zi8_ : ∀ w ∈ u_ws RX8 TX8 7, w ∈ wsX8_layInto := by decide +kernel
  have z2_ := hts (.fieldLink RX8 22 "HeardSeen$Plan" "fault" "I") (by decide +kernel)
  have z3_ := hts (.fieldLink RX8 28 "HeardSeen$Plan" "sort" "I") (by decide +kernel)
  have z4_ := hts (.fieldLink RX8 35 "HeardSeen$Plan" "start" "I") (by decide +kernel)
  refine lv_aload_n hx hb dX8_layInto_0 rfl (lv_at hl 0 rfl) ?_
  refine lv_iconst (v := 0) hx hb dX8_layInto_1 (by decide) ?_
  refine va_put (D := D) (ci := 8) (v := .int 0) (ty := .int) (C := RX8) (T := TX8) (N := 7) hx hb hts zi8_ tyX8 tyX8_ok nmX8 hown hK hP hD hS 0 rfl rfl 2 (by decide) z0_ (fun _ h9 => h9) rfl (by decide +kernel) rfl rfl (Nat.le_of_ble_eq_true rfl) dX8_layInto_2 (fun H locs hP hD hS => ?_)
  have hP : va_P D vwCl [(pn, .inr (8, [.ref b, .int 0, .int 0, .int so, .int sta, .int va, .int fa]))] H := hP
  have hD : va_D A [(pn, .inr (8, [.ref b, .int 0, .int 0, .int so, .int sta, .int va, .int fa]))] := hD
  refine lv_aload_n hx hb dX8_layInto_5 rfl (lv_at hl 0 rfl) ?_
  refine lv_iconst (v := (-1)) hx hb dX8_layInto_6 (by decide) ?_
  refine va_put (D := D) (ci := 8) (v := .int (-1)) (ty := .int) (C := RX8) (T := TX8) (N := 7) hx hb hts zi8_ tyX8 tyX8_ok nmX8 hown hK hP hD hS 0 rfl rfl 6 (by decide) z2_ (fun _ h9 => h9) rfl (by decide +kernel) rfl rfl (Nat.le_of_ble_eq_true rfl) dX8_layInto_7 (fun H locs hP hD hS => ?_)
  have hP : va_P D vwCl [(pn, .inr (8, [.ref b, .int 0, .int 0, .int so, .int sta, .int va, .int (-1)]))] H := hP
  have hD : va_D A [(pn, .inr (8, [.ref b, .int 0, .int 0, .int so, .int sta, .int va, .int (-1)]))] := hD
  refine lv_aload_n hx hb dX8_layInto_10 rfl (lv_at hl 0 rfl) ?_
  refine wr_v (wr := []) (va_runV (As := []) (rest := []) ⟨hx, hb, hml, hown, hts⟩ (c0_takeToken l D cy pn b so sta va (-1) _) (cwV 0 hts gX8_layInto_X8_takeToken rfl rfl rfl (by decide +kernel) ⟨Nat.le_of_ble_eq_true rfl, Nat.le_of_ble_eq_true rfl⟩) (pV (ci := 8) (k := 0) hKA (hP.sub (ws' := [(pn, .inr (8, [.ref b, .int 0, .int 0, .int so, .int sta, .int va, .int (-1)]))]) [0] rfl) (hD.sub (ws' := [(pn, .inr (8, [.ref b, .int 0, .int 0, .int so, .int sta, .int va, .int (-1)]))]) [0] (by decide) rfl) rfl rfl) rfl rfl hl.1 rfl (lv_room (Nat.le_of_ble_eq_true rfl)) dX8_layInto_11 ⟨Nat.le_of_ble_eq_true rfl, Nat.le_of_ble_eq_true rfl⟩) hP hD hS hA [0] [] rfl rfl (by decide +kernel) (by decide +kernel) (fun ur1 H locs hwr1 hP hD hS => ?_)
  have hP : va_P D vwCl [(pn, .inr (8, [.ref b, .int 0, .int 0, .int 0, .int 0, .int (-1), .int (-1)]))] H := hP
  have hD : va_D A [(pn, .inr (8, [.ref b, .int 0, .int 0, .int 0, .int 0, .int (-1), .int (-1)]))] := hD
  refine lv_aload_n hx hb dX8_layInto_14 rfl (lv_at hl 0 rfl) ?_
  refine va_get (D := D) (ci := 8) (v := .int 0) (C := RX8) (T := TX8) (N := 7) hx hb hts zi8_ hown hK hP 0 rfl rfl 3 (by decide) z3_ (fun _ h9 => h9) rfl dX8_layInto_15 ?_
  refine lv_iconst (v := 1) hx hb dX8_layInto_18 (by decide) ?_
  refine lv_icmp_ne (tgt := 29) hx hb dX8_layInto_19 (by decide) (fun c2 => ?_) (fun c2 => absurd c2 (by decide))
  refine lv_aload_n hx hb dX8_layInto_29 rfl (lv_at hl 0 rfl) ?_
  refine va_get (D := D) (ci := 8) (v := .int 0) (C := RX8) (T := TX8) (N := 7) hx hb hts zi8_ hown hK hP 0 rfl rfl 4 (by decide) z4_ (fun _ h9 => h9) rfl dX8_layInto_30 ?_
  have hP9 := hP.sub (ws' := []) [] rfl
  have hD9 := hD.sub (ws' := []) [] (by decide) rfl
  exact W.iret (v := 0) hx hb hr (fun t ht hW => ⟨⟨0, (), rfl, rfl, by rw [ht]; exact hP9, hD9⟩, hS.F ht⟩) hS.2.2 dX8_layInto_33

set_option maxHeartbeats 4000000 in
set_option maxRecDepth 100000 in
theorem c_X8_append (l : Launch) (D : va_G) (cy : Nat → ClassId) (pn b : Nat) (nx so sta va fa : Int32) (f : Nat → Int32) (v : Int64) (ln nn : Nat) (sz : Nat) (hln : ln ≤ 250) (hn1 : 1 ≤ nn) (hn8 : nn ≤ 8) : Met l yX8_append wsX8_append ({ frames := 0, cells := 0, slots := 0, locals := 0 }) (va_Pc [.ref pn, .long v, .int (nI nn)] (kPre D cy [(pn, .inr (8, [.ref b, .int (nI ln), .int nx, .int so, .int sta, .int va, .int fa])), (b, .inl (cy 0, 250, .inl f))] sz)) (va_Qi (fun (r : Int32) (u : Nat × (Nat → Int32)) => (r = 1 ∧ u.1 = ln + nn ∧ ln + nn ≤ 250) ∨ (r = 0 ∧ u.1 = ln ∧ ¬ ln + nn ≤ 250)) (fun (u : Nat × (Nat → Int32)) t => va_P D vwCl ([(pn, .inr (8, [.ref b, .int (nI u.1), .int nx, .int so, .int sta, .int va, .int fa])), (b, .inl (cy 0, 250, .inl u.2))]) t.heap ∧ va_D (va_A [(pn, .inr (8, [.ref b, .int (nI ln), .int nx, .int so, .int sta, .int va, .int fa])), (b, .inl (cy 0, 250, .inl f))] sz) ([(pn, .inr (8, [.ref b, .int (nI u.1), .int nx, .int so, .int sta, .int va, .int fa])), (b, .inl (cy 0, 250, .inl u.2))])) (va_A [(pn, .inr (8, [.ref b, .int (nI ln), .int nx, .int so, .int sta, .int va, .int fa])), (b, .inl (cy 0, 250, .inl f))] sz)) 0 0 (va_A [(pn, .inr (8, [.ref b, .int (nI ln), .int nx, .int so, .int sta, .int va, .int fa])), (b, .inl (cy 0, 250, .inl f))] sz) := by
  refine Met.ofW (cc := cX8_append) (maxL := 5) (ret := (some .boolean)) (by decide) rfl ?_
  intro p e s m args below meth c s₁ B hml hv
  obtain ⟨rfl, hsz, hP, hKA, hD0⟩ := hv
  have hx := B.exec
  have hb := B.bytes
  have hr := B.returns
  have hts := atoms_spec (ws := wsX8_append) B.pre
  have hown : s.vm.findClass RX8 = some m.cls := findClass_of_methodNamed B.named
  have hlocks := B.notSynchronized
  subst hsz
  have hK := hKA.1
  have hD := hD0.self (sz := s.heap.size)
  generalize hAe : va_A [(pn, .inr (8, [.ref b, .int (nI ln), .int nx, .int so, .int sta, .int va, .int fa])), (b, .inl (cy 0, 250, .inl f))] s.heap.size = A at hD ⊢
  have hA : ∀ q : Nat, s.heap.size ≤ q → A q := fun q h => by rw [← hAe]; exact Or.inr h
  have hS : va_S A s.heap s.heap [] := va_S.rf
  have hP : va_P D vwCl [(pn, .inr (8, [.ref b, .int (nI ln), .int nx, .int so, .int sta, .int va, .int fa])), (b, .inl (cy 0, 250, .inl f))] s.heap := hP
  have hl := lv_entry ([.ref pn, .long v, .int (nI nn)]) (n := 5) (Nat.le_of_ble_eq_true rfl)
  rw [lg_entry_eq]
  generalize (lg_sl ([.ref pn, .long v, .int (nI nn)]) ++ List.replicate (5 - (lg_sl ([.ref pn, .long v, .int (nI nn)])).length) Slot.unset).toArray = ls at hl ⊢
  have hl : lv_has ls 5 [(0, .ref pn), (1, .long v), (3, .int (nI nn))] := hl
  have z0_ := hts (.fieldLink RX8 15 "HeardSeen$Plan" "length" "I") (by decide +kernel)
  have zi8_ : ∀ w ∈ u_ws RX8 TX8 7, w ∈ wsX8_append := by decide +kernel
  have z2_ := hts (.fieldLink RX8 9 "HeardSeen$Plan" "bytes" "[B") (by decide +kernel)
  refine lv_iload_n hx hb dX8_append_0 rfl (lv_at hl 2 rfl) ?_
  refine lv_sipush (v := 250) hx hb dX8_append_1 (by decide) ?_
  refine lv_aload_n hx hb dX8_append_4 rfl (lv_at hl 0 rfl) ?_
  refine va_get (D := D) (ci := 8) (v := .int (nI ln)) (C := RX8) (T := TX8) (N := 7) hx hb hts zi8_ hown hK hP 0 rfl rfl 1 (by decide) z0_ (fun _ h9 => h9) rfl dX8_append_5 ?_
  refine lv_isub hx hb dX8_append_8 ?_
  refine lv_topi (fun x1 ex1 => ?_)
  obtain rfl : x1 = nI (250 - ln) := by rw [ex1]; exact pk_sub (by omega)
  refine lv_icmp_le (tgt := 14) hx hb dX8_append_9 (by decide) (fun c2 => ?_) (fun c2 => ?_)
  · skip
    refine lv_iload_n hx hb dX8_append_14 rfl (lv_at hl 2 rfl) ?_
    refine lv_iconst (v := 1) hx hb dX8_append_15 (by decide) ?_
    refine lv_isub hx hb dX8_append_16 ?_
    refine lv_topi (fun x3 ex3 => ?_)
    obtain rfl : x3 = nI (nn - 1) := by rw [ex3]; exact pk_sub (by omega)
    refine lv_istore (lv' := [(4, .int (nI (nn - 1))), (0, .ref pn), (1, .long v), (3, .int (nI nn))]) hx hb dX8_append_17 hl (by decide) rfl (fun ls hl => ?_)
    have lp19 : ∀ (n19 : Nat) (r : Nat) (x : Int32) (t0 : Nat) (f : Nat → Int32), t0 + r = ln + nn → x.toInt = (r : Int) - 1 → r < n19 → ∀ (H : Heap) (locs : List Loc), va_P D vwCl [(pn, .inr (8, [.ref b, .int (nI t0), .int nx, .int so, .int sta, .int va, .int fa])), (b, .inl (cy 0, 250, .inl f))] H → va_D A [(pn, .inr (8, [.ref b, .int (nI t0), .int nx, .int so, .int sta, .int va, .int fa])), (b, .inl (cy 0, 250, .inl f))] → va_S A s.heap H locs → ∀ ls : Array Slot, lv_has ls 5 [(0, .ref pn), (1, .long v), (3, .int (nI nn)), (4, .int x)] → W p l e (headSpec wsX8_append ({ frames := 0, cells := 0, slots := 0, locals := 0 })).room s m [.ref pn, .long v, .int (nI nn)].toArray below meth c H locs 0 0 (MQ below (va_Qi (fun (r : Int32) (u : Nat × (Nat → Int32)) => (r = 1 ∧ u.1 = ln + nn ∧ ln + nn ≤ 250) ∨ (r = 0 ∧ u.1 = ln ∧ ¬ ln + nn ≤ 250)) (fun (u : Nat × (Nat → Int32)) t => va_P D vwCl ([(pn, .inr (8, [.ref b, .int (nI u.1), .int nx, .int so, .int sta, .int va, .int fa])), (b, .inl (cy 0, 250, .inl u.2))]) t.heap ∧ va_D A ([(pn, .inr (8, [.ref b, .int (nI u.1), .int nx, .int so, .int sta, .int va, .int fa])), (b, .inl (cy 0, 250, .inl u.2))])) A) [.ref pn, .long v, .int (nI nn)].toArray s 0 0 A) (F0 m 19 ls []) := by
      intro n19
      induction n19 with
      | zero => intro r x t0 f hrr hx4 hm; exact absurd hm (Nat.not_lt_zero _)
      | succ n19 ih19 =>
        intro r x t0 f hrr hx4 hm19 H locs hP hD hS ls hl
        refine lv_iload hx hb dX8_append_19 (lv_at hl 3 rfl) ?_
        refine lv_if_lt (tgt := 74) hx hb dX8_append_21 (by decide) (fun c4 => ?_) (fun c4 => ?_)
        · skip
          refine lv_iconst (v := 1) hx hb dX8_append_74 (by decide) ?_
          have hP9 := hP.sub (ws' := [(pn, .inr (8, [.ref b, .int (nI t0), .int nx, .int so, .int sta, .int va, .int fa])), (b, .inl (cy 0, 250, .inl f))]) [0, 1] rfl
          have hD9 := hD.sub (ws' := [(pn, .inr (8, [.ref b, .int (nI t0), .int nx, .int so, .int sta, .int va, .int fa])), (b, .inl (cy 0, 250, .inl f))]) [0, 1] (by decide) rfl
          exact W.zret (v := 1) hx hb hr rfl (fun t ht hW => ⟨⟨1, (t0, f), rfl, (Or.inl ⟨rfl, (by have q : x.toInt < 0 := (z_lt _ _).mp (by assumption); dsimp only; omega), (by have q := (nI_leI (by omega) (by omega)).mp (by assumption : nI nn ≤ nI (250 - ln)); omega)⟩), by rw [ht]; exact hP9, hD9⟩, hS.F ht⟩) hS.2.2 dX8_append_75
        · skip
          refine lv_aload_n hx hb dX8_append_24 rfl (lv_at hl 0 rfl) ?_
          refine va_get (D := D) (ci := 8) (v := .int (nI t0)) (C := RX8) (T := TX8) (N := 7) hx hb hts zi8_ hown hK hP 0 rfl rfl 1 (by decide) z0_ (fun _ h9 => h9) rfl dX8_append_25 ?_
          refine lv_if_lt (tgt := 68) hx hb dX8_append_28 (by decide) (fun c5 => absurd c5 (nI_pos (by omega))) (fun c5 => ?_)
          refine lv_aload_n hx hb dX8_append_31 rfl (lv_at hl 0 rfl) ?_
          refine va_get (D := D) (ci := 8) (v := .int (nI t0)) (C := RX8) (T := TX8) (N := 7) hx hb hts zi8_ hown hK hP 0 rfl rfl 1 (by decide) z0_ (fun _ h9 => h9) rfl dX8_append_32 ?_
          refine lv_aload_n hx hb dX8_append_35 rfl (lv_at hl 0 rfl) ?_
          refine va_get (D := D) (ci := 8) (v := .ref b) (C := RX8) (T := TX8) (N := 7) hx hb hts zi8_ hown hK hP 0 rfl rfl 0 (by decide) z2_ (fun _ h9 => h9) rfl dX8_append_36 ?_
          refine va_alen hx hb hK hP 1 0 rfl rfl (v := 250) rfl dX8_append_39 ?_
          refine lv_icmp_ge (tgt := 68) hx hb dX8_append_40 (by decide) (fun c6 => absurd c6 (by have q := (nI_leI (by omega) (by omega)).mp (by assumption : nI nn ≤ nI (250 - ln)); have q2 := (z_dec hx4 (by assumption)).1; exact nI_ge (a := t0) (b := 250) (by omega) (by decide))) (fun c6 => ?_)
          refine lv_aload_n hx hb dX8_append_43 rfl (lv_at hl 0 rfl) ?_
          refine va_get (D := D) (ci := 8) (v := .ref b) (C := RX8) (T := TX8) (N := 7) hx hb hts zi8_ hown hK hP 0 rfl rfl 0 (by decide) z2_ (fun _ h9 => h9) rfl dX8_append_44 ?_
          refine lv_aload_n hx hb dX8_append_47 rfl (lv_at hl 0 rfl) ?_
          refine lv_dup hx hb dX8_append_48 rfl ?_
          refine va_get (D := D) (ci := 8) (v := .int (nI t0)) (C := RX8) (T := TX8) (N := 7) hx hb hts zi8_ hown hK hP 0 rfl rfl 1 (by decide) z0_ (fun _ h9 => h9) rfl dX8_append_49 ?_
          refine lv_dup_x1 hx hb dX8_append_52 rfl rfl ?_
          refine lv_iconst (v := 1) hx hb dX8_append_53 (by decide) ?_
          refine lv_iadd hx hb dX8_append_54 ?_
          refine lv_topi (fun x7 ex7 => ?_)
          obtain rfl : x7 = nI (t0 + 1) := by rw [ex7]; exact nI_add _ _
          refine va_put (D := D) (ci := 8) (v := .int (nI (t0 + 1))) (ty := .int) (C := RX8) (T := TX8) (N := 7) hx hb hts zi8_ tyX8 tyX8_ok nmX8 hown hK hP hD hS 0 rfl rfl 1 (by decide) z0_ (fun _ h9 => h9) rfl (by decide +kernel) rfl rfl (Nat.le_of_ble_eq_true rfl) dX8_append_55 (fun H locs hP hD hS => ?_)
          have hP : va_P D vwCl [(pn, .inr (8, [.ref b, .int (nI (t0 + 1)), .int nx, .int so, .int sta, .int va, .int fa])), (b, .inl (cy 0, 250, .inl f))] H := hP
          have hD : va_D A [(pn, .inr (8, [.ref b, .int (nI (t0 + 1)), .int nx, .int so, .int sta, .int va, .int fa])), (b, .inl (cy 0, 250, .inl f))] := hD
          refine lv_lload_n hx hb dX8_append_58 rfl (lv_at hl 1 rfl) ?_
          refine lv_bipush (v := 8) hx hb dX8_append_59 (by decide) ?_
          refine lv_iload hx hb dX8_append_61 (lv_at hl 3 rfl) ?_
          refine lv_imul hx hb dX8_append_63 ?_
          refine lv_lshr hx hb dX8_append_64 rfl ?_
          refine lv_l2i hx hb dX8_append_65 rfl ?_
          refine lv_i2b hx hb dX8_append_66 rfl ?_
          refine lv_topi (fun x8 ex8 => ?_)
          refine my_bast hx hb hK hP hD hS 1 0 rfl rfl (vp_in_nI (by have q := (nI_leI (by omega) (by omega)).mp (by assumption : nI nn ≤ nI (250 - ln)); have q2 := (z_dec hx4 (by assumption)).1; omega) (by decide)) (nI_clamp (by omega)) dX8_append_67 (fun H locs hP hD hS => ?_)
          have hP : va_P D vwCl [(pn, .inr (8, [.ref b, .int (nI (t0 + 1)), .int nx, .int so, .int sta, .int va, .int fa])), (b, .inl (cy 0, 250, .inl (upd f t0 (vp_nar .byte x8))))] H := hP
          have hD : va_D A [(pn, .inr (8, [.ref b, .int (nI (t0 + 1)), .int nx, .int so, .int sta, .int va, .int fa])), (b, .inl (cy 0, 250, .inl (upd f t0 (vp_nar .byte x8))))] := hD
          obtain ⟨x9, ex9⟩ : ∃ y : Int32, y = x + (-1) := ⟨_, rfl⟩
          refine lv_iinc (v := x9) (lv' := [(4, .int x9), (0, .ref pn), (1, .long v), (3, .int (nI nn))]) hx hb dX8_append_68 hl (k := 3) rfl (by rw [ex9]; rfl) (by decide) rfl (fun ls hl => ?_)
          refine lv_goto (tgt := 19) hx hb dX8_append_71 (by decide) ?_
          exact ih19 (r - 1) x9 (t0 + 1) (upd f t0 (vp_nar .byte x8)) (by have := (z_dec hx4 (by assumption)).1; omega) (by rw [ex9]; exact (z_dec hx4 (by assumption)).2) (by have := (z_dec hx4 (by assumption)).1; omega) _ _ (hP.sub (ws' := [(pn, .inr (8, [.ref b, .int (nI (t0 + 1)), .int nx, .int so, .int sta, .int va, .int fa])), (b, .inl (cy 0, 250, .inl (upd f t0 (vp_nar .byte x8))))]) [0, 1] rfl) (hD.sub (ws' := [(pn, .inr (8, [.ref b, .int (nI (t0 + 1)), .int nx, .int so, .int sta, .int va, .int fa])), (b, .inl (cy 0, 250, .inl (upd f t0 (vp_nar .byte x8))))]) [0, 1] (by decide) rfl) hS ls (lv_sub hl [1, 2, 3, 0] rfl)
    exact lp19 (nn + 1) nn (nI (nn - 1)) ln f (by omega) (by rw [nI_toInt (by omega)]; omega) (Nat.lt_succ_self _) _ _ (hP.sub (ws' := [(pn, .inr (8, [.ref b, .int (nI ln), .int nx, .int so, .int sta, .int va, .int fa])), (b, .inl (cy 0, 250, .inl f))]) [0, 1] rfl) (hD.sub (ws' := [(pn, .inr (8, [.ref b, .int (nI ln), .int nx, .int so, .int sta, .int va, .int fa])), (b, .inl (cy 0, 250, .inl f))]) [0, 1] (by decide) rfl) hS ls (lv_sub hl [1, 2, 3, 0] rfl)
  · skip
    refine lv_iconst (v := 0) hx hb dX8_append_12 (by decide) ?_
    have hP9 := hP.sub (ws' := [(pn, .inr (8, [.ref b, .int (nI ln), .int nx, .int so, .int sta, .int va, .int fa])), (b, .inl (cy 0, 250, .inl f))]) [0, 1] rfl
    have hD9 := hD.sub (ws' := [(pn, .inr (8, [.ref b, .int (nI ln), .int nx, .int so, .int sta, .int va, .int fa])), (b, .inl (cy 0, 250, .inl f))]) [0, 1] (by decide) rfl
    exact W.zret (v := 0) hx hb hr rfl (fun t ht hW => ⟨⟨0, (ln, f), rfl, (Or.inr ⟨rfl, rfl, fun q => absurd ((nI_leI (by omega) (by omega)).mpr (by omega)) (by assumption : ¬ nI nn ≤ nI (250 - ln))⟩), by rw [ht]; exact hP9, hD9⟩, hS.F ht⟩) hS.2.2 dX8_append_13

set_option maxHeartbeats 4000000 in
set_option maxRecDepth 100000 in
theorem c_X10_refuseBad (l : Launch) (D : va_G) (cy : Nat → ClassId) (h g df im pn w pa : Nat) (b0 b1 b2 : Int32) (x : Int32) (sz : Nat)  : Met l yX10_refuseBad wsX10_refuseBad ({ frames := 0, cells := 0, slots := 0, locals := 0 }) (va_Pc [.ref h, .int x] (kPre D cy [(h, .inr (10, [.ref g, .ref df, .ref im, .ref pn, .ref w, .ref pa, .int b0, .int b1, .int b2]))] sz)) (va_Qi (fun (r : Int32) (_ : Unit) => r = x) (fun (u : Unit) t => va_P D vwCl ([(h, .inr (10, [.ref g, .ref df, .ref im, .ref pn, .ref w, .ref pa, .int (b0 + 1), .int b1, .int b2]))]) t.heap ∧ va_D (va_A [(h, .inr (10, [.ref g, .ref df, .ref im, .ref pn, .ref w, .ref pa, .int b0, .int b1, .int b2]))] sz) ([(h, .inr (10, [.ref g, .ref df, .ref im, .ref pn, .ref w, .ref pa, .int (b0 + 1), .int b1, .int b2]))])) (va_A [(h, .inr (10, [.ref g, .ref df, .ref im, .ref pn, .ref w, .ref pa, .int b0, .int b1, .int b2]))] sz)) 0 0 (va_A [(h, .inr (10, [.ref g, .ref df, .ref im, .ref pn, .ref w, .ref pa, .int b0, .int b1, .int b2]))] sz) := by
  refine Met.ofW (cc := cX10_refuseBad) (maxL := 2) (ret := (some .int)) (by decide) rfl ?_
  intro p e s m args below meth c s₁ B hml hv
  obtain ⟨rfl, hsz, hP, hKA, hD0⟩ := hv
  have hx := B.exec
  have hb := B.bytes
  have hr := B.returns
  have hts := atoms_spec (ws := wsX10_refuseBad) B.pre
  have hown : s.vm.findClass RX10 = some m.cls := findClass_of_methodNamed B.named
  have hlocks := B.notSynchronized
  subst hsz
  have hK := hKA.1
  have hD := hD0.self (sz := s.heap.size)
  generalize hAe : va_A [(h, .inr (10, [.ref g, .ref df, .ref im, .ref pn, .ref w, .ref pa, .int b0, .int b1, .int b2]))] s.heap.size = A at hD ⊢
  have hA : ∀ q : Nat, s.heap.size ≤ q → A q := fun q h => by rw [← hAe]; exact Or.inr h
  have hS : va_S A s.heap s.heap [] := va_S.rf
  have hP : va_P D vwCl [(h, .inr (10, [.ref g, .ref df, .ref im, .ref pn, .ref w, .ref pa, .int b0, .int b1, .int b2]))] s.heap := hP
  have hl := lv_entry ([.ref h, .int x]) (n := 2) (Nat.le_of_ble_eq_true rfl)
  rw [lg_entry_eq]
  generalize (lg_sl ([.ref h, .int x]) ++ List.replicate (2 - (lg_sl ([.ref h, .int x])).length) Slot.unset).toArray = ls at hl ⊢
  have hl : lv_has ls 2 [(0, .ref h), (1, .int x)] := hl
  have z0_ := hts (.fieldLink RX10 204 "HeardSeen" "bads" "I") (by decide +kernel)
  have zi10_ : ∀ w ∈ u_ws RX10 TX10 9, w ∈ wsX10_refuseBad := by decide +kernel
  refine lv_aload_n hx hb dX10_refuseBad_0 rfl (lv_at hl 0 rfl) ?_
  refine lv_dup hx hb dX10_refuseBad_1 rfl ?_
  refine va_get (D := D) (ci := 10) (v := .int b0) (C := RX10) (T := TX10) (N := 9) hx hb hts zi10_ hown hK hP 0 rfl rfl 6 (by decide) z0_ (fun _ h9 => h9) rfl dX10_refuseBad_2 ?_
  refine lv_iconst (v := 1) hx hb dX10_refuseBad_5 (by decide) ?_
  refine lv_iadd hx hb dX10_refuseBad_6 ?_
  refine va_put (D := D) (ci := 10) (v := .int (b0 + 1)) (ty := .int) (C := RX10) (T := TX10) (N := 9) hx hb hts zi10_ tyX10 tyX10_ok nmX10 hown hK hP hD hS 0 rfl rfl 6 (by decide) z0_ (fun _ h9 => h9) rfl (by decide +kernel) rfl rfl (Nat.le_of_ble_eq_true rfl) dX10_refuseBad_7 (fun H locs hP hD hS => ?_)
  have hP : va_P D vwCl [(h, .inr (10, [.ref g, .ref df, .ref im, .ref pn, .ref w, .ref pa, .int (b0 + 1), .int b1, .int b2]))] H := hP
  have hD : va_D A [(h, .inr (10, [.ref g, .ref df, .ref im, .ref pn, .ref w, .ref pa, .int (b0 + 1), .int b1, .int b2]))] := hD
  refine lv_iload_n hx hb dX10_refuseBad_10 rfl (lv_at hl 1 rfl) ?_
  have hP9 := hP.sub (ws' := [(h, .inr (10, [.ref g, .ref df, .ref im, .ref pn, .ref w, .ref pa, .int (b0 + 1), .int b1, .int b2]))]) [0] rfl
  have hD9 := hD.sub (ws' := [(h, .inr (10, [.ref g, .ref df, .ref im, .ref pn, .ref w, .ref pa, .int (b0 + 1), .int b1, .int b2]))]) [0] (by decide) rfl
  exact W.iret (v := x) hx hb hr (fun t ht hW => ⟨⟨x, (), rfl, rfl, by rw [ht]; exact hP9, hD9⟩, hS.F ht⟩) hS.2.2 dX10_refuseBad_11

set_option maxHeartbeats 4000000 in
set_option maxRecDepth 100000 in
theorem c_X10_refuseNo (l : Launch) (D : va_G) (cy : Nat → ClassId) (h g df im pn w pa : Nat) (b0 b1 b2 : Int32) (x : Int32) (sz : Nat)  : Met l yX10_refuseNo wsX10_refuseNo ({ frames := 0, cells := 0, slots := 0, locals := 0 }) (va_Pc [.ref h, .int x] (kPre D cy [(h, .inr (10, [.ref g, .ref df, .ref im, .ref pn, .ref w, .ref pa, .int b0, .int b1, .int b2]))] sz)) (va_Qi (fun (r : Int32) (_ : Unit) => r = x) (fun (u : Unit) t => va_P D vwCl ([(h, .inr (10, [.ref g, .ref df, .ref im, .ref pn, .ref w, .ref pa, .int b0, .int (b1 + 1), .int b2]))]) t.heap ∧ va_D (va_A [(h, .inr (10, [.ref g, .ref df, .ref im, .ref pn, .ref w, .ref pa, .int b0, .int b1, .int b2]))] sz) ([(h, .inr (10, [.ref g, .ref df, .ref im, .ref pn, .ref w, .ref pa, .int b0, .int (b1 + 1), .int b2]))])) (va_A [(h, .inr (10, [.ref g, .ref df, .ref im, .ref pn, .ref w, .ref pa, .int b0, .int b1, .int b2]))] sz)) 0 0 (va_A [(h, .inr (10, [.ref g, .ref df, .ref im, .ref pn, .ref w, .ref pa, .int b0, .int b1, .int b2]))] sz) := by
  refine Met.ofW (cc := cX10_refuseNo) (maxL := 2) (ret := (some .int)) (by decide) rfl ?_
  intro p e s m args below meth c s₁ B hml hv
  obtain ⟨rfl, hsz, hP, hKA, hD0⟩ := hv
  have hx := B.exec
  have hb := B.bytes
  have hr := B.returns
  have hts := atoms_spec (ws := wsX10_refuseNo) B.pre
  have hown : s.vm.findClass RX10 = some m.cls := findClass_of_methodNamed B.named
  have hlocks := B.notSynchronized
  subst hsz
  have hK := hKA.1
  have hD := hD0.self (sz := s.heap.size)
  generalize hAe : va_A [(h, .inr (10, [.ref g, .ref df, .ref im, .ref pn, .ref w, .ref pa, .int b0, .int b1, .int b2]))] s.heap.size = A at hD ⊢
  have hA : ∀ q : Nat, s.heap.size ≤ q → A q := fun q h => by rw [← hAe]; exact Or.inr h
  have hS : va_S A s.heap s.heap [] := va_S.rf
  have hP : va_P D vwCl [(h, .inr (10, [.ref g, .ref df, .ref im, .ref pn, .ref w, .ref pa, .int b0, .int b1, .int b2]))] s.heap := hP
  have hl := lv_entry ([.ref h, .int x]) (n := 2) (Nat.le_of_ble_eq_true rfl)
  rw [lg_entry_eq]
  generalize (lg_sl ([.ref h, .int x]) ++ List.replicate (2 - (lg_sl ([.ref h, .int x])).length) Slot.unset).toArray = ls at hl ⊢
  have hl : lv_has ls 2 [(0, .ref h), (1, .int x)] := hl
  have z0_ := hts (.fieldLink RX10 207 "HeardSeen" "nos" "I") (by decide +kernel)
  have zi10_ : ∀ w ∈ u_ws RX10 TX10 9, w ∈ wsX10_refuseNo := by decide +kernel
  refine lv_aload_n hx hb dX10_refuseNo_0 rfl (lv_at hl 0 rfl) ?_
  refine lv_dup hx hb dX10_refuseNo_1 rfl ?_
  refine va_get (D := D) (ci := 10) (v := .int b1) (C := RX10) (T := TX10) (N := 9) hx hb hts zi10_ hown hK hP 0 rfl rfl 7 (by decide) z0_ (fun _ h9 => h9) rfl dX10_refuseNo_2 ?_
  refine lv_iconst (v := 1) hx hb dX10_refuseNo_5 (by decide) ?_
  refine lv_iadd hx hb dX10_refuseNo_6 ?_
  refine va_put (D := D) (ci := 10) (v := .int (b1 + 1)) (ty := .int) (C := RX10) (T := TX10) (N := 9) hx hb hts zi10_ tyX10 tyX10_ok nmX10 hown hK hP hD hS 0 rfl rfl 7 (by decide) z0_ (fun _ h9 => h9) rfl (by decide +kernel) rfl rfl (Nat.le_of_ble_eq_true rfl) dX10_refuseNo_7 (fun H locs hP hD hS => ?_)
  have hP : va_P D vwCl [(h, .inr (10, [.ref g, .ref df, .ref im, .ref pn, .ref w, .ref pa, .int b0, .int (b1 + 1), .int b2]))] H := hP
  have hD : va_D A [(h, .inr (10, [.ref g, .ref df, .ref im, .ref pn, .ref w, .ref pa, .int b0, .int (b1 + 1), .int b2]))] := hD
  refine lv_iload_n hx hb dX10_refuseNo_10 rfl (lv_at hl 1 rfl) ?_
  have hP9 := hP.sub (ws' := [(h, .inr (10, [.ref g, .ref df, .ref im, .ref pn, .ref w, .ref pa, .int b0, .int (b1 + 1), .int b2]))]) [0] rfl
  have hD9 := hD.sub (ws' := [(h, .inr (10, [.ref g, .ref df, .ref im, .ref pn, .ref w, .ref pa, .int b0, .int (b1 + 1), .int b2]))]) [0] (by decide) rfl
  exact W.iret (v := x) hx hb hr (fun t ht hW => ⟨⟨x, (), rfl, rfl, by rw [ht]; exact hP9, hD9⟩, hS.F ht⟩) hS.2.2 dX10_refuseNo_11

set_option maxHeartbeats 4000000 in
set_option maxRecDepth 100000 in
theorem c_X10_refuseFull (l : Launch) (D : va_G) (cy : Nat → ClassId) (h g df im pn w pa : Nat) (b0 b1 b2 : Int32) (sz : Nat)  : Met l yX10_refuseFull wsX10_refuseFull ({ frames := 0, cells := 0, slots := 0, locals := 0 }) (va_Pc [.ref h] (kPre D cy [(h, .inr (10, [.ref g, .ref df, .ref im, .ref pn, .ref w, .ref pa, .int b0, .int b1, .int b2]))] sz)) (va_Qi (fun (r : Int32) (_ : Unit) => r = -4) (fun (u : Unit) t => va_P D vwCl ([(h, .inr (10, [.ref g, .ref df, .ref im, .ref pn, .ref w, .ref pa, .int b0, .int b1, .int (b2 + 1)]))]) t.heap ∧ va_D (va_A [(h, .inr (10, [.ref g, .ref df, .ref im, .ref pn, .ref w, .ref pa, .int b0, .int b1, .int b2]))] sz) ([(h, .inr (10, [.ref g, .ref df, .ref im, .ref pn, .ref w, .ref pa, .int b0, .int b1, .int (b2 + 1)]))])) (va_A [(h, .inr (10, [.ref g, .ref df, .ref im, .ref pn, .ref w, .ref pa, .int b0, .int b1, .int b2]))] sz)) 0 0 (va_A [(h, .inr (10, [.ref g, .ref df, .ref im, .ref pn, .ref w, .ref pa, .int b0, .int b1, .int b2]))] sz) := by
  refine Met.ofW (cc := cX10_refuseFull) (maxL := 1) (ret := (some .int)) (by decide) rfl ?_
  intro p e s m args below meth c s₁ B hml hv
  obtain ⟨rfl, hsz, hP, hKA, hD0⟩ := hv
  have hx := B.exec
  have hb := B.bytes
  have hr := B.returns
  have hts := atoms_spec (ws := wsX10_refuseFull) B.pre
  have hown : s.vm.findClass RX10 = some m.cls := findClass_of_methodNamed B.named
  have hlocks := B.notSynchronized
  subst hsz
  have hK := hKA.1
  have hD := hD0.self (sz := s.heap.size)
  generalize hAe : va_A [(h, .inr (10, [.ref g, .ref df, .ref im, .ref pn, .ref w, .ref pa, .int b0, .int b1, .int b2]))] s.heap.size = A at hD ⊢
  have hA : ∀ q : Nat, s.heap.size ≤ q → A q := fun q h => by rw [← hAe]; exact Or.inr h
  have hS : va_S A s.heap s.heap [] := va_S.rf
  have hP : va_P D vwCl [(h, .inr (10, [.ref g, .ref df, .ref im, .ref pn, .ref w, .ref pa, .int b0, .int b1, .int b2]))] s.heap := hP
  have hl := lv_entry ([.ref h]) (n := 1) (Nat.le_of_ble_eq_true rfl)
  rw [lg_entry_eq]
  generalize (lg_sl ([.ref h]) ++ List.replicate (1 - (lg_sl ([.ref h])).length) Slot.unset).toArray = ls at hl ⊢
  have hl : lv_has ls 1 [(0, .ref h)] := hl
  have z0_ := hts (.fieldLink RX10 210 "HeardSeen" "fulls" "I") (by decide +kernel)
  have zi10_ : ∀ w ∈ u_ws RX10 TX10 9, w ∈ wsX10_refuseFull := by decide +kernel
  refine lv_aload_n hx hb dX10_refuseFull_0 rfl (lv_at hl 0 rfl) ?_
  refine lv_dup hx hb dX10_refuseFull_1 rfl ?_
  refine va_get (D := D) (ci := 10) (v := .int b2) (C := RX10) (T := TX10) (N := 9) hx hb hts zi10_ hown hK hP 0 rfl rfl 8 (by decide) z0_ (fun _ h9 => h9) rfl dX10_refuseFull_2 ?_
  refine lv_iconst (v := 1) hx hb dX10_refuseFull_5 (by decide) ?_
  refine lv_iadd hx hb dX10_refuseFull_6 ?_
  refine va_put (D := D) (ci := 10) (v := .int (b2 + 1)) (ty := .int) (C := RX10) (T := TX10) (N := 9) hx hb hts zi10_ tyX10 tyX10_ok nmX10 hown hK hP hD hS 0 rfl rfl 8 (by decide) z0_ (fun _ h9 => h9) rfl (by decide +kernel) rfl rfl (Nat.le_of_ble_eq_true rfl) dX10_refuseFull_7 (fun H locs hP hD hS => ?_)
  have hP : va_P D vwCl [(h, .inr (10, [.ref g, .ref df, .ref im, .ref pn, .ref w, .ref pa, .int b0, .int b1, .int (b2 + 1)]))] H := hP
  have hD : va_D A [(h, .inr (10, [.ref g, .ref df, .ref im, .ref pn, .ref w, .ref pa, .int b0, .int b1, .int (b2 + 1)]))] := hD
  refine lv_bipush (v := (-4)) hx hb dX10_refuseFull_10 (by decide) ?_
  have hP9 := hP.sub (ws' := [(h, .inr (10, [.ref g, .ref df, .ref im, .ref pn, .ref w, .ref pa, .int b0, .int b1, .int (b2 + 1)]))]) [0] rfl
  have hD9 := hD.sub (ws' := [(h, .inr (10, [.ref g, .ref df, .ref im, .ref pn, .ref w, .ref pa, .int b0, .int b1, .int (b2 + 1)]))]) [0] (by decide) rfl
  exact W.iret (v := (-4)) hx hb hr (fun t ht hW => ⟨⟨(-4), (), rfl, rfl, by rw [ht]; exact hP9, hD9⟩, hS.F ht⟩) hS.2.2 dX10_refuseFull_12

set_option maxHeartbeats 4000000 in
set_option maxRecDepth 100000 in
theorem c0_isPairOfTwo (l : Launch) (D : va_G) (cy : Nat → ClassId) (h g df im pn w pa : Nat) (b0 b1 b2 : Int32) (k0 k1 k2 k3 k4 k5 k6 : Nat) (x y : Int32) (sz : Nat)  : Met l yX10_isPairOfTwo wsX10_isPairOfTwo ({ frames := 1, cells := 0, slots := 0, locals := 21 }) (va_Pc [.ref h, .int x, .int y] (kPre D cy [(h, .inr (10, [.ref g, .ref df, .ref im, .ref pn, .ref w, .ref pa, .int b0, .int b1, .int b2])), (g, .inr (3, [.int 6, .int 6, .int 1, .int 0, .long 0, .long 0, .int 0, .int 0, .int 0, .ref k0, .ref k1, .ref k2, .ref k3, .ref k4, .ref k5, .ref k6]))] sz)) (va_Qi (fun (r : Int32) (_ : Unit) => r = 0) (fun _ _ => True) (fun q : Nat => sz ≤ q)) 0 0 (fun q : Nat => sz ≤ q) := by
  refine Met.ofW (cc := cX10_isPairOfTwo) (maxL := 3) (ret := (some .boolean)) (by decide) rfl ?_
  intro p e s m args below meth c s₁ B hml hv
  obtain ⟨rfl, hsz, hP, hKA, hD0⟩ := hv
  have hx := B.exec
  have hb := B.bytes
  have hr := B.returns
  have hts := atoms_spec (ws := wsX10_isPairOfTwo) B.pre
  have hown : s.vm.findClass RX10 = some m.cls := findClass_of_methodNamed B.named
  have hlocks := B.notSynchronized
  subst hsz
  have hK := hKA.1
  have hD := hD0
  generalize hAe : (fun q : Nat => s.heap.size ≤ q) = A
  have hA : ∀ q : Nat, s.heap.size ≤ q → A q := fun q h => by rw [← hAe]; exact h
  have hS : va_S A s.heap s.heap [] := va_S.rf
  have hP : va_P D vwCl [(h, .inr (10, [.ref g, .ref df, .ref im, .ref pn, .ref w, .ref pa, .int b0, .int b1, .int b2])), (g, .inr (3, [.int 6, .int 6, .int 1, .int 0, .long 0, .long 0, .int 0, .int 0, .int 0, .ref k0, .ref k1, .ref k2, .ref k3, .ref k4, .ref k5, .ref k6]))] s.heap := hP
  have hl := lv_entry ([.ref h, .int x, .int y]) (n := 3) (Nat.le_of_ble_eq_true rfl)
  rw [lg_entry_eq]
  generalize (lg_sl ([.ref h, .int x, .int y]) ++ List.replicate (3 - (lg_sl ([.ref h, .int x, .int y])).length) Slot.unset).toArray = ls at hl ⊢
  have hl : lv_has ls 3 [(0, .ref h), (1, .int x), (2, .int y)] := hl
  have z0_ := hts (.fieldLink RX10 10 "HeardSeen" "now" "LHeardSeen$Garden;") (by decide +kernel)
  have zi10_ : ∀ w ∈ u_ws RX10 TX10 9, w ∈ wsX10_isPairOfTwo := by decide +kernel
  refine lv_aload_n hx hb dX10_isPairOfTwo_0 rfl (lv_at hl 0 rfl) ?_
  refine va_get (D := D) (ci := 10) (v := .ref g) (C := RX10) (T := TX10) (N := 9) hx hb hts zi10_ hown hK hP 0 rfl rfl 0 (by decide) z0_ (fun _ h9 => h9) rfl dX10_isPairOfTwo_1 ?_
  refine lv_iload_n hx hb dX10_isPairOfTwo_4 rfl (lv_at hl 1 rfl) ?_
  refine rd_i (va_runV (As := [.int x]) (rest := []) ⟨hx, hb, hml, hown, hts⟩ (c_X3_isPerson l D cy g 6 6 1 0 0 0 0 0 0 k0 k1 k2 k3 k4 k5 k6 x _) (cwV 1 hts gX10_isPairOfTwo_X3_isPerson rfl rfl rfl (by decide +kernel) ⟨Nat.le_of_ble_eq_true rfl, Nat.le_of_ble_eq_true rfl⟩) (pV (ci := 3) (k := 0) hKA (hP.sub (ws' := [(g, .inr (3, [.int 6, .int 6, .int 1, .int 0, .long 0, .long 0, .int 0, .int 0, .int 0, .ref k0, .ref k1, .ref k2, .ref k3, .ref k4, .ref k5, .ref k6]))]) [1] rfl) (hD.sub (ws' := [(g, .inr (3, [.int 6, .int 6, .int 1, .int 0, .long 0, .long 0, .int 0, .int 0, .int 0, .ref k0, .ref k1, .ref k2, .ref k3, .ref k4, .ref k5, .ref k6]))]) [1] (by decide) rfl) rfl rfl) rfl rfl hl.1 rfl (lv_room (Nat.le_of_ble_eq_true rfl)) dX10_isPairOfTwo_5 ⟨Nat.le_of_ble_eq_true rfl, Nat.le_of_ble_eq_true rfl⟩) hP hS hA (fun r1 H locs hwr1 hP hS => ?_)
  rcases hwr1 with ⟨rfl, har1, hbr1, hcr1⟩ | ⟨rfl, hnr1⟩
  · exact absurd har1 (Int32.not_le.mpr hbr1)
  · skip
    refine lv_if_eq (tgt := 31) hx hb dX10_isPairOfTwo_8 (by decide) (fun c2 => ?_) (fun c2 => absurd c2 (by decide))
    refine lv_iconst (v := 0) hx hb dX10_isPairOfTwo_31 (by decide) ?_
    exact W.zret (v := 0) hx hb hr rfl (fun t ht hW => ⟨⟨0, (), rfl, rfl, trivial⟩, hS.F ht⟩) hS.2.2 dX10_isPairOfTwo_32

set_option maxHeartbeats 4000000 in
set_option maxRecDepth 100000 in
theorem c0_isGroup (l : Launch) (D : va_G) (cy : Nat → ClassId) (h g df im pn w pa : Nat) (b0 b1 b2 : Int32) (k0 k1 k2 k3 k4 k5 k6 : Nat) (x : Int32) (sz : Nat)  : Met l yX10_isGroup wsX10_isGroup ({ frames := 1, cells := 0, slots := 0, locals := 22 }) (va_Pc [.ref h, .int x] (kPre D cy [(h, .inr (10, [.ref g, .ref df, .ref im, .ref pn, .ref w, .ref pa, .int b0, .int b1, .int b2])), (g, .inr (3, [.int 6, .int 6, .int 1, .int 0, .long 0, .long 0, .int 0, .int 0, .int 0, .ref k0, .ref k1, .ref k2, .ref k3, .ref k4, .ref k5, .ref k6]))] sz)) (va_Qi (fun (r : Int32) (_ : Unit) => (r = 1 ∧ 0 ≤ x ∧ x ≤ 0) ∨ (r = 0 ∧ ¬ (0 ≤ x ∧ x ≤ 0))) (fun _ _ => True) (fun q : Nat => sz ≤ q)) 0 0 (fun q : Nat => sz ≤ q) := by
  refine Met.ofW (cc := cX10_isGroup) (maxL := 2) (ret := (some .boolean)) (by decide) rfl ?_
  intro p e s m args below meth c s₁ B hml hv
  obtain ⟨rfl, hsz, hP, hKA, hD0⟩ := hv
  have hx := B.exec
  have hb := B.bytes
  have hr := B.returns
  have hts := atoms_spec (ws := wsX10_isGroup) B.pre
  have hown : s.vm.findClass RX10 = some m.cls := findClass_of_methodNamed B.named
  have hlocks := B.notSynchronized
  subst hsz
  have hK := hKA.1
  have hD := hD0
  generalize hAe : (fun q : Nat => s.heap.size ≤ q) = A
  have hA : ∀ q : Nat, s.heap.size ≤ q → A q := fun q h => by rw [← hAe]; exact h
  have hS : va_S A s.heap s.heap [] := va_S.rf
  have hP : va_P D vwCl [(h, .inr (10, [.ref g, .ref df, .ref im, .ref pn, .ref w, .ref pa, .int b0, .int b1, .int b2])), (g, .inr (3, [.int 6, .int 6, .int 1, .int 0, .long 0, .long 0, .int 0, .int 0, .int 0, .ref k0, .ref k1, .ref k2, .ref k3, .ref k4, .ref k5, .ref k6]))] s.heap := hP
  have hl := lv_entry ([.ref h, .int x]) (n := 2) (Nat.le_of_ble_eq_true rfl)
  rw [lg_entry_eq]
  generalize (lg_sl ([.ref h, .int x]) ++ List.replicate (2 - (lg_sl ([.ref h, .int x])).length) Slot.unset).toArray = ls at hl ⊢
  have hl : lv_has ls 2 [(0, .ref h), (1, .int x)] := hl
  have z0_ := hts (.fieldLink RX10 10 "HeardSeen" "now" "LHeardSeen$Garden;") (by decide +kernel)
  have zi10_ : ∀ w ∈ u_ws RX10 TX10 9, w ∈ wsX10_isGroup := by decide +kernel
  refine lv_iload_n hx hb dX10_isGroup_0 rfl (lv_at hl 1 rfl) ?_
  refine lv_iconst (v := 0) hx hb dX10_isGroup_1 (by decide) ?_
  refine lv_aload_n hx hb dX10_isGroup_2 rfl (lv_at hl 0 rfl) ?_
  refine va_get (D := D) (ci := 10) (v := .ref g) (C := RX10) (T := TX10) (N := 9) hx hb hts zi10_ hown hK hP 0 rfl rfl 0 (by decide) z0_ (fun _ h9 => h9) rfl dX10_isGroup_3 ?_
  refine rd_i (va_runV (As := []) (rest := [.int 0, .int x]) ⟨hx, hb, hml, hown, hts⟩ (c_X3_everybody l D cy g 6 6 1 0 0 0 0 0 0 k0 k1 k2 k3 k4 k5 k6 _) (cwV 0 hts gX10_isGroup_X3_everybody rfl rfl rfl (by decide +kernel) ⟨Nat.le_of_ble_eq_true rfl, Nat.le_of_ble_eq_true rfl⟩) (pV (ci := 3) (k := 0) hKA (hP.sub (ws' := [(g, .inr (3, [.int 6, .int 6, .int 1, .int 0, .long 0, .long 0, .int 0, .int 0, .int 0, .ref k0, .ref k1, .ref k2, .ref k3, .ref k4, .ref k5, .ref k6]))]) [1] rfl) (hD.sub (ws' := [(g, .inr (3, [.int 6, .int 6, .int 1, .int 0, .long 0, .long 0, .int 0, .int 0, .int 0, .ref k0, .ref k1, .ref k2, .ref k3, .ref k4, .ref k5, .ref k6]))]) [1] (by decide) rfl) rfl rfl) rfl rfl hl.1 rfl (lv_room (Nat.le_of_ble_eq_true rfl)) dX10_isGroup_6 ⟨Nat.le_of_ble_eq_true rfl, Nat.le_of_ble_eq_true rfl⟩) hP hS hA (fun r1 H locs hwr1 hP hS => ?_)
  obtain rfl : r1 = 0 := by rw [hwr1]; decide
  refine rd_i (va_runS (As := [.int x, .int 0, .int 0]) (rest := []) ⟨hx, hb, hml, hown, hts⟩ (c_X10_isWithin l D cy x 0 0 _) (va_cwS 3 hts gX10_isGroup_X10_isWithin rfl rfl rfl (by decide +kernel) ⟨Nat.le_of_ble_eq_true rfl, Nat.le_of_ble_eq_true rfl⟩) (pS hKA pE (dE (A := A))) rfl rfl hl.1 rfl (lv_room (Nat.le_of_ble_eq_true rfl)) dX10_isGroup_9 ⟨Nat.le_of_ble_eq_true rfl, Nat.le_of_ble_eq_true rfl⟩) hP hS hA (fun r2 H locs hwr2 hP hS => ?_)
  rcases hwr2 with ⟨rfl, har2, hbr2⟩ | ⟨rfl, hnr2⟩
  · skip
    exact W.zret (v := 1) hx hb hr rfl (fun t ht hW => ⟨⟨1, (), rfl, (by first | exact Or.inl ⟨rfl, by assumption, by assumption⟩ | exact Or.inr ⟨rfl, by assumption⟩), trivial⟩, hS.F ht⟩) hS.2.2 dX10_isGroup_12
  · skip
    exact W.zret (v := 0) hx hb hr rfl (fun t ht hW => ⟨⟨0, (), rfl, (by first | exact Or.inl ⟨rfl, by assumption, by assumption⟩ | exact Or.inr ⟨rfl, by assumption⟩), trivial⟩, hS.F ht⟩) hS.2.2 dX10_isGroup_12
