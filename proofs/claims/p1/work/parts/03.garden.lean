theorem dX10_isWithin_0 : decode cX10_isWithin 0 = .ok (.iload_n 0, 1) := by decide +kernel
theorem dX10_isWithin_1 : decode cX10_isWithin 1 = .ok (.iload_n 1, 1) := by decide +kernel
theorem dX10_isWithin_2 : decode cX10_isWithin 2 = .ok (.if_icmp .lt 12, 3) := by decide +kernel
theorem dX10_isWithin_14 : decode cX10_isWithin 14 = .ok (.iconst 0, 1) := by decide +kernel
theorem dX10_isWithin_15 : decode cX10_isWithin 15 = .ok (.ireturn, 1) := by decide +kernel
theorem dX10_isWithin_5 : decode cX10_isWithin 5 = .ok (.iload_n 0, 1) := by decide +kernel
theorem dX10_isWithin_6 : decode cX10_isWithin 6 = .ok (.iload_n 2, 1) := by decide +kernel
theorem dX10_isWithin_7 : decode cX10_isWithin 7 = .ok (.if_icmp .gt 7, 3) := by decide +kernel
theorem dX10_isWithin_10 : decode cX10_isWithin 10 = .ok (.iconst 1, 1) := by decide +kernel
theorem dX10_isWithin_11 : decode cX10_isWithin 11 = .ok (.goto 4, 3) := by decide +kernel
theorem dX10_isOn_0 : decode cX10_isOn 0 = .ok (.lload_n 0, 1) := by decide +kernel
theorem dX10_isOn_1 : decode cX10_isOn 1 = .ok (.iload_n 2, 1) := by decide +kernel
theorem dX10_isOn_2 : decode cX10_isOn 2 = .ok (.lshr, 1) := by decide +kernel
theorem dX10_isOn_3 : decode cX10_isOn 3 = .ok (.lconst 1, 1) := by decide +kernel
theorem dX10_isOn_4 : decode cX10_isOn 4 = .ok (.land, 1) := by decide +kernel
theorem dX10_isOn_5 : decode cX10_isOn 5 = .ok (.lconst 1, 1) := by decide +kernel
theorem dX10_isOn_6 : decode cX10_isOn 6 = .ok (.lcmp, 1) := by decide +kernel
theorem dX10_isOn_7 : decode cX10_isOn 7 = .ok (.ifCond .ne 7, 3) := by decide +kernel
theorem dX10_isOn_14 : decode cX10_isOn 14 = .ok (.iconst 0, 1) := by decide +kernel
theorem dX10_isOn_15 : decode cX10_isOn 15 = .ok (.ireturn, 1) := by decide +kernel
theorem dX10_isOn_10 : decode cX10_isOn 10 = .ok (.iconst 1, 1) := by decide +kernel
theorem dX10_isOn_11 : decode cX10_isOn 11 = .ok (.goto 4, 3) := by decide +kernel
theorem dX3_squareCount_0 : decode cX3_squareCount 0 = .ok (.aload_n 0, 1) := by decide +kernel
theorem dX3_squareCount_1 : decode cX3_squareCount 1 = .ok (.getfield 33, 3) := by decide +kernel
theorem dX3_squareCount_4 : decode cX3_squareCount 4 = .ok (.aload_n 0, 1) := by decide +kernel
theorem dX3_squareCount_5 : decode cX3_squareCount 5 = .ok (.getfield 37, 3) := by decide +kernel
theorem dX3_squareCount_8 : decode cX3_squareCount 8 = .ok (.imul, 1) := by decide +kernel
theorem dX3_squareCount_9 : decode cX3_squareCount 9 = .ok (.ireturn, 1) := by decide +kernel
theorem dX3_isSquare_0 : decode cX3_isSquare 0 = .ok (.iload_n 1, 1) := by decide +kernel
theorem dX3_isSquare_1 : decode cX3_isSquare 1 = .ok (.ifCond .lt 15, 3) := by decide +kernel
theorem dX3_isSquare_16 : decode cX3_isSquare 16 = .ok (.iconst 0, 1) := by decide +kernel
theorem dX3_isSquare_17 : decode cX3_isSquare 17 = .ok (.ireturn, 1) := by decide +kernel
theorem dX3_isSquare_4 : decode cX3_isSquare 4 = .ok (.iload_n 1, 1) := by decide +kernel
theorem dX3_isSquare_5 : decode cX3_isSquare 5 = .ok (.aload_n 0, 1) := by decide +kernel
set_option maxRecDepth 20000 in
theorem ggX3_isSquare_X3_squareCount : GoodIn wsX3_isSquare wsX3_squareCount := goodIn_r _ [5, 6, 7, 8, 9, 10, 11, 12, 13, 14, 15, 16, 17, 18, 19, 20, 21, 22, 23] (by decide +kernel) (by decide +kernel)
set_option maxRecDepth 20000 in
theorem gX3_isSquare_X3_squareCount : GoodIn wsX3_isSquare (wsV RX3 68 RX3 yX3_squareCount wsX3_squareCount) := goodIn_app (goodIn_of _ (by decide +kernel)) ggX3_isSquare_X3_squareCount
theorem dX3_isSquare_6 : decode cX3_isSquare 6 = .ok (.invokevirtual 68, 3) := by decide +kernel
theorem dX3_isSquare_9 : decode cX3_isSquare 9 = .ok (.if_icmp .ge 7, 3) := by decide +kernel
theorem dX3_isSquare_12 : decode cX3_isSquare 12 = .ok (.iconst 1, 1) := by decide +kernel
theorem dX3_isSquare_13 : decode cX3_isSquare 13 = .ok (.goto 4, 3) := by decide +kernel
theorem dX3_isPerson_0 : decode cX3_isPerson 0 = .ok (.iload_n 1, 1) := by decide +kernel
theorem dX3_isPerson_1 : decode cX3_isPerson 1 = .ok (.ifCond .lt 20, 3) := by decide +kernel
theorem dX3_isPerson_21 : decode cX3_isPerson 21 = .ok (.iconst 0, 1) := by decide +kernel
theorem dX3_isPerson_22 : decode cX3_isPerson 22 = .ok (.ireturn, 1) := by decide +kernel
theorem dX3_isPerson_4 : decode cX3_isPerson 4 = .ok (.iload_n 1, 1) := by decide +kernel
theorem dX3_isPerson_5 : decode cX3_isPerson 5 = .ok (.aload_n 0, 1) := by decide +kernel
theorem dX3_isPerson_6 : decode cX3_isPerson 6 = .ok (.getfield 53, 3) := by decide +kernel
theorem dX3_isPerson_9 : decode cX3_isPerson 9 = .ok (.if_icmp .ge 12, 3) := by decide +kernel
theorem dX3_isPerson_12 : decode cX3_isPerson 12 = .ok (.iload_n 1, 1) := by decide +kernel
theorem dX3_isPerson_13 : decode cX3_isPerson 13 = .ok (.iconst 5, 1) := by decide +kernel
theorem dX3_isPerson_14 : decode cX3_isPerson 14 = .ok (.if_icmp .ge 7, 3) := by decide +kernel
theorem dX3_isPerson_17 : decode cX3_isPerson 17 = .ok (.iconst 1, 1) := by decide +kernel
theorem dX3_isPerson_18 : decode cX3_isPerson 18 = .ok (.goto 4, 3) := by decide +kernel
theorem dX3_has_0 : decode cX3_has 0 = .ok (.iload_n 1, 1) := by decide +kernel
theorem dX3_has_1 : decode cX3_has 1 = .ok (.ifCond .ne 10, 3) := by decide +kernel
theorem dX3_has_11 : decode cX3_has 11 = .ok (.aload_n 0, 1) := by decide +kernel
theorem dX3_has_12 : decode cX3_has 12 = .ok (.getfield 50, 3) := by decide +kernel
theorem dX3_has_15 : decode cX3_has 15 = .ok (.iload_n 2, 1) := by decide +kernel
set_option maxRecDepth 20000 in
theorem ggX3_has_X10_isOn : GoodIn wsX3_has wsX10_isOn := goodIn_r _ [5] (by decide +kernel) (by decide +kernel)
set_option maxRecDepth 20000 in
theorem gX3_has_X10_isOn_n76 : GoodIn wsX3_has (wsX10_isOn) := ggX3_has_X10_isOn
theorem dX3_has_16 : decode cX3_has 16 = .ok (.invokestatic 76, 3) := by decide +kernel
theorem dX3_has_19 : decode cX3_has 19 = .ok (.ireturn, 1) := by decide +kernel
theorem dX3_has_4 : decode cX3_has 4 = .ok (.aload_n 0, 1) := by decide +kernel
theorem dX3_has_5 : decode cX3_has 5 = .ok (.getfield 46, 3) := by decide +kernel
theorem dX3_has_8 : decode cX3_has 8 = .ok (.goto 7, 3) := by decide +kernel
theorem dX3_layOut_0 : decode cX3_layOut 0 = .ok (.aload_n 0, 1) := by decide +kernel
theorem dX3_layOut_1 : decode cX3_layOut 1 = .ok (.iload_n 1, 1) := by decide +kernel
theorem dX3_layOut_2 : decode cX3_layOut 2 = .ok (.putfield 33, 3) := by decide +kernel
theorem dX3_layOut_5 : decode cX3_layOut 5 = .ok (.aload_n 0, 1) := by decide +kernel
theorem dX3_layOut_6 : decode cX3_layOut 6 = .ok (.iload_n 2, 1) := by decide +kernel
theorem dX3_layOut_7 : decode cX3_layOut 7 = .ok (.putfield 37, 3) := by decide +kernel
theorem dX3_layOut_10 : decode cX3_layOut 10 = .ok (.aload_n 0, 1) := by decide +kernel
theorem dX3_layOut_11 : decode cX3_layOut 11 = .ok (.iconst 1, 1) := by decide +kernel
theorem dX3_layOut_12 : decode cX3_layOut 12 = .ok (.putfield 40, 3) := by decide +kernel
theorem dX3_layOut_15 : decode cX3_layOut 15 = .ok (.aload_n 0, 1) := by decide +kernel
theorem dX3_layOut_16 : decode cX3_layOut 16 = .ok (.iconst 0, 1) := by decide +kernel
theorem dX3_layOut_17 : decode cX3_layOut 17 = .ok (.putfield 43, 3) := by decide +kernel
theorem dX3_layOut_20 : decode cX3_layOut 20 = .ok (.aload_n 0, 1) := by decide +kernel
theorem dX3_layOut_21 : decode cX3_layOut 21 = .ok (.lconst 0, 1) := by decide +kernel
theorem dX3_layOut_22 : decode cX3_layOut 22 = .ok (.putfield 46, 3) := by decide +kernel
theorem dX3_layOut_25 : decode cX3_layOut 25 = .ok (.aload_n 0, 1) := by decide +kernel
theorem dX3_layOut_26 : decode cX3_layOut 26 = .ok (.lconst 0, 1) := by decide +kernel
theorem dX3_layOut_27 : decode cX3_layOut 27 = .ok (.putfield 50, 3) := by decide +kernel
theorem dX3_layOut_30 : decode cX3_layOut 30 = .ok (.aload_n 0, 1) := by decide +kernel
theorem dX3_layOut_31 : decode cX3_layOut 31 = .ok (.iconst 0, 1) := by decide +kernel
theorem dX3_layOut_32 : decode cX3_layOut 32 = .ok (.putfield 53, 3) := by decide +kernel
theorem dX3_layOut_35 : decode cX3_layOut 35 = .ok (.aload_n 0, 1) := by decide +kernel
theorem dX3_layOut_36 : decode cX3_layOut 36 = .ok (.iconst 0, 1) := by decide +kernel
theorem dX3_layOut_37 : decode cX3_layOut 37 = .ok (.putfield 56, 3) := by decide +kernel
theorem dX3_layOut_40 : decode cX3_layOut 40 = .ok (.aload_n 0, 1) := by decide +kernel
theorem dX3_layOut_41 : decode cX3_layOut 41 = .ok (.iconst 0, 1) := by decide +kernel
theorem dX3_layOut_42 : decode cX3_layOut 42 = .ok (.putfield 59, 3) := by decide +kernel
theorem dX3_layOut_45 : decode cX3_layOut 45 = .ok (.return_, 1) := by decide +kernel
set_option maxHeartbeats 4000000 in
set_option maxRecDepth 100000 in
theorem c_X10_isWithin (l : Launch) (D : va_G) (cy : Nat → ClassId) (v lo hi : Int32) (sz : Nat)  : Met l yX10_isWithin wsX10_isWithin ({ frames := 0, cells := 0, slots := 0, locals := 0 }) (va_Pc [.int v, .int lo, .int hi] (kPre D cy [] sz)) (va_Qi (fun (r : Int32) (_ : Unit) => (r = 1 ∧ lo ≤ v ∧ v ≤ hi) ∨ (r = 0 ∧ ¬ (lo ≤ v ∧ v ≤ hi))) (fun _ _ => True) (fun q : Nat => sz ≤ q)) 0 0 (fun q : Nat => sz ≤ q) := by
  refine Met.ofW (cc := cX10_isWithin) (maxL := 3) (ret := (some .boolean)) (by decide) rfl ?_
  intro p e s m args below meth c s₁ B hml hv
  obtain ⟨rfl, hsz, hP, hKA, hD0⟩ := hv
  have hx := B.exec
  have hb := B.bytes
  have hr := B.returns
  have hts := atoms_spec (ws := wsX10_isWithin) B.pre
  have hown : s.vm.findClass RX10 = some m.cls := findClass_of_methodNamed B.named
  have hlocks := B.notSynchronized
  subst hsz
  have hK := hKA.1
  have hD := hD0
  generalize hAe : (fun q : Nat => s.heap.size ≤ q) = A
  have hA : ∀ q : Nat, s.heap.size ≤ q → A q := fun q h => by rw [← hAe]; exact h
  have hS : va_S A s.heap s.heap [] := va_S.rf
  have hP : va_P D vwCl [] s.heap := hP
  have hl := lv_entry ([.int v, .int lo, .int hi]) (n := 3) (Nat.le_of_ble_eq_true rfl)
  rw [lg_entry_eq]
  generalize (lg_sl ([.int v, .int lo, .int hi]) ++ List.replicate (3 - (lg_sl ([.int v, .int lo, .int hi])).length) Slot.unset).toArray = ls at hl ⊢
  have hl : lv_has ls 3 [(0, .int v), (1, .int lo), (2, .int hi)] := hl
  refine lv_iload_n hx hb dX10_isWithin_0 rfl (lv_at hl 0 rfl) ?_
  refine lv_iload_n hx hb dX10_isWithin_1 rfl (lv_at hl 1 rfl) ?_
  refine lv_icmp_lt (tgt := 14) hx hb dX10_isWithin_2 (by decide) (fun c1 => ?_) (fun c1 => ?_)
  · skip
    refine lv_iconst (v := 0) hx hb dX10_isWithin_14 (by decide) ?_
    exact W.zret (v := 0) hx hb hr rfl (fun t ht hW => ⟨⟨0, (), rfl, (by first | exact Or.inl ⟨rfl, Int32.not_lt.mp (by assumption), Int32.not_lt.mp (by assumption)⟩ | exact Or.inr ⟨rfl, by simp only [z_lt, z_le] at *; omega⟩), trivial⟩, hS.F ht⟩) hS.2.2 dX10_isWithin_15
  · skip
    refine lv_iload_n hx hb dX10_isWithin_5 rfl (lv_at hl 0 rfl) ?_
    refine lv_iload_n hx hb dX10_isWithin_6 rfl (lv_at hl 2 rfl) ?_
    refine lv_icmp_gt (tgt := 14) hx hb dX10_isWithin_7 (by decide) (fun c2 => ?_) (fun c2 => ?_)
    · skip
      refine lv_iconst (v := 0) hx hb dX10_isWithin_14 (by decide) ?_
      exact W.zret (v := 0) hx hb hr rfl (fun t ht hW => ⟨⟨0, (), rfl, (by first | exact Or.inl ⟨rfl, Int32.not_lt.mp (by assumption), Int32.not_lt.mp (by assumption)⟩ | exact Or.inr ⟨rfl, by simp only [z_lt, z_le] at *; omega⟩), trivial⟩, hS.F ht⟩) hS.2.2 dX10_isWithin_15
    · skip
      refine lv_iconst (v := 1) hx hb dX10_isWithin_10 (by decide) ?_
      refine lv_goto (tgt := 15) hx hb dX10_isWithin_11 (by decide) ?_
      exact W.zret (v := 1) hx hb hr rfl (fun t ht hW => ⟨⟨1, (), rfl, (by first | exact Or.inl ⟨rfl, Int32.not_lt.mp (by assumption), Int32.not_lt.mp (by assumption)⟩ | exact Or.inr ⟨rfl, by simp only [z_lt, z_le] at *; omega⟩), trivial⟩, hS.F ht⟩) hS.2.2 dX10_isWithin_15

set_option maxHeartbeats 4000000 in
set_option maxRecDepth 100000 in
theorem c_X10_isOn (l : Launch) (D : va_G) (cy : Nat → ClassId) (x : Int64) (q : Int32) (sz : Nat)  : Met l yX10_isOn wsX10_isOn ({ frames := 0, cells := 0, slots := 0, locals := 0 }) (va_Pc [.long x, .int q] (kPre D cy [] sz)) (va_Qi (fun (r : Int32) (_ : Unit) => (r = 1 ∧ x >>> (q.toInt64 &&& 63) &&& 1 = 1) ∨ (r = 0 ∧ ¬ x >>> (q.toInt64 &&& 63) &&& 1 = 1)) (fun _ _ => True) (fun q : Nat => sz ≤ q)) 0 0 (fun q : Nat => sz ≤ q) := by
  refine Met.ofW (cc := cX10_isOn) (maxL := 3) (ret := (some .boolean)) (by decide) rfl ?_
  intro p e s m args below meth c s₁ B hml hv
  obtain ⟨rfl, hsz, hP, hKA, hD0⟩ := hv
  have hx := B.exec
  have hb := B.bytes
  have hr := B.returns
  have hts := atoms_spec (ws := wsX10_isOn) B.pre
  have hown : s.vm.findClass RX10 = some m.cls := findClass_of_methodNamed B.named
  have hlocks := B.notSynchronized
  subst hsz
  have hK := hKA.1
  have hD := hD0
  generalize hAe : (fun q : Nat => s.heap.size ≤ q) = A
  have hA : ∀ q : Nat, s.heap.size ≤ q → A q := fun q h => by rw [← hAe]; exact h
  have hS : va_S A s.heap s.heap [] := va_S.rf
  have hP : va_P D vwCl [] s.heap := hP
  have hl := lv_entry ([.long x, .int q]) (n := 3) (Nat.le_of_ble_eq_true rfl)
  rw [lg_entry_eq]
  generalize (lg_sl ([.long x, .int q]) ++ List.replicate (3 - (lg_sl ([.long x, .int q])).length) Slot.unset).toArray = ls at hl ⊢
  have hl : lv_has ls 3 [(0, .long x), (2, .int q)] := hl
  refine lv_lload_n hx hb dX10_isOn_0 rfl (lv_at hl 0 rfl) ?_
  refine lv_iload_n hx hb dX10_isOn_1 rfl (lv_at hl 1 rfl) ?_
  refine lv_lshr hx hb dX10_isOn_2 rfl ?_
  refine lv_lconst (v := 1) hx hb dX10_isOn_3 (by decide) ?_
  refine lv_land hx hb dX10_isOn_4 ?_
  refine lv_lconst (v := 1) hx hb dX10_isOn_5 (by decide) ?_
  refine W.lcmp hx hb dX10_isOn_6 ?_
  refine lv_if_ne (tgt := 14) hx hb dX10_isOn_7 (by decide) (fun c1 => ?_) (fun c1 => ?_)
  · skip
    refine lv_iconst (v := 0) hx hb dX10_isOn_14 (by decide) ?_
    exact W.zret (v := 0) hx hb hr rfl (fun t ht hW => ⟨⟨0, (), rfl, (by first | exact Or.inl ⟨rfl, (lg_cmp_eq _ _).mp (by assumption)⟩ | exact Or.inr ⟨rfl, fun q => absurd ((lg_cmp_eq _ _).mpr q) (by assumption)⟩), trivial⟩, hS.F ht⟩) hS.2.2 dX10_isOn_15
  · skip
    refine lv_iconst (v := 1) hx hb dX10_isOn_10 (by decide) ?_
    refine lv_goto (tgt := 15) hx hb dX10_isOn_11 (by decide) ?_
    exact W.zret (v := 1) hx hb hr rfl (fun t ht hW => ⟨⟨1, (), rfl, (by first | exact Or.inl ⟨rfl, (lg_cmp_eq _ _).mp (by assumption)⟩ | exact Or.inr ⟨rfl, fun q => absurd ((lg_cmp_eq _ _).mpr q) (by assumption)⟩), trivial⟩, hS.F ht⟩) hS.2.2 dX10_isOn_15

set_option maxHeartbeats 4000000 in
set_option maxRecDepth 100000 in
theorem c_X3_squareCount (l : Launch) (D : va_G) (cy : Nat → ClassId) (g : Nat) (wd hi dr wi : Int32) (he fo : Int64) (pe te re : Int32) (k0 k1 k2 k3 k4 k5 k6 : Nat) (sz : Nat)  : Met l yX3_squareCount wsX3_squareCount ({ frames := 0, cells := 0, slots := 0, locals := 0 }) (va_Pc [.ref g] (kPre D cy [(g, .inr (3, [.int wd, .int hi, .int dr, .int wi, .long he, .long fo, .int pe, .int te, .int re, .ref k0, .ref k1, .ref k2, .ref k3, .ref k4, .ref k5, .ref k6]))] sz)) (va_Qi (fun (r : Int32) (_ : Unit) => r = wd * hi) (fun _ _ => True) (fun q : Nat => sz ≤ q)) 0 0 (fun q : Nat => sz ≤ q) := by
  refine Met.ofW (cc := cX3_squareCount) (maxL := 1) (ret := (some .int)) (by decide) rfl ?_
  intro p e s m args below meth c s₁ B hml hv
  obtain ⟨rfl, hsz, hP, hKA, hD0⟩ := hv
  have hx := B.exec
  have hb := B.bytes
  have hr := B.returns
  have hts := atoms_spec (ws := wsX3_squareCount) B.pre
  have hown : s.vm.findClass RX3 = some m.cls := findClass_of_methodNamed B.named
  have hlocks := B.notSynchronized
  subst hsz
  have hK := hKA.1
  have hD := hD0
  generalize hAe : (fun q : Nat => s.heap.size ≤ q) = A
  have hA : ∀ q : Nat, s.heap.size ≤ q → A q := fun q h => by rw [← hAe]; exact h
  have hS : va_S A s.heap s.heap [] := va_S.rf
  have hP : va_P D vwCl [(g, .inr (3, [.int wd, .int hi, .int dr, .int wi, .long he, .long fo, .int pe, .int te, .int re, .ref k0, .ref k1, .ref k2, .ref k3, .ref k4, .ref k5, .ref k6]))] s.heap := hP
  have hl := lv_entry ([.ref g]) (n := 1) (Nat.le_of_ble_eq_true rfl)
  rw [lg_entry_eq]
  generalize (lg_sl ([.ref g]) ++ List.replicate (1 - (lg_sl ([.ref g])).length) Slot.unset).toArray = ls at hl ⊢
  have hl : lv_has ls 1 [(0, .ref g)] := hl
  have z0_ := hts (.fieldLink RX3 33 "HeardSeen$Garden" "wide" "I") (by decide +kernel)
  have zi3_ : ∀ w ∈ u_ws RX3 TX3 16, w ∈ wsX3_squareCount := by decide +kernel
  have z2_ := hts (.fieldLink RX3 37 "HeardSeen$Garden" "high" "I") (by decide +kernel)
  refine lv_aload_n hx hb dX3_squareCount_0 rfl (lv_at hl 0 rfl) ?_
  refine va_get (D := D) (ci := 3) (v := .int wd) (C := RX3) (T := TX3) (N := 16) hx hb hts zi3_ hown hK hP 0 rfl rfl 0 (by decide) z0_ (fun _ h9 => h9) rfl dX3_squareCount_1 ?_
  refine lv_aload_n hx hb dX3_squareCount_4 rfl (lv_at hl 0 rfl) ?_
  refine va_get (D := D) (ci := 3) (v := .int hi) (C := RX3) (T := TX3) (N := 16) hx hb hts zi3_ hown hK hP 0 rfl rfl 1 (by decide) z2_ (fun _ h9 => h9) rfl dX3_squareCount_5 ?_
  refine lv_imul hx hb dX3_squareCount_8 ?_
  exact W.iret (v := wd * hi) hx hb hr (fun t ht hW => ⟨⟨wd * hi, (), rfl, rfl, trivial⟩, hS.F ht⟩) hS.2.2 dX3_squareCount_9

set_option maxHeartbeats 4000000 in
set_option maxRecDepth 100000 in
theorem c_X3_isSquare (l : Launch) (D : va_G) (cy : Nat → ClassId) (g : Nat) (wd hi dr wi : Int32) (he fo : Int64) (pe te re : Int32) (k0 k1 k2 k3 k4 k5 k6 : Nat) (q : Int32) (sz : Nat)  : Met l yX3_isSquare wsX3_isSquare ({ frames := 1, cells := 0, slots := 0, locals := 20 }) (va_Pc [.ref g, .int q] (kPre D cy [(g, .inr (3, [.int wd, .int hi, .int dr, .int wi, .long he, .long fo, .int pe, .int te, .int re, .ref k0, .ref k1, .ref k2, .ref k3, .ref k4, .ref k5, .ref k6]))] sz)) (va_Qi (fun (r : Int32) (_ : Unit) => (r = 1 ∧ 0 ≤ q ∧ q < wd * hi) ∨ (r = 0 ∧ ¬ (0 ≤ q ∧ q < wd * hi))) (fun _ _ => True) (fun q : Nat => sz ≤ q)) 0 0 (fun q : Nat => sz ≤ q) := by
  refine Met.ofW (cc := cX3_isSquare) (maxL := 2) (ret := (some .boolean)) (by decide) rfl ?_
  intro p e s m args below meth c s₁ B hml hv
  obtain ⟨rfl, hsz, hP, hKA, hD0⟩ := hv
  have hx := B.exec
  have hb := B.bytes
  have hr := B.returns
  have hts := atoms_spec (ws := wsX3_isSquare) B.pre
  have hown : s.vm.findClass RX3 = some m.cls := findClass_of_methodNamed B.named
  have hlocks := B.notSynchronized
  subst hsz
  have hK := hKA.1
  have hD := hD0
  generalize hAe : (fun q : Nat => s.heap.size ≤ q) = A
  have hA : ∀ q : Nat, s.heap.size ≤ q → A q := fun q h => by rw [← hAe]; exact h
  have hS : va_S A s.heap s.heap [] := va_S.rf
  have hP : va_P D vwCl [(g, .inr (3, [.int wd, .int hi, .int dr, .int wi, .long he, .long fo, .int pe, .int te, .int re, .ref k0, .ref k1, .ref k2, .ref k3, .ref k4, .ref k5, .ref k6]))] s.heap := hP
  have hl := lv_entry ([.ref g, .int q]) (n := 2) (Nat.le_of_ble_eq_true rfl)
  rw [lg_entry_eq]
  generalize (lg_sl ([.ref g, .int q]) ++ List.replicate (2 - (lg_sl ([.ref g, .int q])).length) Slot.unset).toArray = ls at hl ⊢
  have hl : lv_has ls 2 [(0, .ref g), (1, .int q)] := hl
  refine lv_iload_n hx hb dX3_isSquare_0 rfl (lv_at hl 1 rfl) ?_
  refine lv_if_lt (tgt := 16) hx hb dX3_isSquare_1 (by decide) (fun c1 => ?_) (fun c1 => ?_)
  · skip
    refine lv_iconst (v := 0) hx hb dX3_isSquare_16 (by decide) ?_
    exact W.zret (v := 0) hx hb hr rfl (fun t ht hW => ⟨⟨0, (), rfl, (by first | exact Or.inl ⟨rfl, Int32.not_lt.mp (by assumption), Int32.not_le.mp (by assumption)⟩ | exact Or.inr ⟨rfl, fun q => absurd q.1 (Int32.not_le.mpr (by assumption))⟩ | exact Or.inr ⟨rfl, fun q => absurd q.2 (Int32.not_lt.mpr (by assumption))⟩), trivial⟩, hS.F ht⟩) hS.2.2 dX3_isSquare_17
  · skip
    refine lv_iload_n hx hb dX3_isSquare_4 rfl (lv_at hl 1 rfl) ?_
    refine lv_aload_n hx hb dX3_isSquare_5 rfl (lv_at hl 0 rfl) ?_
    refine rd_i (va_runV (As := []) (rest := [.int q]) ⟨hx, hb, hml, hown, hts⟩ (c_X3_squareCount l D cy g wd hi dr wi he fo pe te re k0 k1 k2 k3 k4 k5 k6 _) (cwV 0 hts gX3_isSquare_X3_squareCount rfl rfl rfl (by decide +kernel) ⟨Nat.le_of_ble_eq_true rfl, Nat.le_of_ble_eq_true rfl⟩) (pV (ci := 3) (k := 0) hKA (hP.sub (ws' := [(g, .inr (3, [.int wd, .int hi, .int dr, .int wi, .long he, .long fo, .int pe, .int te, .int re, .ref k0, .ref k1, .ref k2, .ref k3, .ref k4, .ref k5, .ref k6]))]) [0] rfl) (hD.sub (ws' := [(g, .inr (3, [.int wd, .int hi, .int dr, .int wi, .long he, .long fo, .int pe, .int te, .int re, .ref k0, .ref k1, .ref k2, .ref k3, .ref k4, .ref k5, .ref k6]))]) [0] (by decide) rfl) rfl rfl) rfl rfl hl.1 rfl (lv_room (Nat.le_of_ble_eq_true rfl)) dX3_isSquare_6 ⟨Nat.le_of_ble_eq_true rfl, Nat.le_of_ble_eq_true rfl⟩) hP hS hA (fun r2 H locs hwr2 hP hS => ?_)
    subst hwr2
    refine lv_icmp_ge (tgt := 16) hx hb dX3_isSquare_9 (by decide) (fun c3 => ?_) (fun c3 => ?_)
    · skip
      refine lv_iconst (v := 0) hx hb dX3_isSquare_16 (by decide) ?_
      exact W.zret (v := 0) hx hb hr rfl (fun t ht hW => ⟨⟨0, (), rfl, (by first | exact Or.inl ⟨rfl, Int32.not_lt.mp (by assumption), Int32.not_le.mp (by assumption)⟩ | exact Or.inr ⟨rfl, fun q => absurd q.1 (Int32.not_le.mpr (by assumption))⟩ | exact Or.inr ⟨rfl, fun q => absurd q.2 (Int32.not_lt.mpr (by assumption))⟩), trivial⟩, hS.F ht⟩) hS.2.2 dX3_isSquare_17
    · skip
      refine lv_iconst (v := 1) hx hb dX3_isSquare_12 (by decide) ?_
      refine lv_goto (tgt := 17) hx hb dX3_isSquare_13 (by decide) ?_
      exact W.zret (v := 1) hx hb hr rfl (fun t ht hW => ⟨⟨1, (), rfl, (by first | exact Or.inl ⟨rfl, Int32.not_lt.mp (by assumption), Int32.not_le.mp (by assumption)⟩ | exact Or.inr ⟨rfl, fun q => absurd q.1 (Int32.not_le.mpr (by assumption))⟩ | exact Or.inr ⟨rfl, fun q => absurd q.2 (Int32.not_lt.mpr (by assumption))⟩), trivial⟩, hS.F ht⟩) hS.2.2 dX3_isSquare_17

set_option maxHeartbeats 4000000 in
set_option maxRecDepth 100000 in
theorem c_X3_isPerson (l : Launch) (D : va_G) (cy : Nat → ClassId) (g : Nat) (wd hi dr wi : Int32) (he fo : Int64) (pe te re : Int32) (k0 k1 k2 k3 k4 k5 k6 : Nat) (q : Int32) (sz : Nat)  : Met l yX3_isPerson wsX3_isPerson ({ frames := 0, cells := 0, slots := 0, locals := 0 }) (va_Pc [.ref g, .int q] (kPre D cy [(g, .inr (3, [.int wd, .int hi, .int dr, .int wi, .long he, .long fo, .int pe, .int te, .int re, .ref k0, .ref k1, .ref k2, .ref k3, .ref k4, .ref k5, .ref k6]))] sz)) (va_Qi (fun (r : Int32) (_ : Unit) => (r = 1 ∧ 0 ≤ q ∧ q < pe ∧ q < 5) ∨ (r = 0 ∧ ¬ (0 ≤ q ∧ q < pe ∧ q < 5))) (fun _ _ => True) (fun q : Nat => sz ≤ q)) 0 0 (fun q : Nat => sz ≤ q) := by
  refine Met.ofW (cc := cX3_isPerson) (maxL := 2) (ret := (some .boolean)) (by decide) rfl ?_
  intro p e s m args below meth c s₁ B hml hv
  obtain ⟨rfl, hsz, hP, hKA, hD0⟩ := hv
  have hx := B.exec
  have hb := B.bytes
  have hr := B.returns
  have hts := atoms_spec (ws := wsX3_isPerson) B.pre
  have hown : s.vm.findClass RX3 = some m.cls := findClass_of_methodNamed B.named
  have hlocks := B.notSynchronized
  subst hsz
  have hK := hKA.1
  have hD := hD0
  generalize hAe : (fun q : Nat => s.heap.size ≤ q) = A
  have hA : ∀ q : Nat, s.heap.size ≤ q → A q := fun q h => by rw [← hAe]; exact h
  have hS : va_S A s.heap s.heap [] := va_S.rf
  have hP : va_P D vwCl [(g, .inr (3, [.int wd, .int hi, .int dr, .int wi, .long he, .long fo, .int pe, .int te, .int re, .ref k0, .ref k1, .ref k2, .ref k3, .ref k4, .ref k5, .ref k6]))] s.heap := hP
  have hl := lv_entry ([.ref g, .int q]) (n := 2) (Nat.le_of_ble_eq_true rfl)
  rw [lg_entry_eq]
  generalize (lg_sl ([.ref g, .int q]) ++ List.replicate (2 - (lg_sl ([.ref g, .int q])).length) Slot.unset).toArray = ls at hl ⊢
  have hl : lv_has ls 2 [(0, .ref g), (1, .int q)] := hl
  have z0_ := hts (.fieldLink RX3 53 "HeardSeen$Garden" "people" "I") (by decide +kernel)
  have zi3_ : ∀ w ∈ u_ws RX3 TX3 16, w ∈ wsX3_isPerson := by decide +kernel
  refine lv_iload_n hx hb dX3_isPerson_0 rfl (lv_at hl 1 rfl) ?_
  refine lv_if_lt (tgt := 21) hx hb dX3_isPerson_1 (by decide) (fun c1 => ?_) (fun c1 => ?_)
  · skip
    refine lv_iconst (v := 0) hx hb dX3_isPerson_21 (by decide) ?_
    exact W.zret (v := 0) hx hb hr rfl (fun t ht hW => ⟨⟨0, (), rfl, (by first | exact Or.inl ⟨rfl, Int32.not_lt.mp (by assumption), Int32.not_le.mp (by assumption), Int32.not_le.mp (by assumption)⟩ | exact Or.inr ⟨rfl, fun q => absurd q.1 (Int32.not_le.mpr (by assumption))⟩ | exact Or.inr ⟨rfl, fun q => absurd q.2.1 (Int32.not_lt.mpr (by assumption))⟩ | exact Or.inr ⟨rfl, fun q => absurd q.2.2 (Int32.not_lt.mpr (by assumption))⟩), trivial⟩, hS.F ht⟩) hS.2.2 dX3_isPerson_22
  · skip
    refine lv_iload_n hx hb dX3_isPerson_4 rfl (lv_at hl 1 rfl) ?_
    refine lv_aload_n hx hb dX3_isPerson_5 rfl (lv_at hl 0 rfl) ?_
    refine va_get (D := D) (ci := 3) (v := .int pe) (C := RX3) (T := TX3) (N := 16) hx hb hts zi3_ hown hK hP 0 rfl rfl 6 (by decide) z0_ (fun _ h9 => h9) rfl dX3_isPerson_6 ?_
    refine lv_icmp_ge (tgt := 21) hx hb dX3_isPerson_9 (by decide) (fun c2 => ?_) (fun c2 => ?_)
    · skip
      refine lv_iconst (v := 0) hx hb dX3_isPerson_21 (by decide) ?_
      exact W.zret (v := 0) hx hb hr rfl (fun t ht hW => ⟨⟨0, (), rfl, (by first | exact Or.inl ⟨rfl, Int32.not_lt.mp (by assumption), Int32.not_le.mp (by assumption), Int32.not_le.mp (by assumption)⟩ | exact Or.inr ⟨rfl, fun q => absurd q.1 (Int32.not_le.mpr (by assumption))⟩ | exact Or.inr ⟨rfl, fun q => absurd q.2.1 (Int32.not_lt.mpr (by assumption))⟩ | exact Or.inr ⟨rfl, fun q => absurd q.2.2 (Int32.not_lt.mpr (by assumption))⟩), trivial⟩, hS.F ht⟩) hS.2.2 dX3_isPerson_22
    · skip
      refine lv_iload_n hx hb dX3_isPerson_12 rfl (lv_at hl 1 rfl) ?_
      refine lv_iconst (v := 5) hx hb dX3_isPerson_13 (by decide) ?_
      refine lv_icmp_ge (tgt := 21) hx hb dX3_isPerson_14 (by decide) (fun c3 => ?_) (fun c3 => ?_)
      · skip
        refine lv_iconst (v := 0) hx hb dX3_isPerson_21 (by decide) ?_
        exact W.zret (v := 0) hx hb hr rfl (fun t ht hW => ⟨⟨0, (), rfl, (by first | exact Or.inl ⟨rfl, Int32.not_lt.mp (by assumption), Int32.not_le.mp (by assumption), Int32.not_le.mp (by assumption)⟩ | exact Or.inr ⟨rfl, fun q => absurd q.1 (Int32.not_le.mpr (by assumption))⟩ | exact Or.inr ⟨rfl, fun q => absurd q.2.1 (Int32.not_lt.mpr (by assumption))⟩ | exact Or.inr ⟨rfl, fun q => absurd q.2.2 (Int32.not_lt.mpr (by assumption))⟩), trivial⟩, hS.F ht⟩) hS.2.2 dX3_isPerson_22
      · skip
        refine lv_iconst (v := 1) hx hb dX3_isPerson_17 (by decide) ?_
        refine lv_goto (tgt := 22) hx hb dX3_isPerson_18 (by decide) ?_
        exact W.zret (v := 1) hx hb hr rfl (fun t ht hW => ⟨⟨1, (), rfl, (by first | exact Or.inl ⟨rfl, Int32.not_lt.mp (by assumption), Int32.not_le.mp (by assumption), Int32.not_le.mp (by assumption)⟩ | exact Or.inr ⟨rfl, fun q => absurd q.1 (Int32.not_le.mpr (by assumption))⟩ | exact Or.inr ⟨rfl, fun q => absurd q.2.1 (Int32.not_lt.mpr (by assumption))⟩ | exact Or.inr ⟨rfl, fun q => absurd q.2.2 (Int32.not_lt.mpr (by assumption))⟩), trivial⟩, hS.F ht⟩) hS.2.2 dX3_isPerson_22

set_option maxHeartbeats 4000000 in
set_option maxRecDepth 100000 in
theorem c_X3_has (l : Launch) (D : va_G) (cy : Nat → ClassId) (g : Nat) (wd hi dr wi : Int32) (he fo : Int64) (pe te re : Int32) (k0 k1 k2 k3 k4 k5 k6 : Nat) (what q : Int32) (sz : Nat)  : Met l yX3_has wsX3_has ({ frames := 1, cells := 0, slots := 0, locals := 22 }) (va_Pc [.ref g, .int what, .int q] (kPre D cy [(g, .inr (3, [.int wd, .int hi, .int dr, .int wi, .long he, .long fo, .int pe, .int te, .int re, .ref k0, .ref k1, .ref k2, .ref k3, .ref k4, .ref k5, .ref k6]))] sz)) (va_Qi (fun (r : Int32) (_ : Unit) => (r = 1 ∧ (if what = 0 then he else fo) >>> (q.toInt64 &&& 63) &&& 1 = 1) ∨ (r = 0 ∧ ¬ (if what = 0 then he else fo) >>> (q.toInt64 &&& 63) &&& 1 = 1)) (fun _ _ => True) (fun q : Nat => sz ≤ q)) 0 0 (fun q : Nat => sz ≤ q) := by
  refine Met.ofW (cc := cX3_has) (maxL := 3) (ret := (some .boolean)) (by decide) rfl ?_
  intro p e s m args below meth c s₁ B hml hv
  obtain ⟨rfl, hsz, hP, hKA, hD0⟩ := hv
  have hx := B.exec
  have hb := B.bytes
  have hr := B.returns
  have hts := atoms_spec (ws := wsX3_has) B.pre
  have hown : s.vm.findClass RX3 = some m.cls := findClass_of_methodNamed B.named
  have hlocks := B.notSynchronized
  subst hsz
  have hK := hKA.1
  have hD := hD0
  generalize hAe : (fun q : Nat => s.heap.size ≤ q) = A
  have hA : ∀ q : Nat, s.heap.size ≤ q → A q := fun q h => by rw [← hAe]; exact h
  have hS : va_S A s.heap s.heap [] := va_S.rf
  have hP : va_P D vwCl [(g, .inr (3, [.int wd, .int hi, .int dr, .int wi, .long he, .long fo, .int pe, .int te, .int re, .ref k0, .ref k1, .ref k2, .ref k3, .ref k4, .ref k5, .ref k6]))] s.heap := hP
  have hl := lv_entry ([.ref g, .int what, .int q]) (n := 3) (Nat.le_of_ble_eq_true rfl)
  rw [lg_entry_eq]
  generalize (lg_sl ([.ref g, .int what, .int q]) ++ List.replicate (3 - (lg_sl ([.ref g, .int what, .int q])).length) Slot.unset).toArray = ls at hl ⊢
  have hl : lv_has ls 3 [(0, .ref g), (1, .int what), (2, .int q)] := hl
  have z0_ := hts (.fieldLink RX3 50 "HeardSeen$Garden" "fountains" "J") (by decide +kernel)
  have zi3_ : ∀ w ∈ u_ws RX3 TX3 16, w ∈ wsX3_has := by decide +kernel
  have z2_ := hts (.initialized RX10) (by decide +kernel)
  have z3_ := hts (.static yX10_isOn) (by decide +kernel)
  have z4_ := hts (.fieldLink RX3 46 "HeardSeen$Garden" "hedges" "J") (by decide +kernel)
  refine lv_iload_n hx hb dX3_has_0 rfl (lv_at hl 1 rfl) ?_
  refine lv_if_ne (tgt := 11) hx hb dX3_has_1 (by decide) (fun c1 => ?_) (fun c1 => ?_)
  · skip
    refine lv_aload_n hx hb dX3_has_11 rfl (lv_at hl 0 rfl) ?_
    refine va_get (D := D) (ci := 3) (v := .long fo) (C := RX3) (T := TX3) (N := 16) hx hb hts zi3_ hown hK hP 0 rfl rfl 5 (by decide) z0_ (fun _ h9 => h9) rfl dX3_has_12 ?_
    refine lv_iload_n hx hb dX3_has_15 rfl (lv_at hl 2 rfl) ?_
    refine rd_i (va_runSN (As := [.long fo, .int q]) (rest := []) ⟨hx, hb, hml, hown, hts⟩ (c_X10_isOn l D cy fo q _) ⟨(va_cnB 2 hts gX3_has_X10_isOn_n76 rfl rfl rfl (hKA.2 (.methodLinkNest RX3 76 yX10_isOn RX10) (by decide +kernel)) z2_ (by decide +kernel) ⟨Nat.le_of_ble_eq_true rfl, Nat.le_of_ble_eq_true rfl⟩), z3_, trivial⟩ (pS hKA pE (dE (A := A))) rfl rfl hl.1 rfl (lv_room (Nat.le_of_ble_eq_true rfl)) dX3_has_16 ⟨Nat.le_of_ble_eq_true rfl, Nat.le_of_ble_eq_true rfl⟩) hP hS hA (fun r2 H locs hwr2 hP hS => ?_)
    rcases hwr2 with ⟨rfl, honr2⟩ | ⟨rfl, honr2⟩
    · skip
      exact W.zret (v := 1) hx hb hr rfl (fun t ht hW => ⟨⟨1, (), rfl, (by first | exact Or.inl ⟨rfl, by rw [if_pos (by assumption)]; assumption⟩ | exact Or.inl ⟨rfl, by rw [if_neg (by assumption)]; assumption⟩ | exact Or.inr ⟨rfl, by rw [if_pos (by assumption)]; assumption⟩ | exact Or.inr ⟨rfl, by rw [if_neg (by assumption)]; assumption⟩), trivial⟩, hS.F ht⟩) hS.2.2 dX3_has_19
    · skip
      exact W.zret (v := 0) hx hb hr rfl (fun t ht hW => ⟨⟨0, (), rfl, (by first | exact Or.inl ⟨rfl, by rw [if_pos (by assumption)]; assumption⟩ | exact Or.inl ⟨rfl, by rw [if_neg (by assumption)]; assumption⟩ | exact Or.inr ⟨rfl, by rw [if_pos (by assumption)]; assumption⟩ | exact Or.inr ⟨rfl, by rw [if_neg (by assumption)]; assumption⟩), trivial⟩, hS.F ht⟩) hS.2.2 dX3_has_19
  · skip
    refine lv_aload_n hx hb dX3_has_4 rfl (lv_at hl 0 rfl) ?_
    refine va_get (D := D) (ci := 3) (v := .long he) (C := RX3) (T := TX3) (N := 16) hx hb hts zi3_ hown hK hP 0 rfl rfl 4 (by decide) z4_ (fun _ h9 => h9) rfl dX3_has_5 ?_
    refine lv_goto (tgt := 15) hx hb dX3_has_8 (by decide) ?_
    refine lv_iload_n hx hb dX3_has_15 rfl (lv_at hl 2 rfl) ?_
    refine rd_i (va_runSN (As := [.long he, .int q]) (rest := []) ⟨hx, hb, hml, hown, hts⟩ (c_X10_isOn l D cy he q _) ⟨(va_cnB 2 hts gX3_has_X10_isOn_n76 rfl rfl rfl (hKA.2 (.methodLinkNest RX3 76 yX10_isOn RX10) (by decide +kernel)) z2_ (by decide +kernel) ⟨Nat.le_of_ble_eq_true rfl, Nat.le_of_ble_eq_true rfl⟩), z3_, trivial⟩ (pS hKA pE (dE (A := A))) rfl rfl hl.1 rfl (lv_room (Nat.le_of_ble_eq_true rfl)) dX3_has_16 ⟨Nat.le_of_ble_eq_true rfl, Nat.le_of_ble_eq_true rfl⟩) hP hS hA (fun r3 H locs hwr3 hP hS => ?_)
    rcases hwr3 with ⟨rfl, honr3⟩ | ⟨rfl, honr3⟩
    · skip
      exact W.zret (v := 1) hx hb hr rfl (fun t ht hW => ⟨⟨1, (), rfl, (by first | exact Or.inl ⟨rfl, by rw [if_pos (by assumption)]; assumption⟩ | exact Or.inl ⟨rfl, by rw [if_neg (by assumption)]; assumption⟩ | exact Or.inr ⟨rfl, by rw [if_pos (by assumption)]; assumption⟩ | exact Or.inr ⟨rfl, by rw [if_neg (by assumption)]; assumption⟩), trivial⟩, hS.F ht⟩) hS.2.2 dX3_has_19
    · skip
      exact W.zret (v := 0) hx hb hr rfl (fun t ht hW => ⟨⟨0, (), rfl, (by first | exact Or.inl ⟨rfl, by rw [if_pos (by assumption)]; assumption⟩ | exact Or.inl ⟨rfl, by rw [if_neg (by assumption)]; assumption⟩ | exact Or.inr ⟨rfl, by rw [if_pos (by assumption)]; assumption⟩ | exact Or.inr ⟨rfl, by rw [if_neg (by assumption)]; assumption⟩), trivial⟩, hS.F ht⟩) hS.2.2 dX3_has_19

set_option maxHeartbeats 4000000 in
set_option maxRecDepth 100000 in
theorem c_X3_layOut (l : Launch) (D : va_G) (cy : Nat → ClassId) (g : Nat) (wd hi dr wi : Int32) (he fo : Int64) (pe te re : Int32) (k0 k1 k2 k3 k4 k5 k6 : Nat) (w h : Int32) (sz : Nat)  : Met l yX3_layOut wsX3_layOut ({ frames := 0, cells := 0, slots := 0, locals := 0 }) (va_Pc [.ref g, .int w, .int h] (kPre D cy [(g, .inr (3, [.int wd, .int hi, .int dr, .int wi, .long he, .long fo, .int pe, .int te, .int re, .ref k0, .ref k1, .ref k2, .ref k3, .ref k4, .ref k5, .ref k6]))] sz)) (va_Qv (fun (_ : Unit) => True) (fun (u : Unit) t => va_P D vwCl ([(g, .inr (3, [.int w, .int h, .int 1, .int 0, .long 0, .long 0, .int 0, .int 0, .int 0, .ref k0, .ref k1, .ref k2, .ref k3, .ref k4, .ref k5, .ref k6]))]) t.heap ∧ va_D (va_A [(g, .inr (3, [.int wd, .int hi, .int dr, .int wi, .long he, .long fo, .int pe, .int te, .int re, .ref k0, .ref k1, .ref k2, .ref k3, .ref k4, .ref k5, .ref k6]))] sz) ([(g, .inr (3, [.int w, .int h, .int 1, .int 0, .long 0, .long 0, .int 0, .int 0, .int 0, .ref k0, .ref k1, .ref k2, .ref k3, .ref k4, .ref k5, .ref k6]))])) (va_A [(g, .inr (3, [.int wd, .int hi, .int dr, .int wi, .long he, .long fo, .int pe, .int te, .int re, .ref k0, .ref k1, .ref k2, .ref k3, .ref k4, .ref k5, .ref k6]))] sz)) 0 0 (va_A [(g, .inr (3, [.int wd, .int hi, .int dr, .int wi, .long he, .long fo, .int pe, .int te, .int re, .ref k0, .ref k1, .ref k2, .ref k3, .ref k4, .ref k5, .ref k6]))] sz) := by
  refine Met.ofW (cc := cX3_layOut) (maxL := 3) (ret := none) (by decide) rfl ?_
  intro p e s m args below meth c s₁ B hml hv
  obtain ⟨rfl, hsz, hP, hKA, hD0⟩ := hv
  have hx := B.exec
  have hb := B.bytes
  have hr := B.returns
  have hts := atoms_spec (ws := wsX3_layOut) B.pre
  have hown : s.vm.findClass RX3 = some m.cls := findClass_of_methodNamed B.named
  have hlocks := B.notSynchronized
  subst hsz
  have hK := hKA.1
  have hD := hD0.self (sz := s.heap.size)
  generalize hAe : va_A [(g, .inr (3, [.int wd, .int hi, .int dr, .int wi, .long he, .long fo, .int pe, .int te, .int re, .ref k0, .ref k1, .ref k2, .ref k3, .ref k4, .ref k5, .ref k6]))] s.heap.size = A at hD ⊢
  have hA : ∀ q : Nat, s.heap.size ≤ q → A q := fun q h => by rw [← hAe]; exact Or.inr h
  have hS : va_S A s.heap s.heap [] := va_S.rf
  have hP : va_P D vwCl [(g, .inr (3, [.int wd, .int hi, .int dr, .int wi, .long he, .long fo, .int pe, .int te, .int re, .ref k0, .ref k1, .ref k2, .ref k3, .ref k4, .ref k5, .ref k6]))] s.heap := hP
  have hl := lv_entry ([.ref g, .int w, .int h]) (n := 3) (Nat.le_of_ble_eq_true rfl)
  rw [lg_entry_eq]
  generalize (lg_sl ([.ref g, .int w, .int h]) ++ List.replicate (3 - (lg_sl ([.ref g, .int w, .int h])).length) Slot.unset).toArray = ls at hl ⊢
  have hl : lv_has ls 3 [(0, .ref g), (1, .int w), (2, .int h)] := hl
  have z0_ := hts (.fieldLink RX3 33 "HeardSeen$Garden" "wide" "I") (by decide +kernel)
  have zi3_ : ∀ w ∈ u_ws RX3 TX3 16, w ∈ wsX3_layOut := by decide +kernel
  have z2_ := hts (.fieldLink RX3 37 "HeardSeen$Garden" "high" "I") (by decide +kernel)
  have z3_ := hts (.fieldLink RX3 40 "HeardSeen$Garden" "drown" "I") (by decide +kernel)
  have z4_ := hts (.fieldLink RX3 43 "HeardSeen$Garden" "wind" "I") (by decide +kernel)
  have z5_ := hts (.fieldLink RX3 46 "HeardSeen$Garden" "hedges" "J") (by decide +kernel)
  have z6_ := hts (.fieldLink RX3 50 "HeardSeen$Garden" "fountains" "J") (by decide +kernel)
  have z7_ := hts (.fieldLink RX3 53 "HeardSeen$Garden" "people" "I") (by decide +kernel)
  have z8_ := hts (.fieldLink RX3 56 "HeardSeen$Garden" "tellings" "I") (by decide +kernel)
  have z9_ := hts (.fieldLink RX3 59 "HeardSeen$Garden" "reports" "I") (by decide +kernel)
  refine lv_aload_n hx hb dX3_layOut_0 rfl (lv_at hl 0 rfl) ?_
  refine lv_iload_n hx hb dX3_layOut_1 rfl (lv_at hl 1 rfl) ?_
  refine va_put (D := D) (ci := 3) (v := .int w) (ty := .int) (C := RX3) (T := TX3) (N := 16) hx hb hts zi3_ tyX3 tyX3_ok nmX3 hown hK hP hD hS 0 rfl rfl 0 (by decide) z0_ (fun _ h9 => h9) rfl (by decide +kernel) rfl rfl (Nat.le_of_ble_eq_true rfl) dX3_layOut_2 (fun H locs hP hD hS => ?_)
  have hP : va_P D vwCl [(g, .inr (3, [.int w, .int hi, .int dr, .int wi, .long he, .long fo, .int pe, .int te, .int re, .ref k0, .ref k1, .ref k2, .ref k3, .ref k4, .ref k5, .ref k6]))] H := hP
  have hD : va_D A [(g, .inr (3, [.int w, .int hi, .int dr, .int wi, .long he, .long fo, .int pe, .int te, .int re, .ref k0, .ref k1, .ref k2, .ref k3, .ref k4, .ref k5, .ref k6]))] := hD
  refine lv_aload_n hx hb dX3_layOut_5 rfl (lv_at hl 0 rfl) ?_
  refine lv_iload_n hx hb dX3_layOut_6 rfl (lv_at hl 2 rfl) ?_
  refine va_put (D := D) (ci := 3) (v := .int h) (ty := .int) (C := RX3) (T := TX3) (N := 16) hx hb hts zi3_ tyX3 tyX3_ok nmX3 hown hK hP hD hS 0 rfl rfl 1 (by decide) z2_ (fun _ h9 => h9) rfl (by decide +kernel) rfl rfl (Nat.le_of_ble_eq_true rfl) dX3_layOut_7 (fun H locs hP hD hS => ?_)
  have hP : va_P D vwCl [(g, .inr (3, [.int w, .int h, .int dr, .int wi, .long he, .long fo, .int pe, .int te, .int re, .ref k0, .ref k1, .ref k2, .ref k3, .ref k4, .ref k5, .ref k6]))] H := hP
  have hD : va_D A [(g, .inr (3, [.int w, .int h, .int dr, .int wi, .long he, .long fo, .int pe, .int te, .int re, .ref k0, .ref k1, .ref k2, .ref k3, .ref k4, .ref k5, .ref k6]))] := hD
  refine lv_aload_n hx hb dX3_layOut_10 rfl (lv_at hl 0 rfl) ?_
  refine lv_iconst (v := 1) hx hb dX3_layOut_11 (by decide) ?_
  refine va_put (D := D) (ci := 3) (v := .int 1) (ty := .int) (C := RX3) (T := TX3) (N := 16) hx hb hts zi3_ tyX3 tyX3_ok nmX3 hown hK hP hD hS 0 rfl rfl 2 (by decide) z3_ (fun _ h9 => h9) rfl (by decide +kernel) rfl rfl (Nat.le_of_ble_eq_true rfl) dX3_layOut_12 (fun H locs hP hD hS => ?_)
  have hP : va_P D vwCl [(g, .inr (3, [.int w, .int h, .int 1, .int wi, .long he, .long fo, .int pe, .int te, .int re, .ref k0, .ref k1, .ref k2, .ref k3, .ref k4, .ref k5, .ref k6]))] H := hP
  have hD : va_D A [(g, .inr (3, [.int w, .int h, .int 1, .int wi, .long he, .long fo, .int pe, .int te, .int re, .ref k0, .ref k1, .ref k2, .ref k3, .ref k4, .ref k5, .ref k6]))] := hD
  refine lv_aload_n hx hb dX3_layOut_15 rfl (lv_at hl 0 rfl) ?_
  refine lv_iconst (v := 0) hx hb dX3_layOut_16 (by decide) ?_
  refine va_put (D := D) (ci := 3) (v := .int 0) (ty := .int) (C := RX3) (T := TX3) (N := 16) hx hb hts zi3_ tyX3 tyX3_ok nmX3 hown hK hP hD hS 0 rfl rfl 3 (by decide) z4_ (fun _ h9 => h9) rfl (by decide +kernel) rfl rfl (Nat.le_of_ble_eq_true rfl) dX3_layOut_17 (fun H locs hP hD hS => ?_)
  have hP : va_P D vwCl [(g, .inr (3, [.int w, .int h, .int 1, .int 0, .long he, .long fo, .int pe, .int te, .int re, .ref k0, .ref k1, .ref k2, .ref k3, .ref k4, .ref k5, .ref k6]))] H := hP
  have hD : va_D A [(g, .inr (3, [.int w, .int h, .int 1, .int 0, .long he, .long fo, .int pe, .int te, .int re, .ref k0, .ref k1, .ref k2, .ref k3, .ref k4, .ref k5, .ref k6]))] := hD
  refine lv_aload_n hx hb dX3_layOut_20 rfl (lv_at hl 0 rfl) ?_
  refine lv_lconst (v := 0) hx hb dX3_layOut_21 (by decide) ?_
  refine va_put (D := D) (ci := 3) (v := .long 0) (ty := .long) (C := RX3) (T := TX3) (N := 16) hx hb hts zi3_ tyX3 tyX3_ok nmX3 hown hK hP hD hS 0 rfl rfl 4 (by decide) z5_ (fun _ h9 => h9) rfl (by decide +kernel) rfl rfl (Nat.le_of_ble_eq_true rfl) dX3_layOut_22 (fun H locs hP hD hS => ?_)
  have hP : va_P D vwCl [(g, .inr (3, [.int w, .int h, .int 1, .int 0, .long 0, .long fo, .int pe, .int te, .int re, .ref k0, .ref k1, .ref k2, .ref k3, .ref k4, .ref k5, .ref k6]))] H := hP
  have hD : va_D A [(g, .inr (3, [.int w, .int h, .int 1, .int 0, .long 0, .long fo, .int pe, .int te, .int re, .ref k0, .ref k1, .ref k2, .ref k3, .ref k4, .ref k5, .ref k6]))] := hD
  refine lv_aload_n hx hb dX3_layOut_25 rfl (lv_at hl 0 rfl) ?_
  refine lv_lconst (v := 0) hx hb dX3_layOut_26 (by decide) ?_
  refine va_put (D := D) (ci := 3) (v := .long 0) (ty := .long) (C := RX3) (T := TX3) (N := 16) hx hb hts zi3_ tyX3 tyX3_ok nmX3 hown hK hP hD hS 0 rfl rfl 5 (by decide) z6_ (fun _ h9 => h9) rfl (by decide +kernel) rfl rfl (Nat.le_of_ble_eq_true rfl) dX3_layOut_27 (fun H locs hP hD hS => ?_)
  have hP : va_P D vwCl [(g, .inr (3, [.int w, .int h, .int 1, .int 0, .long 0, .long 0, .int pe, .int te, .int re, .ref k0, .ref k1, .ref k2, .ref k3, .ref k4, .ref k5, .ref k6]))] H := hP
  have hD : va_D A [(g, .inr (3, [.int w, .int h, .int 1, .int 0, .long 0, .long 0, .int pe, .int te, .int re, .ref k0, .ref k1, .ref k2, .ref k3, .ref k4, .ref k5, .ref k6]))] := hD
  refine lv_aload_n hx hb dX3_layOut_30 rfl (lv_at hl 0 rfl) ?_
  refine lv_iconst (v := 0) hx hb dX3_layOut_31 (by decide) ?_
  refine va_put (D := D) (ci := 3) (v := .int 0) (ty := .int) (C := RX3) (T := TX3) (N := 16) hx hb hts zi3_ tyX3 tyX3_ok nmX3 hown hK hP hD hS 0 rfl rfl 6 (by decide) z7_ (fun _ h9 => h9) rfl (by decide +kernel) rfl rfl (Nat.le_of_ble_eq_true rfl) dX3_layOut_32 (fun H locs hP hD hS => ?_)
  have hP : va_P D vwCl [(g, .inr (3, [.int w, .int h, .int 1, .int 0, .long 0, .long 0, .int 0, .int te, .int re, .ref k0, .ref k1, .ref k2, .ref k3, .ref k4, .ref k5, .ref k6]))] H := hP
  have hD : va_D A [(g, .inr (3, [.int w, .int h, .int 1, .int 0, .long 0, .long 0, .int 0, .int te, .int re, .ref k0, .ref k1, .ref k2, .ref k3, .ref k4, .ref k5, .ref k6]))] := hD
  refine lv_aload_n hx hb dX3_layOut_35 rfl (lv_at hl 0 rfl) ?_
  refine lv_iconst (v := 0) hx hb dX3_layOut_36 (by decide) ?_
  refine va_put (D := D) (ci := 3) (v := .int 0) (ty := .int) (C := RX3) (T := TX3) (N := 16) hx hb hts zi3_ tyX3 tyX3_ok nmX3 hown hK hP hD hS 0 rfl rfl 7 (by decide) z8_ (fun _ h9 => h9) rfl (by decide +kernel) rfl rfl (Nat.le_of_ble_eq_true rfl) dX3_layOut_37 (fun H locs hP hD hS => ?_)
  have hP : va_P D vwCl [(g, .inr (3, [.int w, .int h, .int 1, .int 0, .long 0, .long 0, .int 0, .int 0, .int re, .ref k0, .ref k1, .ref k2, .ref k3, .ref k4, .ref k5, .ref k6]))] H := hP
  have hD : va_D A [(g, .inr (3, [.int w, .int h, .int 1, .int 0, .long 0, .long 0, .int 0, .int 0, .int re, .ref k0, .ref k1, .ref k2, .ref k3, .ref k4, .ref k5, .ref k6]))] := hD
  refine lv_aload_n hx hb dX3_layOut_40 rfl (lv_at hl 0 rfl) ?_
  refine lv_iconst (v := 0) hx hb dX3_layOut_41 (by decide) ?_
  refine va_put (D := D) (ci := 3) (v := .int 0) (ty := .int) (C := RX3) (T := TX3) (N := 16) hx hb hts zi3_ tyX3 tyX3_ok nmX3 hown hK hP hD hS 0 rfl rfl 8 (by decide) z9_ (fun _ h9 => h9) rfl (by decide +kernel) rfl rfl (Nat.le_of_ble_eq_true rfl) dX3_layOut_42 (fun H locs hP hD hS => ?_)
  have hP : va_P D vwCl [(g, .inr (3, [.int w, .int h, .int 1, .int 0, .long 0, .long 0, .int 0, .int 0, .int 0, .ref k0, .ref k1, .ref k2, .ref k3, .ref k4, .ref k5, .ref k6]))] H := hP
  have hD : va_D A [(g, .inr (3, [.int w, .int h, .int 1, .int 0, .long 0, .long 0, .int 0, .int 0, .int 0, .ref k0, .ref k1, .ref k2, .ref k3, .ref k4, .ref k5, .ref k6]))] := hD
  have hP9 := hP.sub (ws' := [(g, .inr (3, [.int w, .int h, .int 1, .int 0, .long 0, .long 0, .int 0, .int 0, .int 0, .ref k0, .ref k1, .ref k2, .ref k3, .ref k4, .ref k5, .ref k6]))]) [0] rfl
  have hD9 := hD.sub (ws' := [(g, .inr (3, [.int w, .int h, .int 1, .int 0, .long 0, .long 0, .int 0, .int 0, .int 0, .ref k0, .ref k1, .ref k2, .ref k3, .ref k4, .ref k5, .ref k6]))]) [0] (by decide) rfl
  exact W.vret hx hb hr (fun t ht hW => ⟨⟨(), rfl, trivial, by rw [ht]; exact hP9, hD9⟩, hS.F ht⟩) hS.2.2 dX3_layOut_45
