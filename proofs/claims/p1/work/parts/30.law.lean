theorem dL_law_0 : decode cL_law 0 = .ok (.new 7, 3) := by decide +kernel
theorem dL_law_3 : decode cL_law 3 = .ok (.dup, 1) := by decide +kernel
theorem dL_law_4 : decode cL_law 4 = .ok (.invokespecial 9, 3) := by decide +kernel
theorem dL_law_7 : decode cL_law 7 = .ok (.astore_n 1, 1) := by decide +kernel
theorem dL_law_8 : decode cL_law 8 = .ok (.new 10, 3) := by decide +kernel
theorem dL_law_11 : decode cL_law 11 = .ok (.dup, 1) := by decide +kernel
theorem dL_law_12 : decode cL_law 12 = .ok (.invokespecial 12, 3) := by decide +kernel
theorem dL_law_15 : decode cL_law 15 = .ok (.astore_n 2, 1) := by decide +kernel
theorem dL_law_16 : decode cL_law 16 = .ok (.iconst 0, 1) := by decide +kernel
theorem dL_law_17 : decode cL_law 17 = .ok (.istore_n 3, 1) := by decide +kernel
theorem dL_law_26 : decode cL_law 26 = .ok (.aload_n 0, 1) := by decide +kernel
theorem dL_law_27 : decode cL_law 27 = .ok (.iload_n 3, 1) := by decide +kernel
theorem dL_law_28 : decode cL_law 28 = .ok (.iaload, 1) := by decide +kernel
theorem dL_law_29 : decode cL_law 29 = .ok (.bipush 31, 2) := by decide +kernel
theorem dL_law_31 : decode cL_law 31 = .ok (.iand, 1) := by decide +kernel
theorem dL_law_32 : decode cL_law 32 = .ok (.tableswitch 1060 0 30 #[140, 173, 232, 265, 308, 341, 374, 407, 430, 493, 506, 519, 552, 595, 618, 631, 654, 677, 710, 733, 786, 819, 852, 865, 888, 921, 954, 977, 1000, 1023, 1046], 140) := by decide +kernel
set_option maxHeartbeats 8000000 in
set_option maxRecDepth 100000 in
theorem whole_start {p : Program} {e : Env} {s : State} {m : MethodId} {below : List Frame} {meth : Method} {c : Code} (l : Launch) {b L : Nat} {xs : Nat → Int32} (hL : L ≤ 5) (C0 : lw_At p s m meth c b L xs) : W p l e room_1 s m #[Value.ref b] below meth c s.heap [] 0 0 (lw_Z below #[Value.ref b] s) (entryFrame m ([Value.ref b] : List Value).toArray 4) := by
  obtain ⟨hx, hb, hr, hml, hown, hts0, hX, hbl, hlocks, hgv⟩ := id C0
  obtain ⟨D, cy, hKA⟩ := kA_start hts0
  have hts := hts0
  have hbA : ¬ (fun q : Nat => s.heap.size ≤ q) b := Nat.not_le.mpr hbl
  have hK := hKA.1
  obtain ⟨A, hAe⟩ : ∃ A : Nat → Prop, A = (fun q : Nat => s.heap.size ≤ q) := ⟨_, rfl⟩
  rw [← hAe] at hbA
  have hA : ∀ q : Nat, s.heap.size ≤ q → A q := fun q h => by rw [hAe]; exact h
  have hS : va_S A s.heap s.heap [] := va_S.rf
  have hP : va_P D vwCl [] s.heap := pE
  have hD : va_D A [] := dE
  have hl := lv_entry ([.ref b]) (n := 4) (Nat.le_of_ble_eq_true rfl)
  rw [lg_entry_eq]
  generalize (lg_sl ([.ref b]) ++ List.replicate (4 - (lg_sl ([.ref b])).length) Slot.unset).toArray = ls at hl ⊢
  have hl : lv_has ls 4 [(0, .ref b)] := hl
  have z0_ := hts (.classLink RL 7 RX10) (by decide +kernel)
  have z1_ := hts (.instantiable RX10 9) (by decide +kernel)
  have z2_ := hts (.initialized RX10) (by decide +kernel)
  have z3_ := hts (.methodLink RL 9 yX10_init) (by decide +kernel)
  have z4_ := hts (.instanceMethod yX10_init) (by decide +kernel)
  have z5_ := hts (.classLink RL 10 RX11) (by decide +kernel)
  have z6_ := hts (.instantiable RX11 19) (by decide +kernel)
  have z7_ := hts (.initialized RX11) (by decide +kernel)
  have z8_ := hts (.methodLink RL 12 yX11_init) (by decide +kernel)
  have z9_ := hts (.instanceMethod yX11_init) (by decide +kernel)
  refine va_new (ci := 10) (fs := [.null, .null, .null, .null, .null, .null, .int 0, .int 0, .int 0]) (C := RX10) (T := TX10) (N := 9) hx hb hts zin_wsX100 tyX10 tyX10_ok hown z0_ z1_ z2_ hK hP hD hS hA rfl (fun j hj => by rcases (show j = 0 ∨ j = 1 ∨ j = 2 ∨ j = 3 ∨ j = 4 ∨ j = 5 ∨ j = 6 ∨ j = 7 ∨ j = 8 by omega) with rfl | rfl | rfl | rfl | rfl | rfl | rfl | rfl | rfl <;> rfl) (Nat.le_of_ble_eq_true rfl) (Nat.le_of_ble_eq_true rfl) dL_law_0 (fun q1 H hP hD hS => ?_)
  have hP : va_P D vwCl [(q1, .inr (10, [.null, .null, .null, .null, .null, .null, .int 0, .int 0, .int 0]))] H := hP
  have hD : va_D A [(q1, .inr (10, [.null, .null, .null, .null, .null, .null, .int 0, .int 0, .int 0]))] := hD
  refine W.widen (k := 1) (n := 9) (Nat.le_of_ble_eq_true rfl) (Nat.le_of_ble_eq_true rfl) ?_
  refine lv_dup hx hb dL_law_3 rfl ?_
  refine wr_v (wr := []) (va_runI (As := []) (rest := [.ref q1]) ⟨hx, hb, hml, hown, hts⟩ (c_X10_init l D cy q1 _) (cwI 0 hts hL_law_X10_init rfl rfl rfl z2_ z3_ z4_ rfl (by decide +kernel) ⟨Nat.le_of_ble_eq_true rfl, Nat.le_of_ble_eq_true rfl⟩) (pS hKA (hP.sub (ws' := [(q1, .inr (10, [.null, .null, .null, .null, .null, .null, .int 0, .int 0, .int 0]))]) [0] rfl) (hD.sub (ws' := [(q1, .inr (10, [.null, .null, .null, .null, .null, .null, .int 0, .int 0, .int 0]))]) [0] (by decide) rfl)) rfl rfl hl.1 rfl (lv_room (Nat.le_of_ble_eq_true rfl)) dL_law_4 ⟨Nat.le_of_ble_eq_true rfl, Nat.le_of_ble_eq_true rfl⟩) hP hD hS hA [0] [] rfl rfl (by decide +kernel) (by decide +kernel) (fun ur2 H locs hwr2 hP hD hS => ?_)
  obtain ⟨g, nk0, nk1, nk2, nk3, nk4, nk5, nk6, df, dk0, dk1, dk2, dk3, dk4, dk5, dk6, im, pn, yb, w, la0, la1, la2, la3, la4, la5, la6, la7, la8, la9, la10, pa, pb0, pb1, pb2⟩ := ur2
  have hP : va_P D vwCl [(q1, .inr (10, [.ref g, .ref df, .ref im, .ref pn, .ref w, .ref pa, .int 0, .int 0, .int 0])), (g, .inr (3, [.int 6, .int 6, .int 1, .int 0, .long 0, .long 0, .int 0, .int 0, .int 0, .ref nk0, .ref nk1, .ref nk2, .ref nk3, .ref nk4, .ref nk5, .ref nk6])), (nk0, .inl (cy 1, 5, .inl (fun _ => 0))), (nk1, .inl (cy 1, 5, .inl (fun _ => 0))), (nk2, .inl (cy 1, 5, .inl (fun _ => 0))), (nk3, .inl (cy 1, 6, .inl (fun _ => 0))), (nk4, .inl (cy 1, 6, .inl (fun _ => 0))), (nk5, .inl (cy 1, 8, .inl (fun _ => 0))), (nk6, .inl (cy 1, 8, .inl (fun _ => 0))), (df, .inr (3, [.int 6, .int 6, .int 1, .int 0, .long 0, .long 0, .int 0, .int 0, .int 0, .ref dk0, .ref dk1, .ref dk2, .ref dk3, .ref dk4, .ref dk5, .ref dk6])), (dk0, .inl (cy 1, 5, .inl (fun _ => 0))), (dk1, .inl (cy 1, 5, .inl (fun _ => 0))), (dk2, .inl (cy 1, 5, .inl (fun _ => 0))), (dk3, .inl (cy 1, 6, .inl (fun _ => 0))), (dk4, .inl (cy 1, 6, .inl (fun _ => 0))), (dk5, .inl (cy 1, 8, .inl (fun _ => 0))), (dk6, .inl (cy 1, 8, .inl (fun _ => 0))), (im, .inl (cy 3, 2, .inr (.inr (.inr (.inr (fun _ => none)))))), (pn, .inr (8, [.ref yb, .int 0, .int 0, .int 0, .int 0, .int 0, .int 0])), (yb, .inl (cy 0, 250, .inl (fun _ => 0))), (w, .inr (4, [.ref g, .ref la0, .ref la1, .ref la2, .ref la3, .ref la4, .ref la5, .int 0, .long 0])), (la0, .inr (7, [])), (la1, .inl (cy 4, 6, .inr (.inr (.inr (.inr (va_up (va_up (va_up (va_up (va_up (va_up (fun _ => none) (0 : Int32).toNatClampNeg (some la0)) (1 : Int32).toNatClampNeg (some la6)) (2 : Int32).toNatClampNeg (some la7)) (3 : Int32).toNatClampNeg (some la8)) (4 : Int32).toNatClampNeg (some la9)) (5 : Int32).toNatClampNeg (some la10))))))), (la2, .inl (cy 1, 5, .inl (fun _ => 0))), (la3, .inl (cy 1, 5, .inl (fun _ => 0))), (la4, .inl (cy 1, 36, .inl (fun _ => 0))), (la5, .inl (cy 1, 36, .inl (fun _ => 0))), (la6, .inr (2, [])), (la7, .inr (1, [])), (la8, .inr (9, [])), (la9, .inr (5, [])), (la10, .inr (0, [])), (pa, .inr (6, [.ref g, .ref w, .ref pb0, .ref pb1, .ref pb2])), (pb0, .inl (cy 1, 36, .inl (fun _ => 0))), (pb1, .inl (cy 1, 1152, .inl (fun _ => 0))), (pb2, .inl (cy 1, 1152, .inl (fun _ => 0)))] H := hP
  have hD : va_D A [(q1, .inr (10, [.ref g, .ref df, .ref im, .ref pn, .ref w, .ref pa, .int 0, .int 0, .int 0])), (g, .inr (3, [.int 6, .int 6, .int 1, .int 0, .long 0, .long 0, .int 0, .int 0, .int 0, .ref nk0, .ref nk1, .ref nk2, .ref nk3, .ref nk4, .ref nk5, .ref nk6])), (nk0, .inl (cy 1, 5, .inl (fun _ => 0))), (nk1, .inl (cy 1, 5, .inl (fun _ => 0))), (nk2, .inl (cy 1, 5, .inl (fun _ => 0))), (nk3, .inl (cy 1, 6, .inl (fun _ => 0))), (nk4, .inl (cy 1, 6, .inl (fun _ => 0))), (nk5, .inl (cy 1, 8, .inl (fun _ => 0))), (nk6, .inl (cy 1, 8, .inl (fun _ => 0))), (df, .inr (3, [.int 6, .int 6, .int 1, .int 0, .long 0, .long 0, .int 0, .int 0, .int 0, .ref dk0, .ref dk1, .ref dk2, .ref dk3, .ref dk4, .ref dk5, .ref dk6])), (dk0, .inl (cy 1, 5, .inl (fun _ => 0))), (dk1, .inl (cy 1, 5, .inl (fun _ => 0))), (dk2, .inl (cy 1, 5, .inl (fun _ => 0))), (dk3, .inl (cy 1, 6, .inl (fun _ => 0))), (dk4, .inl (cy 1, 6, .inl (fun _ => 0))), (dk5, .inl (cy 1, 8, .inl (fun _ => 0))), (dk6, .inl (cy 1, 8, .inl (fun _ => 0))), (im, .inl (cy 3, 2, .inr (.inr (.inr (.inr (fun _ => none)))))), (pn, .inr (8, [.ref yb, .int 0, .int 0, .int 0, .int 0, .int 0, .int 0])), (yb, .inl (cy 0, 250, .inl (fun _ => 0))), (w, .inr (4, [.ref g, .ref la0, .ref la1, .ref la2, .ref la3, .ref la4, .ref la5, .int 0, .long 0])), (la0, .inr (7, [])), (la1, .inl (cy 4, 6, .inr (.inr (.inr (.inr (va_up (va_up (va_up (va_up (va_up (va_up (fun _ => none) (0 : Int32).toNatClampNeg (some la0)) (1 : Int32).toNatClampNeg (some la6)) (2 : Int32).toNatClampNeg (some la7)) (3 : Int32).toNatClampNeg (some la8)) (4 : Int32).toNatClampNeg (some la9)) (5 : Int32).toNatClampNeg (some la10))))))), (la2, .inl (cy 1, 5, .inl (fun _ => 0))), (la3, .inl (cy 1, 5, .inl (fun _ => 0))), (la4, .inl (cy 1, 36, .inl (fun _ => 0))), (la5, .inl (cy 1, 36, .inl (fun _ => 0))), (la6, .inr (2, [])), (la7, .inr (1, [])), (la8, .inr (9, [])), (la9, .inr (5, [])), (la10, .inr (0, [])), (pa, .inr (6, [.ref g, .ref w, .ref pb0, .ref pb1, .ref pb2])), (pb0, .inl (cy 1, 36, .inl (fun _ => 0))), (pb1, .inl (cy 1, 1152, .inl (fun _ => 0))), (pb2, .inl (cy 1, 1152, .inl (fun _ => 0)))] := hD
  refine W.widen (k := 36) (n := 2828) (Nat.le_of_ble_eq_true rfl) (Nat.le_of_ble_eq_true rfl) ?_
  refine lv_astore_n (lv' := [(1, .ref q1), (0, .ref b)]) hx hb dL_law_7 rfl hl (by decide) rfl (fun ls hl => ?_)
  refine va_new (ci := 11) (fs := [.null, .null, .null, .null, .int 0, .int 0, .null, .null, .null, .int 0, .null, .null, .int 0, .int 0, .int 0, .int 0, .int 0, .null, .int 0]) (C := RX11) (T := TX11) (N := 19) hx hb hts zin_wsX110 tyX11 tyX11_ok hown z5_ z6_ z7_ hK hP hD hS hA rfl (fun j hj => by rcases (show j = 0 ∨ j = 1 ∨ j = 2 ∨ j = 3 ∨ j = 4 ∨ j = 5 ∨ j = 6 ∨ j = 7 ∨ j = 8 ∨ j = 9 ∨ j = 10 ∨ j = 11 ∨ j = 12 ∨ j = 13 ∨ j = 14 ∨ j = 15 ∨ j = 16 ∨ j = 17 ∨ j = 18 by omega) with rfl | rfl | rfl | rfl | rfl | rfl | rfl | rfl | rfl | rfl | rfl | rfl | rfl | rfl | rfl | rfl | rfl | rfl | rfl <;> rfl) (Nat.le_of_ble_eq_true rfl) (Nat.le_of_ble_eq_true rfl) dL_law_8 (fun q3 H hP hD hS => ?_)
  have hP : va_P D vwCl [(q1, .inr (10, [.ref g, .ref df, .ref im, .ref pn, .ref w, .ref pa, .int 0, .int 0, .int 0])), (g, .inr (3, [.int 6, .int 6, .int 1, .int 0, .long 0, .long 0, .int 0, .int 0, .int 0, .ref nk0, .ref nk1, .ref nk2, .ref nk3, .ref nk4, .ref nk5, .ref nk6])), (nk0, .inl (cy 1, 5, .inl (fun _ => 0))), (nk1, .inl (cy 1, 5, .inl (fun _ => 0))), (nk2, .inl (cy 1, 5, .inl (fun _ => 0))), (nk3, .inl (cy 1, 6, .inl (fun _ => 0))), (nk4, .inl (cy 1, 6, .inl (fun _ => 0))), (nk5, .inl (cy 1, 8, .inl (fun _ => 0))), (nk6, .inl (cy 1, 8, .inl (fun _ => 0))), (df, .inr (3, [.int 6, .int 6, .int 1, .int 0, .long 0, .long 0, .int 0, .int 0, .int 0, .ref dk0, .ref dk1, .ref dk2, .ref dk3, .ref dk4, .ref dk5, .ref dk6])), (dk0, .inl (cy 1, 5, .inl (fun _ => 0))), (dk1, .inl (cy 1, 5, .inl (fun _ => 0))), (dk2, .inl (cy 1, 5, .inl (fun _ => 0))), (dk3, .inl (cy 1, 6, .inl (fun _ => 0))), (dk4, .inl (cy 1, 6, .inl (fun _ => 0))), (dk5, .inl (cy 1, 8, .inl (fun _ => 0))), (dk6, .inl (cy 1, 8, .inl (fun _ => 0))), (im, .inl (cy 3, 2, .inr (.inr (.inr (.inr (fun _ => none)))))), (pn, .inr (8, [.ref yb, .int 0, .int 0, .int 0, .int 0, .int 0, .int 0])), (yb, .inl (cy 0, 250, .inl (fun _ => 0))), (w, .inr (4, [.ref g, .ref la0, .ref la1, .ref la2, .ref la3, .ref la4, .ref la5, .int 0, .long 0])), (la0, .inr (7, [])), (la1, .inl (cy 4, 6, .inr (.inr (.inr (.inr (va_up (va_up (va_up (va_up (va_up (va_up (fun _ => none) (0 : Int32).toNatClampNeg (some la0)) (1 : Int32).toNatClampNeg (some la6)) (2 : Int32).toNatClampNeg (some la7)) (3 : Int32).toNatClampNeg (some la8)) (4 : Int32).toNatClampNeg (some la9)) (5 : Int32).toNatClampNeg (some la10))))))), (la2, .inl (cy 1, 5, .inl (fun _ => 0))), (la3, .inl (cy 1, 5, .inl (fun _ => 0))), (la4, .inl (cy 1, 36, .inl (fun _ => 0))), (la5, .inl (cy 1, 36, .inl (fun _ => 0))), (la6, .inr (2, [])), (la7, .inr (1, [])), (la8, .inr (9, [])), (la9, .inr (5, [])), (la10, .inr (0, [])), (pa, .inr (6, [.ref g, .ref w, .ref pb0, .ref pb1, .ref pb2])), (pb0, .inl (cy 1, 36, .inl (fun _ => 0))), (pb1, .inl (cy 1, 1152, .inl (fun _ => 0))), (pb2, .inl (cy 1, 1152, .inl (fun _ => 0))), (q3, .inr (11, [.null, .null, .null, .null, .int 0, .int 0, .null, .null, .null, .int 0, .null, .null, .int 0, .int 0, .int 0, .int 0, .int 0, .null, .int 0]))] H := hP
  have hD : va_D A [(q1, .inr (10, [.ref g, .ref df, .ref im, .ref pn, .ref w, .ref pa, .int 0, .int 0, .int 0])), (g, .inr (3, [.int 6, .int 6, .int 1, .int 0, .long 0, .long 0, .int 0, .int 0, .int 0, .ref nk0, .ref nk1, .ref nk2, .ref nk3, .ref nk4, .ref nk5, .ref nk6])), (nk0, .inl (cy 1, 5, .inl (fun _ => 0))), (nk1, .inl (cy 1, 5, .inl (fun _ => 0))), (nk2, .inl (cy 1, 5, .inl (fun _ => 0))), (nk3, .inl (cy 1, 6, .inl (fun _ => 0))), (nk4, .inl (cy 1, 6, .inl (fun _ => 0))), (nk5, .inl (cy 1, 8, .inl (fun _ => 0))), (nk6, .inl (cy 1, 8, .inl (fun _ => 0))), (df, .inr (3, [.int 6, .int 6, .int 1, .int 0, .long 0, .long 0, .int 0, .int 0, .int 0, .ref dk0, .ref dk1, .ref dk2, .ref dk3, .ref dk4, .ref dk5, .ref dk6])), (dk0, .inl (cy 1, 5, .inl (fun _ => 0))), (dk1, .inl (cy 1, 5, .inl (fun _ => 0))), (dk2, .inl (cy 1, 5, .inl (fun _ => 0))), (dk3, .inl (cy 1, 6, .inl (fun _ => 0))), (dk4, .inl (cy 1, 6, .inl (fun _ => 0))), (dk5, .inl (cy 1, 8, .inl (fun _ => 0))), (dk6, .inl (cy 1, 8, .inl (fun _ => 0))), (im, .inl (cy 3, 2, .inr (.inr (.inr (.inr (fun _ => none)))))), (pn, .inr (8, [.ref yb, .int 0, .int 0, .int 0, .int 0, .int 0, .int 0])), (yb, .inl (cy 0, 250, .inl (fun _ => 0))), (w, .inr (4, [.ref g, .ref la0, .ref la1, .ref la2, .ref la3, .ref la4, .ref la5, .int 0, .long 0])), (la0, .inr (7, [])), (la1, .inl (cy 4, 6, .inr (.inr (.inr (.inr (va_up (va_up (va_up (va_up (va_up (va_up (fun _ => none) (0 : Int32).toNatClampNeg (some la0)) (1 : Int32).toNatClampNeg (some la6)) (2 : Int32).toNatClampNeg (some la7)) (3 : Int32).toNatClampNeg (some la8)) (4 : Int32).toNatClampNeg (some la9)) (5 : Int32).toNatClampNeg (some la10))))))), (la2, .inl (cy 1, 5, .inl (fun _ => 0))), (la3, .inl (cy 1, 5, .inl (fun _ => 0))), (la4, .inl (cy 1, 36, .inl (fun _ => 0))), (la5, .inl (cy 1, 36, .inl (fun _ => 0))), (la6, .inr (2, [])), (la7, .inr (1, [])), (la8, .inr (9, [])), (la9, .inr (5, [])), (la10, .inr (0, [])), (pa, .inr (6, [.ref g, .ref w, .ref pb0, .ref pb1, .ref pb2])), (pb0, .inl (cy 1, 36, .inl (fun _ => 0))), (pb1, .inl (cy 1, 1152, .inl (fun _ => 0))), (pb2, .inl (cy 1, 1152, .inl (fun _ => 0))), (q3, .inr (11, [.null, .null, .null, .null, .int 0, .int 0, .null, .null, .null, .int 0, .null, .null, .int 0, .int 0, .int 0, .int 0, .int 0, .null, .int 0]))] := hD
  refine W.widen (k := 37) (n := 2847) (Nat.le_of_ble_eq_true rfl) (Nat.le_of_ble_eq_true rfl) ?_
  refine lv_dup hx hb dL_law_11 rfl ?_
  refine wr_v (wr := [(q1, .inr (10, [.ref g, .ref df, .ref im, .ref pn, .ref w, .ref pa, .int 0, .int 0, .int 0])), (g, .inr (3, [.int 6, .int 6, .int 1, .int 0, .long 0, .long 0, .int 0, .int 0, .int 0, .ref nk0, .ref nk1, .ref nk2, .ref nk3, .ref nk4, .ref nk5, .ref nk6])), (nk0, .inl (cy 1, 5, .inl (fun _ => 0))), (nk1, .inl (cy 1, 5, .inl (fun _ => 0))), (nk2, .inl (cy 1, 5, .inl (fun _ => 0))), (nk3, .inl (cy 1, 6, .inl (fun _ => 0))), (nk4, .inl (cy 1, 6, .inl (fun _ => 0))), (nk5, .inl (cy 1, 8, .inl (fun _ => 0))), (nk6, .inl (cy 1, 8, .inl (fun _ => 0))), (df, .inr (3, [.int 6, .int 6, .int 1, .int 0, .long 0, .long 0, .int 0, .int 0, .int 0, .ref dk0, .ref dk1, .ref dk2, .ref dk3, .ref dk4, .ref dk5, .ref dk6])), (dk0, .inl (cy 1, 5, .inl (fun _ => 0))), (dk1, .inl (cy 1, 5, .inl (fun _ => 0))), (dk2, .inl (cy 1, 5, .inl (fun _ => 0))), (dk3, .inl (cy 1, 6, .inl (fun _ => 0))), (dk4, .inl (cy 1, 6, .inl (fun _ => 0))), (dk5, .inl (cy 1, 8, .inl (fun _ => 0))), (dk6, .inl (cy 1, 8, .inl (fun _ => 0))), (im, .inl (cy 3, 2, .inr (.inr (.inr (.inr (fun _ => none)))))), (pn, .inr (8, [.ref yb, .int 0, .int 0, .int 0, .int 0, .int 0, .int 0])), (yb, .inl (cy 0, 250, .inl (fun _ => 0))), (w, .inr (4, [.ref g, .ref la0, .ref la1, .ref la2, .ref la3, .ref la4, .ref la5, .int 0, .long 0])), (la0, .inr (7, [])), (la1, .inl (cy 4, 6, .inr (.inr (.inr (.inr (va_up (va_up (va_up (va_up (va_up (va_up (fun _ => none) (0 : Int32).toNatClampNeg (some la0)) (1 : Int32).toNatClampNeg (some la6)) (2 : Int32).toNatClampNeg (some la7)) (3 : Int32).toNatClampNeg (some la8)) (4 : Int32).toNatClampNeg (some la9)) (5 : Int32).toNatClampNeg (some la10))))))), (la2, .inl (cy 1, 5, .inl (fun _ => 0))), (la3, .inl (cy 1, 5, .inl (fun _ => 0))), (la4, .inl (cy 1, 36, .inl (fun _ => 0))), (la5, .inl (cy 1, 36, .inl (fun _ => 0))), (la6, .inr (2, [])), (la7, .inr (1, [])), (la8, .inr (9, [])), (la9, .inr (5, [])), (la10, .inr (0, [])), (pa, .inr (6, [.ref g, .ref w, .ref pb0, .ref pb1, .ref pb2])), (pb0, .inl (cy 1, 36, .inl (fun _ => 0))), (pb1, .inl (cy 1, 1152, .inl (fun _ => 0))), (pb2, .inl (cy 1, 1152, .inl (fun _ => 0)))]) (va_runI (As := []) (rest := [.ref q3]) ⟨hx, hb, hml, hown, hts⟩ (m_init l D cy q3 _) (cwI 0 hts hL_law_X11_init rfl rfl rfl z7_ z8_ z9_ rfl (by decide +kernel) ⟨Nat.le_of_ble_eq_true rfl, Nat.le_of_ble_eq_true rfl⟩) (pS hKA (hP.sub (ws' := [(q3, .inr (11, [.null, .null, .null, .null, .int 0, .int 0, .null, .null, .null, .int 0, .null, .null, .int 0, .int 0, .int 0, .int 0, .int 0, .null, .int 0]))]) [36] rfl) (hD.sub (ws' := [(q3, .inr (11, [.null, .null, .null, .null, .int 0, .int 0, .null, .null, .null, .int 0, .null, .null, .int 0, .int 0, .int 0, .int 0, .int 0, .null, .int 0]))]) [36] (by decide) rfl)) rfl rfl hl.1 rfl (lv_room (Nat.le_of_ble_eq_true rfl)) dL_law_12 ⟨Nat.le_of_ble_eq_true rfl, Nat.le_of_ble_eq_true rfl⟩) hP hD hS hA [36] [0, 1, 2, 3, 4, 5, 6, 7, 8, 9, 10, 11, 12, 13, 14, 15, 16, 17, 18, 19, 20, 21, 22, 23, 24, 25, 26, 27, 28, 29, 30, 31, 32, 33, 34, 35] rfl rfl (by decide +kernel) (by decide +kernel) (fun ur4 H locs hwr4 hP hD hS => ?_)
  obtain ⟨nw, kp, ik, rf, sd, fr, qu, me, by_, nx, F⟩ := ur4
  obtain ⟨h0, h1, h2, hz⟩ := hwr4
  dsimp only at h0 h1 h2 hz
  have hP : va_P D vwCl [(q1, .inr (10, [.ref g, .ref df, .ref im, .ref pn, .ref w, .ref pa, .int 0, .int 0, .int 0])), (g, .inr (3, [.int 6, .int 6, .int 1, .int 0, .long 0, .long 0, .int 0, .int 0, .int 0, .ref nk0, .ref nk1, .ref nk2, .ref nk3, .ref nk4, .ref nk5, .ref nk6])), (nk0, .inl (cy 1, 5, .inl (fun _ => 0))), (nk1, .inl (cy 1, 5, .inl (fun _ => 0))), (nk2, .inl (cy 1, 5, .inl (fun _ => 0))), (nk3, .inl (cy 1, 6, .inl (fun _ => 0))), (nk4, .inl (cy 1, 6, .inl (fun _ => 0))), (nk5, .inl (cy 1, 8, .inl (fun _ => 0))), (nk6, .inl (cy 1, 8, .inl (fun _ => 0))), (df, .inr (3, [.int 6, .int 6, .int 1, .int 0, .long 0, .long 0, .int 0, .int 0, .int 0, .ref dk0, .ref dk1, .ref dk2, .ref dk3, .ref dk4, .ref dk5, .ref dk6])), (dk0, .inl (cy 1, 5, .inl (fun _ => 0))), (dk1, .inl (cy 1, 5, .inl (fun _ => 0))), (dk2, .inl (cy 1, 5, .inl (fun _ => 0))), (dk3, .inl (cy 1, 6, .inl (fun _ => 0))), (dk4, .inl (cy 1, 6, .inl (fun _ => 0))), (dk5, .inl (cy 1, 8, .inl (fun _ => 0))), (dk6, .inl (cy 1, 8, .inl (fun _ => 0))), (im, .inl (cy 3, 2, .inr (.inr (.inr (.inr (fun _ => none)))))), (pn, .inr (8, [.ref yb, .int 0, .int 0, .int 0, .int 0, .int 0, .int 0])), (yb, .inl (cy 0, 250, .inl (fun _ => 0))), (w, .inr (4, [.ref g, .ref la0, .ref la1, .ref la2, .ref la3, .ref la4, .ref la5, .int 0, .long 0])), (la0, .inr (7, [])), (la1, .inl (cy 4, 6, .inr (.inr (.inr (.inr (va_up (va_up (va_up (va_up (va_up (va_up (fun _ => none) (0 : Int32).toNatClampNeg (some la0)) (1 : Int32).toNatClampNeg (some la6)) (2 : Int32).toNatClampNeg (some la7)) (3 : Int32).toNatClampNeg (some la8)) (4 : Int32).toNatClampNeg (some la9)) (5 : Int32).toNatClampNeg (some la10))))))), (la2, .inl (cy 1, 5, .inl (fun _ => 0))), (la3, .inl (cy 1, 5, .inl (fun _ => 0))), (la4, .inl (cy 1, 36, .inl (fun _ => 0))), (la5, .inl (cy 1, 36, .inl (fun _ => 0))), (la6, .inr (2, [])), (la7, .inr (1, [])), (la8, .inr (9, [])), (la9, .inr (5, [])), (la10, .inr (0, [])), (pa, .inr (6, [.ref g, .ref w, .ref pb0, .ref pb1, .ref pb2])), (pb0, .inl (cy 1, 36, .inl (fun _ => 0))), (pb1, .inl (cy 1, 1152, .inl (fun _ => 0))), (pb2, .inl (cy 1, 1152, .inl (fun _ => 0))), (q3, .inr (11, [.ref nw, .ref kp, .ref ik, .ref rf, .int 0, .int 0, .ref sd, .ref fr, .ref qu, .int 0, .ref me, .ref by_, .int 0, .int 0, .int 0, .int 0, .int 0, .ref nx, .int 0])), (nw, .inl (cy 1, 122, .inl F)), (kp, .inl (cy 1, 244, .inl (fun _ => 0))), (ik, .inl (cy 2, 2, .inl (fun _ => 0))), (rf, .inl (cy 1, 3, .inl (fun _ => 0))), (sd, .inl (cy 2, 36, .inl (fun _ => 0))), (fr, .inl (cy 1, 1152, .inl (fun _ => 0))), (qu, .inl (cy 1, 1152, .inl (fun _ => 0))), (me, .inl (cy 1, 36, .inl (fun _ => 0))), (by_, .inl (cy 1, 250, .inl (fun _ => 0))), (nx, .inl (cy 1, 122, .inl (fun _ => 0)))] H := hP
  have hD : va_D A [(q1, .inr (10, [.ref g, .ref df, .ref im, .ref pn, .ref w, .ref pa, .int 0, .int 0, .int 0])), (g, .inr (3, [.int 6, .int 6, .int 1, .int 0, .long 0, .long 0, .int 0, .int 0, .int 0, .ref nk0, .ref nk1, .ref nk2, .ref nk3, .ref nk4, .ref nk5, .ref nk6])), (nk0, .inl (cy 1, 5, .inl (fun _ => 0))), (nk1, .inl (cy 1, 5, .inl (fun _ => 0))), (nk2, .inl (cy 1, 5, .inl (fun _ => 0))), (nk3, .inl (cy 1, 6, .inl (fun _ => 0))), (nk4, .inl (cy 1, 6, .inl (fun _ => 0))), (nk5, .inl (cy 1, 8, .inl (fun _ => 0))), (nk6, .inl (cy 1, 8, .inl (fun _ => 0))), (df, .inr (3, [.int 6, .int 6, .int 1, .int 0, .long 0, .long 0, .int 0, .int 0, .int 0, .ref dk0, .ref dk1, .ref dk2, .ref dk3, .ref dk4, .ref dk5, .ref dk6])), (dk0, .inl (cy 1, 5, .inl (fun _ => 0))), (dk1, .inl (cy 1, 5, .inl (fun _ => 0))), (dk2, .inl (cy 1, 5, .inl (fun _ => 0))), (dk3, .inl (cy 1, 6, .inl (fun _ => 0))), (dk4, .inl (cy 1, 6, .inl (fun _ => 0))), (dk5, .inl (cy 1, 8, .inl (fun _ => 0))), (dk6, .inl (cy 1, 8, .inl (fun _ => 0))), (im, .inl (cy 3, 2, .inr (.inr (.inr (.inr (fun _ => none)))))), (pn, .inr (8, [.ref yb, .int 0, .int 0, .int 0, .int 0, .int 0, .int 0])), (yb, .inl (cy 0, 250, .inl (fun _ => 0))), (w, .inr (4, [.ref g, .ref la0, .ref la1, .ref la2, .ref la3, .ref la4, .ref la5, .int 0, .long 0])), (la0, .inr (7, [])), (la1, .inl (cy 4, 6, .inr (.inr (.inr (.inr (va_up (va_up (va_up (va_up (va_up (va_up (fun _ => none) (0 : Int32).toNatClampNeg (some la0)) (1 : Int32).toNatClampNeg (some la6)) (2 : Int32).toNatClampNeg (some la7)) (3 : Int32).toNatClampNeg (some la8)) (4 : Int32).toNatClampNeg (some la9)) (5 : Int32).toNatClampNeg (some la10))))))), (la2, .inl (cy 1, 5, .inl (fun _ => 0))), (la3, .inl (cy 1, 5, .inl (fun _ => 0))), (la4, .inl (cy 1, 36, .inl (fun _ => 0))), (la5, .inl (cy 1, 36, .inl (fun _ => 0))), (la6, .inr (2, [])), (la7, .inr (1, [])), (la8, .inr (9, [])), (la9, .inr (5, [])), (la10, .inr (0, [])), (pa, .inr (6, [.ref g, .ref w, .ref pb0, .ref pb1, .ref pb2])), (pb0, .inl (cy 1, 36, .inl (fun _ => 0))), (pb1, .inl (cy 1, 1152, .inl (fun _ => 0))), (pb2, .inl (cy 1, 1152, .inl (fun _ => 0))), (q3, .inr (11, [.ref nw, .ref kp, .ref ik, .ref rf, .int 0, .int 0, .ref sd, .ref fr, .ref qu, .int 0, .ref me, .ref by_, .int 0, .int 0, .int 0, .int 0, .int 0, .ref nx, .int 0])), (nw, .inl (cy 1, 122, .inl F)), (kp, .inl (cy 1, 244, .inl (fun _ => 0))), (ik, .inl (cy 2, 2, .inl (fun _ => 0))), (rf, .inl (cy 1, 3, .inl (fun _ => 0))), (sd, .inl (cy 2, 36, .inl (fun _ => 0))), (fr, .inl (cy 1, 1152, .inl (fun _ => 0))), (qu, .inl (cy 1, 1152, .inl (fun _ => 0))), (me, .inl (cy 1, 36, .inl (fun _ => 0))), (by_, .inl (cy 1, 250, .inl (fun _ => 0))), (nx, .inl (cy 1, 122, .inl (fun _ => 0)))] := hD
  refine W.widen (k := 47) (n := 5966) (Nat.le_of_ble_eq_true rfl) (Nat.le_of_ble_eq_true rfl) ?_
  refine lv_astore_n (lv' := [(2, .ref q3), (1, .ref q1), (0, .ref b)]) hx hb dL_law_15 rfl hl (by decide) rfl (fun ls hl => ?_)
  refine lv_iconst (v := 0) hx hb dL_law_16 (by decide) ?_
  refine lv_istore_n (lv' := [(3, .int 0), (2, .ref q3), (1, .ref q1), (0, .ref b)]) hx hb dL_law_17 rfl hl (by decide) rfl (fun ls hl => ?_)
  have hP : va_P D vwCl [(q1, .inr (10, [.ref g, .ref df, .ref im, .ref pn, .ref w, .ref pa, .int 0, .int 0, .int 0])), (g, .inr (3, [.int 6, .int 6, .int 1, .int 0, .long 0, .long 0, .int 0, .int 0, .int 0, .ref nk0, .ref nk1, .ref nk2, .ref nk3, .ref nk4, .ref nk5, .ref nk6])), (nk0, .inl (cy 1, 5, .inl (fun _ => 0))), (nk1, .inl (cy 1, 5, .inl (fun _ => 0))), (nk2, .inl (cy 1, 5, .inl (fun _ => 0))), (nk3, .inl (cy 1, 6, .inl (fun _ => 0))), (nk4, .inl (cy 1, 6, .inl (fun _ => 0))), (nk5, .inl (cy 1, 8, .inl (fun _ => 0))), (nk6, .inl (cy 1, 8, .inl (fun _ => 0))), (df, .inr (3, [.int 6, .int 6, .int 1, .int 0, .long 0, .long 0, .int 0, .int 0, .int 0, .ref dk0, .ref dk1, .ref dk2, .ref dk3, .ref dk4, .ref dk5, .ref dk6])), (dk0, .inl (cy 1, 5, .inl (fun _ => 0))), (dk1, .inl (cy 1, 5, .inl (fun _ => 0))), (dk2, .inl (cy 1, 5, .inl (fun _ => 0))), (dk3, .inl (cy 1, 6, .inl (fun _ => 0))), (dk4, .inl (cy 1, 6, .inl (fun _ => 0))), (dk5, .inl (cy 1, 8, .inl (fun _ => 0))), (dk6, .inl (cy 1, 8, .inl (fun _ => 0))), (im, .inl (cy 3, 2, .inr (.inr (.inr (.inr (fun _ => none)))))), (pn, .inr (8, [.ref yb, .int 0, .int 0, .int 0, .int 0, .int 0, .int 0])), (yb, .inl (cy 0, 250, .inl (fun _ => 0))), (w, .inr (4, [.ref g, .ref la0, .ref la1, .ref la2, .ref la3, .ref la4, .ref la5, .int 0, .long 0])), (la0, .inr (7, [])), (la1, .inl (cy 4, 6, .inr (.inr (.inr (.inr (va_up (va_up (va_up (va_up (va_up (va_up (fun _ => none) (0 : Int32).toNatClampNeg (some la0)) (1 : Int32).toNatClampNeg (some la6)) (2 : Int32).toNatClampNeg (some la7)) (3 : Int32).toNatClampNeg (some la8)) (4 : Int32).toNatClampNeg (some la9)) (5 : Int32).toNatClampNeg (some la10))))))), (la2, .inl (cy 1, 5, .inl (fun _ => 0))), (la3, .inl (cy 1, 5, .inl (fun _ => 0))), (la4, .inl (cy 1, 36, .inl (fun _ => 0))), (la5, .inl (cy 1, 36, .inl (fun _ => 0))), (la6, .inr (2, [])), (la7, .inr (1, [])), (la8, .inr (9, [])), (la9, .inr (5, [])), (la10, .inr (0, [])), (pa, .inr (6, [.ref g, .ref w, .ref pb0, .ref pb1, .ref pb2])), (pb0, .inl (cy 1, 36, .inl (fun _ => 0))), (pb1, .inl (cy 1, 1152, .inl (fun _ => 0))), (pb2, .inl (cy 1, 1152, .inl (fun _ => 0))), (q3, .inr (11, [.ref nw, .ref kp, .ref ik, .ref rf, .int 0, .int 0, .ref sd, .ref fr, .ref qu, .int 0, .ref me, .ref by_, .int 0, .int 0, .int 0, .int 0, .int 0, .ref nx, .int 0])), (nw, .inl (cy 1, 122, .inl F)), (kp, .inl (cy 1, 244, .inl (fun _ => 0))), (ik, .inl (cy 2, 2, .inl (fun _ => 0))), (rf, .inl (cy 1, 3, .inl (fun _ => 0))), (sd, .inl (cy 2, 36, .inl (fun _ => 0))), (fr, .inl (cy 1, 1152, .inl (fun _ => 0))), (qu, .inl (cy 1, 1152, .inl (fun _ => 0))), (me, .inl (cy 1, 36, .inl (fun _ => 0))), (by_, .inl (cy 1, 250, .inl (fun _ => 0))), (nx, .inl (cy 1, 122, .inl (fun _ => 0)))] H := hP.sub [0, 1, 2, 3, 4, 5, 6, 7, 8, 9, 10, 11, 12, 13, 14, 15, 16, 17, 18, 19, 20, 21, 22, 23, 24, 25, 26, 27, 28, 29, 30, 31, 32, 33, 34, 35, 36, 37, 38, 39, 40, 41, 42, 43, 44, 45, 46] rfl
  have hD : va_D A [(q1, .inr (10, [.ref g, .ref df, .ref im, .ref pn, .ref w, .ref pa, .int 0, .int 0, .int 0])), (g, .inr (3, [.int 6, .int 6, .int 1, .int 0, .long 0, .long 0, .int 0, .int 0, .int 0, .ref nk0, .ref nk1, .ref nk2, .ref nk3, .ref nk4, .ref nk5, .ref nk6])), (nk0, .inl (cy 1, 5, .inl (fun _ => 0))), (nk1, .inl (cy 1, 5, .inl (fun _ => 0))), (nk2, .inl (cy 1, 5, .inl (fun _ => 0))), (nk3, .inl (cy 1, 6, .inl (fun _ => 0))), (nk4, .inl (cy 1, 6, .inl (fun _ => 0))), (nk5, .inl (cy 1, 8, .inl (fun _ => 0))), (nk6, .inl (cy 1, 8, .inl (fun _ => 0))), (df, .inr (3, [.int 6, .int 6, .int 1, .int 0, .long 0, .long 0, .int 0, .int 0, .int 0, .ref dk0, .ref dk1, .ref dk2, .ref dk3, .ref dk4, .ref dk5, .ref dk6])), (dk0, .inl (cy 1, 5, .inl (fun _ => 0))), (dk1, .inl (cy 1, 5, .inl (fun _ => 0))), (dk2, .inl (cy 1, 5, .inl (fun _ => 0))), (dk3, .inl (cy 1, 6, .inl (fun _ => 0))), (dk4, .inl (cy 1, 6, .inl (fun _ => 0))), (dk5, .inl (cy 1, 8, .inl (fun _ => 0))), (dk6, .inl (cy 1, 8, .inl (fun _ => 0))), (im, .inl (cy 3, 2, .inr (.inr (.inr (.inr (fun _ => none)))))), (pn, .inr (8, [.ref yb, .int 0, .int 0, .int 0, .int 0, .int 0, .int 0])), (yb, .inl (cy 0, 250, .inl (fun _ => 0))), (w, .inr (4, [.ref g, .ref la0, .ref la1, .ref la2, .ref la3, .ref la4, .ref la5, .int 0, .long 0])), (la0, .inr (7, [])), (la1, .inl (cy 4, 6, .inr (.inr (.inr (.inr (va_up (va_up (va_up (va_up (va_up (va_up (fun _ => none) (0 : Int32).toNatClampNeg (some la0)) (1 : Int32).toNatClampNeg (some la6)) (2 : Int32).toNatClampNeg (some la7)) (3 : Int32).toNatClampNeg (some la8)) (4 : Int32).toNatClampNeg (some la9)) (5 : Int32).toNatClampNeg (some la10))))))), (la2, .inl (cy 1, 5, .inl (fun _ => 0))), (la3, .inl (cy 1, 5, .inl (fun _ => 0))), (la4, .inl (cy 1, 36, .inl (fun _ => 0))), (la5, .inl (cy 1, 36, .inl (fun _ => 0))), (la6, .inr (2, [])), (la7, .inr (1, [])), (la8, .inr (9, [])), (la9, .inr (5, [])), (la10, .inr (0, [])), (pa, .inr (6, [.ref g, .ref w, .ref pb0, .ref pb1, .ref pb2])), (pb0, .inl (cy 1, 36, .inl (fun _ => 0))), (pb1, .inl (cy 1, 1152, .inl (fun _ => 0))), (pb2, .inl (cy 1, 1152, .inl (fun _ => 0))), (q3, .inr (11, [.ref nw, .ref kp, .ref ik, .ref rf, .int 0, .int 0, .ref sd, .ref fr, .ref qu, .int 0, .ref me, .ref by_, .int 0, .int 0, .int 0, .int 0, .int 0, .ref nx, .int 0])), (nw, .inl (cy 1, 122, .inl F)), (kp, .inl (cy 1, 244, .inl (fun _ => 0))), (ik, .inl (cy 2, 2, .inl (fun _ => 0))), (rf, .inl (cy 1, 3, .inl (fun _ => 0))), (sd, .inl (cy 2, 36, .inl (fun _ => 0))), (fr, .inl (cy 1, 1152, .inl (fun _ => 0))), (qu, .inl (cy 1, 1152, .inl (fun _ => 0))), (me, .inl (cy 1, 36, .inl (fun _ => 0))), (by_, .inl (cy 1, 250, .inl (fun _ => 0))), (nx, .inl (cy 1, 122, .inl (fun _ => 0)))] := hD.sub [0, 1, 2, 3, 4, 5, 6, 7, 8, 9, 10, 11, 12, 13, 14, 15, 16, 17, 18, 19, 20, 21, 22, 23, 24, 25, 26, 27, 28, 29, 30, 31, 32, 33, 34, 35, 36, 37, 38, 39, 40, 41, 42, 43, 44, 45, 46] (by decide +kernel) rfl
  rw [hAe] at hD hS hbA
  refine lv_iload_n hx hb dL_law_18 rfl (lv_at hl 0 rfl) ?_
  refine lv_aload_n hx hb dL_law_19 rfl (lv_at hl 3 rfl) ?_
  refine va_slen hx hb hX hbl hbA hS dL_law_20 ?_
  refine lv_iconst (v := 5) hx hb dL_law_21 (by decide) ?_
  refine lv_isub hx hb dL_law_22 ?_
  by_cases hL5 : L = 5
  · subst hL5
    refine lv_icmp_gt (tgt := 1098) hx hb dL_law_23 (by decide) (fun cc => absurd cc (by decide)) (fun cc => ?_)
    have hl : lv_has ls 4 [(0, .ref b), (1, .ref q1), (2, .ref q3), (3, .int 0)] := lv_sub hl [3, 2, 1, 0] rfl
    refine lv_aload_n hx hb dL_law_26 rfl (lv_at hl 0 rfl) ?_
    refine lv_iload_n hx hb dL_law_27 rfl (lv_at hl 3 rfl) ?_
    refine va_sld hx hb hX hbl hbA hS (by rw [vp_in_iff]; decide +kernel) dL_law_28 ?_
    refine lv_bipush (v := 31) hx hb dL_law_29 (by decide) ?_
    refine lv_iand hx hb dL_law_31 ?_
    refine lv_topi (fun y ey => ?_)
    by_cases z0 : y = 0
    · refine lv_tableIn (tgt := 172) hx hb dL_law_32 (by rw [z0]; decide) (by rw [z0]; decide) (by rw [z0]; rfl) (by decide) ?_
      exact law_c0 C0 q1 g nk0 nk1 nk2 nk3 nk4 nk5 nk6 df dk0 dk1 dk2 dk3 dk4 dk5 dk6 im pn yb w la0 la1 la2 la3 la4 la5 la6 la7 la8 la9 la10 pa pb0 pb1 pb2 q3 nw kp ik rf sd fr qu me by_ nx F h0 h1 h2 hz H _ hKA hP hD hS ls hl
    by_cases z1 : y = 1
    · refine lv_tableIn (tgt := 205) hx hb dL_law_32 (by rw [z1]; decide) (by rw [z1]; decide) (by rw [z1]; rfl) (by decide) ?_
      by_cases hz3 : xs (3 : Int32).toNatClampNeg = 0
      · exact law_c1f C0 q1 g nk0 nk1 nk2 nk3 nk4 nk5 nk6 df dk0 dk1 dk2 dk3 dk4 dk5 dk6 im pn yb w la0 la1 la2 la3 la4 la5 la6 la7 la8 la9 la10 pa pb0 pb1 pb2 q3 nw kp ik rf sd fr qu me by_ nx F h0 h1 h2 hz hz3 H _ hKA hP hD hS ls hl
      · exact law_c1t C0 q1 g nk0 nk1 nk2 nk3 nk4 nk5 nk6 df dk0 dk1 dk2 dk3 dk4 dk5 dk6 im pn yb w la0 la1 la2 la3 la4 la5 la6 la7 la8 la9 la10 pa pb0 pb1 pb2 q3 nw kp ik rf sd fr qu me by_ nx F h0 h1 h2 hz hz3 H _ hKA hP hD hS ls hl
    by_cases z2 : y = 2
    · refine lv_tableIn (tgt := 264) hx hb dL_law_32 (by rw [z2]; decide) (by rw [z2]; decide) (by rw [z2]; rfl) (by decide) ?_
      exact law_c2 C0 q1 g nk0 nk1 nk2 nk3 nk4 nk5 nk6 df dk0 dk1 dk2 dk3 dk4 dk5 dk6 im pn yb w la0 la1 la2 la3 la4 la5 la6 la7 la8 la9 la10 pa pb0 pb1 pb2 q3 nw kp ik rf sd fr qu me by_ nx F h0 h1 h2 hz H _ hKA hP hD hS ls hl
    by_cases z3 : y = 3
    · refine lv_tableIn (tgt := 297) hx hb dL_law_32 (by rw [z3]; decide) (by rw [z3]; decide) (by rw [z3]; rfl) (by decide) ?_
      exact law_c3 C0 q1 g nk0 nk1 nk2 nk3 nk4 nk5 nk6 df dk0 dk1 dk2 dk3 dk4 dk5 dk6 im pn yb w la0 la1 la2 la3 la4 la5 la6 la7 la8 la9 la10 pa pb0 pb1 pb2 q3 nw kp ik rf sd fr qu me by_ nx F h0 h1 h2 hz H _ hKA hP hD hS ls hl
    by_cases z4 : y = 4
    · refine lv_tableIn (tgt := 340) hx hb dL_law_32 (by rw [z4]; decide) (by rw [z4]; decide) (by rw [z4]; rfl) (by decide) ?_
      exact law_c4 C0 q1 g nk0 nk1 nk2 nk3 nk4 nk5 nk6 df dk0 dk1 dk2 dk3 dk4 dk5 dk6 im pn yb w la0 la1 la2 la3 la4 la5 la6 la7 la8 la9 la10 pa pb0 pb1 pb2 q3 nw kp ik rf sd fr qu me by_ nx F h0 h1 h2 hz H _ hKA hP hD hS ls hl
    by_cases z5 : y = 5
    · refine lv_tableIn (tgt := 373) hx hb dL_law_32 (by rw [z5]; decide) (by rw [z5]; decide) (by rw [z5]; rfl) (by decide) ?_
      exact law_c5 C0 q1 g nk0 nk1 nk2 nk3 nk4 nk5 nk6 df dk0 dk1 dk2 dk3 dk4 dk5 dk6 im pn yb w la0 la1 la2 la3 la4 la5 la6 la7 la8 la9 la10 pa pb0 pb1 pb2 q3 nw kp ik rf sd fr qu me by_ nx F h0 h1 h2 hz H _ hKA hP hD hS ls hl
    by_cases z6 : y = 6
    · refine lv_tableIn (tgt := 406) hx hb dL_law_32 (by rw [z6]; decide) (by rw [z6]; decide) (by rw [z6]; rfl) (by decide) ?_
      exact law_c6 C0 q1 g nk0 nk1 nk2 nk3 nk4 nk5 nk6 df dk0 dk1 dk2 dk3 dk4 dk5 dk6 im pn yb w la0 la1 la2 la3 la4 la5 la6 la7 la8 la9 la10 pa pb0 pb1 pb2 q3 nw kp ik rf sd fr qu me by_ nx F h0 h1 h2 hz H _ hKA hP hD hS ls hl
    by_cases z7 : y = 7
    · refine lv_tableIn (tgt := 439) hx hb dL_law_32 (by rw [z7]; decide) (by rw [z7]; decide) (by rw [z7]; rfl) (by decide) ?_
      exact law_c7 C0 q1 g nk0 nk1 nk2 nk3 nk4 nk5 nk6 df dk0 dk1 dk2 dk3 dk4 dk5 dk6 im pn yb w la0 la1 la2 la3 la4 la5 la6 la7 la8 la9 la10 pa pb0 pb1 pb2 q3 nw kp ik rf sd fr qu me by_ nx F h0 h1 h2 hz H _ hKA hP hD hS ls hl
    by_cases z8 : y = 8
    · refine lv_tableIn (tgt := 462) hx hb dL_law_32 (by rw [z8]; decide) (by rw [z8]; decide) (by rw [z8]; rfl) (by decide) ?_
      exact law_c8 C0 q1 g nk0 nk1 nk2 nk3 nk4 nk5 nk6 df dk0 dk1 dk2 dk3 dk4 dk5 dk6 im pn yb w la0 la1 la2 la3 la4 la5 la6 la7 la8 la9 la10 pa pb0 pb1 pb2 q3 nw kp ik rf sd fr qu me by_ nx F h0 h1 h2 hz H _ hKA hP hD hS ls hl
    by_cases z9 : y = 9
    · refine lv_tableIn (tgt := 525) hx hb dL_law_32 (by rw [z9]; decide) (by rw [z9]; decide) (by rw [z9]; rfl) (by decide) ?_
      exact law_c9 C0 q1 g nk0 nk1 nk2 nk3 nk4 nk5 nk6 df dk0 dk1 dk2 dk3 dk4 dk5 dk6 im pn yb w la0 la1 la2 la3 la4 la5 la6 la7 la8 la9 la10 pa pb0 pb1 pb2 q3 nw kp ik rf sd fr qu me by_ nx F h0 h1 h2 hz H _ hKA hP hD hS ls hl
    by_cases z10 : y = 10
    · refine lv_tableIn (tgt := 538) hx hb dL_law_32 (by rw [z10]; decide) (by rw [z10]; decide) (by rw [z10]; rfl) (by decide) ?_
      exact law_c10 C0 q1 g nk0 nk1 nk2 nk3 nk4 nk5 nk6 df dk0 dk1 dk2 dk3 dk4 dk5 dk6 im pn yb w la0 la1 la2 la3 la4 la5 la6 la7 la8 la9 la10 pa pb0 pb1 pb2 q3 nw kp ik rf sd fr qu me by_ nx F h0 h1 h2 hz H _ hKA hP hD hS ls hl
    by_cases z11 : y = 11
    · refine lv_tableIn (tgt := 551) hx hb dL_law_32 (by rw [z11]; decide) (by rw [z11]; decide) (by rw [z11]; rfl) (by decide) ?_
      exact law_c11 C0 q1 g nk0 nk1 nk2 nk3 nk4 nk5 nk6 df dk0 dk1 dk2 dk3 dk4 dk5 dk6 im pn yb w la0 la1 la2 la3 la4 la5 la6 la7 la8 la9 la10 pa pb0 pb1 pb2 q3 nw kp ik rf sd fr qu me by_ nx F h0 h1 h2 hz H _ hKA hP hD hS ls hl
    by_cases z12 : y = 12
    · refine lv_tableIn (tgt := 584) hx hb dL_law_32 (by rw [z12]; decide) (by rw [z12]; decide) (by rw [z12]; rfl) (by decide) ?_
      exact law_c12 C0 q1 g nk0 nk1 nk2 nk3 nk4 nk5 nk6 df dk0 dk1 dk2 dk3 dk4 dk5 dk6 im pn yb w la0 la1 la2 la3 la4 la5 la6 la7 la8 la9 la10 pa pb0 pb1 pb2 q3 nw kp ik rf sd fr qu me by_ nx F h0 h1 h2 hz H _ hKA hP hD hS ls hl
    by_cases z13 : y = 13
    · refine lv_tableIn (tgt := 627) hx hb dL_law_32 (by rw [z13]; decide) (by rw [z13]; decide) (by rw [z13]; rfl) (by decide) ?_
      exact law_c13 C0 q1 g nk0 nk1 nk2 nk3 nk4 nk5 nk6 df dk0 dk1 dk2 dk3 dk4 dk5 dk6 im pn yb w la0 la1 la2 la3 la4 la5 la6 la7 la8 la9 la10 pa pb0 pb1 pb2 q3 nw kp ik rf sd fr qu me by_ nx F h0 h1 h2 hz H _ hKA hP hD hS ls hl
    by_cases z14 : y = 14
    · refine lv_tableIn (tgt := 650) hx hb dL_law_32 (by rw [z14]; decide) (by rw [z14]; decide) (by rw [z14]; rfl) (by decide) ?_
      exact law_c14 C0 q1 g nk0 nk1 nk2 nk3 nk4 nk5 nk6 df dk0 dk1 dk2 dk3 dk4 dk5 dk6 im pn yb w la0 la1 la2 la3 la4 la5 la6 la7 la8 la9 la10 pa pb0 pb1 pb2 q3 nw kp ik rf sd fr qu me by_ nx F h0 h1 h2 hz H _ hKA hP hD hS ls hl
    by_cases z15 : y = 15
    · refine lv_tableIn (tgt := 663) hx hb dL_law_32 (by rw [z15]; decide) (by rw [z15]; decide) (by rw [z15]; rfl) (by decide) ?_
      exact law_c15 C0 q1 g nk0 nk1 nk2 nk3 nk4 nk5 nk6 df dk0 dk1 dk2 dk3 dk4 dk5 dk6 im pn yb w la0 la1 la2 la3 la4 la5 la6 la7 la8 la9 la10 pa pb0 pb1 pb2 q3 nw kp ik rf sd fr qu me by_ nx F h0 h1 h2 hz H _ hKA hP hD hS ls hl
    by_cases z16 : y = 16
    · refine lv_tableIn (tgt := 686) hx hb dL_law_32 (by rw [z16]; decide) (by rw [z16]; decide) (by rw [z16]; rfl) (by decide) ?_
      exact law_c16 C0 q1 g nk0 nk1 nk2 nk3 nk4 nk5 nk6 df dk0 dk1 dk2 dk3 dk4 dk5 dk6 im pn yb w la0 la1 la2 la3 la4 la5 la6 la7 la8 la9 la10 pa pb0 pb1 pb2 q3 nw kp ik rf sd fr qu me by_ nx F h0 h1 h2 hz H _ hKA hP hD hS ls hl
    by_cases z17 : y = 17
    · refine lv_tableIn (tgt := 709) hx hb dL_law_32 (by rw [z17]; decide) (by rw [z17]; decide) (by rw [z17]; rfl) (by decide) ?_
      exact law_c17 C0 q1 g nk0 nk1 nk2 nk3 nk4 nk5 nk6 df dk0 dk1 dk2 dk3 dk4 dk5 dk6 im pn yb w la0 la1 la2 la3 la4 la5 la6 la7 la8 la9 la10 pa pb0 pb1 pb2 q3 nw kp ik rf sd fr qu me by_ nx F h0 h1 h2 hz H _ hKA hP hD hS ls hl
    by_cases z18 : y = 18
    · refine lv_tableIn (tgt := 742) hx hb dL_law_32 (by rw [z18]; decide) (by rw [z18]; decide) (by rw [z18]; rfl) (by decide) ?_
      exact law_c18 C0 q1 g nk0 nk1 nk2 nk3 nk4 nk5 nk6 df dk0 dk1 dk2 dk3 dk4 dk5 dk6 im pn yb w la0 la1 la2 la3 la4 la5 la6 la7 la8 la9 la10 pa pb0 pb1 pb2 q3 nw kp ik rf sd fr qu me by_ nx F h0 h1 h2 hz H _ hKA hP hD hS ls hl
    by_cases z19 : y = 19
    · refine lv_tableIn (tgt := 765) hx hb dL_law_32 (by rw [z19]; decide) (by rw [z19]; decide) (by rw [z19]; rfl) (by decide) ?_
      exact law_c19 C0 q1 g nk0 nk1 nk2 nk3 nk4 nk5 nk6 df dk0 dk1 dk2 dk3 dk4 dk5 dk6 im pn yb w la0 la1 la2 la3 la4 la5 la6 la7 la8 la9 la10 pa pb0 pb1 pb2 q3 nw kp ik rf sd fr qu me by_ nx F h0 h1 h2 hz H _ hKA hP hD hS ls hl
    by_cases z20 : y = 20
    · refine lv_tableIn (tgt := 818) hx hb dL_law_32 (by rw [z20]; decide) (by rw [z20]; decide) (by rw [z20]; rfl) (by decide) ?_
      exact law_c20 C0 q1 g nk0 nk1 nk2 nk3 nk4 nk5 nk6 df dk0 dk1 dk2 dk3 dk4 dk5 dk6 im pn yb w la0 la1 la2 la3 la4 la5 la6 la7 la8 la9 la10 pa pb0 pb1 pb2 q3 nw kp ik rf sd fr qu me by_ nx F h0 h1 h2 hz H _ hKA hP hD hS ls hl
    by_cases z21 : y = 21
    · refine lv_tableIn (tgt := 851) hx hb dL_law_32 (by rw [z21]; decide) (by rw [z21]; decide) (by rw [z21]; rfl) (by decide) ?_
      exact law_c21 C0 q1 g nk0 nk1 nk2 nk3 nk4 nk5 nk6 df dk0 dk1 dk2 dk3 dk4 dk5 dk6 im pn yb w la0 la1 la2 la3 la4 la5 la6 la7 la8 la9 la10 pa pb0 pb1 pb2 q3 nw kp ik rf sd fr qu me by_ nx F h0 h1 h2 hz H _ hKA hP hD hS ls hl
    by_cases z22 : y = 22
    · refine lv_tableIn (tgt := 884) hx hb dL_law_32 (by rw [z22]; decide) (by rw [z22]; decide) (by rw [z22]; rfl) (by decide) ?_
      exact law_c22 C0 q1 g nk0 nk1 nk2 nk3 nk4 nk5 nk6 df dk0 dk1 dk2 dk3 dk4 dk5 dk6 im pn yb w la0 la1 la2 la3 la4 la5 la6 la7 la8 la9 la10 pa pb0 pb1 pb2 q3 nw kp ik rf sd fr qu me by_ nx F h0 h1 h2 hz H _ hKA hP hD hS ls hl
    by_cases z23 : y = 23
    · refine lv_tableIn (tgt := 897) hx hb dL_law_32 (by rw [z23]; decide) (by rw [z23]; decide) (by rw [z23]; rfl) (by decide) ?_
      exact law_c23 C0 q1 g nk0 nk1 nk2 nk3 nk4 nk5 nk6 df dk0 dk1 dk2 dk3 dk4 dk5 dk6 im pn yb w la0 la1 la2 la3 la4 la5 la6 la7 la8 la9 la10 pa pb0 pb1 pb2 q3 nw kp ik rf sd fr qu me by_ nx F h0 h1 h2 hz H _ hKA hP hD hS ls hl
    by_cases z24 : y = 24
    · refine lv_tableIn (tgt := 920) hx hb dL_law_32 (by rw [z24]; decide) (by rw [z24]; decide) (by rw [z24]; rfl) (by decide) ?_
      exact law_c24 C0 q1 g nk0 nk1 nk2 nk3 nk4 nk5 nk6 df dk0 dk1 dk2 dk3 dk4 dk5 dk6 im pn yb w la0 la1 la2 la3 la4 la5 la6 la7 la8 la9 la10 pa pb0 pb1 pb2 q3 nw kp ik rf sd fr qu me by_ nx F h0 h1 h2 hz H _ hKA hP hD hS ls hl
    by_cases z25 : y = 25
    · refine lv_tableIn (tgt := 953) hx hb dL_law_32 (by rw [z25]; decide) (by rw [z25]; decide) (by rw [z25]; rfl) (by decide) ?_
      exact law_c25 C0 q1 g nk0 nk1 nk2 nk3 nk4 nk5 nk6 df dk0 dk1 dk2 dk3 dk4 dk5 dk6 im pn yb w la0 la1 la2 la3 la4 la5 la6 la7 la8 la9 la10 pa pb0 pb1 pb2 q3 nw kp ik rf sd fr qu me by_ nx F h0 h1 h2 hz H _ hKA hP hD hS ls hl
    by_cases z26 : y = 26
    · refine lv_tableIn (tgt := 986) hx hb dL_law_32 (by rw [z26]; decide) (by rw [z26]; decide) (by rw [z26]; rfl) (by decide) ?_
      exact law_c26 C0 q1 g nk0 nk1 nk2 nk3 nk4 nk5 nk6 df dk0 dk1 dk2 dk3 dk4 dk5 dk6 im pn yb w la0 la1 la2 la3 la4 la5 la6 la7 la8 la9 la10 pa pb0 pb1 pb2 q3 nw kp ik rf sd fr qu me by_ nx F h0 h1 h2 hz H _ hKA hP hD hS ls hl
    by_cases z27 : y = 27
    · refine lv_tableIn (tgt := 1009) hx hb dL_law_32 (by rw [z27]; decide) (by rw [z27]; decide) (by rw [z27]; rfl) (by decide) ?_
      exact law_c27 C0 q1 g nk0 nk1 nk2 nk3 nk4 nk5 nk6 df dk0 dk1 dk2 dk3 dk4 dk5 dk6 im pn yb w la0 la1 la2 la3 la4 la5 la6 la7 la8 la9 la10 pa pb0 pb1 pb2 q3 nw kp ik rf sd fr qu me by_ nx F h0 h1 h2 hz H _ hKA hP hD hS ls hl
    by_cases z28 : y = 28
    · refine lv_tableIn (tgt := 1032) hx hb dL_law_32 (by rw [z28]; decide) (by rw [z28]; decide) (by rw [z28]; rfl) (by decide) ?_
      exact law_c28 C0 q1 g nk0 nk1 nk2 nk3 nk4 nk5 nk6 df dk0 dk1 dk2 dk3 dk4 dk5 dk6 im pn yb w la0 la1 la2 la3 la4 la5 la6 la7 la8 la9 la10 pa pb0 pb1 pb2 q3 nw kp ik rf sd fr qu me by_ nx F h0 h1 h2 hz H _ hKA hP hD hS ls hl
    by_cases z29 : y = 29
    · refine lv_tableIn (tgt := 1055) hx hb dL_law_32 (by rw [z29]; decide) (by rw [z29]; decide) (by rw [z29]; rfl) (by decide) ?_
      exact law_c29 C0 q1 g nk0 nk1 nk2 nk3 nk4 nk5 nk6 df dk0 dk1 dk2 dk3 dk4 dk5 dk6 im pn yb w la0 la1 la2 la3 la4 la5 la6 la7 la8 la9 la10 pa pb0 pb1 pb2 q3 nw kp ik rf sd fr qu me by_ nx F h0 h1 h2 hz H _ hKA hP hD hS ls hl
    by_cases z30 : y = 30
    · refine lv_tableIn (tgt := 1078) hx hb dL_law_32 (by rw [z30]; decide) (by rw [z30]; decide) (by rw [z30]; rfl) (by decide) ?_
      exact law_c30 C0 q1 g nk0 nk1 nk2 nk3 nk4 nk5 nk6 df dk0 dk1 dk2 dk3 dk4 dk5 dk6 im pn yb w la0 la1 la2 la3 la4 la5 la6 la7 la8 la9 la10 pa pb0 pb1 pb2 q3 nw kp ik rf sd fr qu me by_ nx F h0 h1 h2 hz H _ hKA hP hD hS ls hl
    refine lv_tableOut (tgt := 1092) hx hb dL_law_32 (z_out z0 z1 z2 z3 z4 z5 z6 z7 z8 z9 z10 z11 z12 z13 z14 z15 z16 z17 z18 z19 z20 z21 z22 z23 z24 z25 z26 z27 z28 z29 z30) (by decide) ?_
    exact law_tail C0 H _ ls hS (lv_sub hl [0, 3] rfl) (Nat.le_of_ble_eq_true rfl) (Nat.le_of_ble_eq_true rfl)
  · refine lv_icmp_gt (tgt := 1098) hx hb dL_law_23 (by decide) (fun cc => ?_) (fun cc => absurd (z_l5 hL hL5) cc)
    refine lv_iconst (v := 1) hx hb dL_law_1098 (by decide) ?_
    refine va_forget (fun q hq => hS.2.2 q hq) ?_
    refine W.widen (k := 600000) (n := 7302249) (Nat.le_of_ble_eq_true rfl) (Nat.le_of_ble_eq_true rfl) ?_
    exact lw_ret hx hb hr hlocks dL_law_1099
-- ===== YOUR PART ENDS =====
set_option maxHeartbeats 4000000 in
theorem lw_walk (l : Launch) (b : Addr) (xs : List Int32) : MetFree l x (headSpec (Jvm.Cond.code x code maxLocals ret :: tables_1) room_1) (lw_P b xs) (fun _ _ _ _ _ => True) lw_Q := by
  refine MetFree.of_bodyS (code := code) (maxLocals := maxLocals) (ret := ret) (by decide) ?_ ?_
  · intro args s m h hn
    obtain ⟨meth, c, h1, h2, h3, h4, h5, h6, -, -⟩ := Cond.code_spec hn (atoms_spec (ws := Jvm.Cond.code x code maxLocals ret :: tables_1) h _ List.mem_cons_self)
    exact ⟨meth, c, h1, h2, h3, h4, h5, h6⟩
  · intro p e s m args below meth c s₁ B hml0 hP _
    obtain ⟨rfl, hx, hbd, hgv⟩ := hP
    obtain ⟨scr, harrAt, hlist, hof, hsmall⟩ := hx
    obtain ⟨hcb, hkn, -, -⟩ := State.arrayAt?_spec harrAt
    have hown : s.vm.findClass R_law = some m.cls := findClass_of_methodNamed B.named
    have hts0 : ∀ c ∈ (Jvm.Cond.code x code maxLocals ret :: tables_1), c.before #[Value.ref b] s = true := atoms_spec (ws := Jvm.Cond.code x code maxLocals ret :: tables_1) B.pre
    have hts : ∀ w ∈ lw_tbl, w.before #[Value.ref b] s = true := k2_hts_sels lw_privs (fun w hw => hts0 w (List.mem_cons_of_mem _ hw)) lw_privs_ok
    have hml : c.maxLocals = 4 := B.maxLocals_eq (hts0 _ List.mem_cons_self)
    have X₀ : Stand p l e room_1 s m #[Value.ref b] below meth c s₁ [] 0 0 := Stand.of_body B
    have hh0 : s₁.heap = s.heap := by rw [B.state]; rfl
    have hsz : scr.slots.size = xs.length := by rw [← Array.length_toList, hlist, List.length_map]
    have hval : ∀ j : Nat, j < xs.length → scr.slots[j]? = some (.int (xs.getD j 0)) := fun j hj => by
      rw [← Array.getElem?_toList, hlist]
      simp [hj]
    have hbl : b < s.heap.size := (Array.getElem?_eq_some_iff.mp hcb).1
    have hX : va_X b xs.length (fun j => xs.getD j 0) s s.heap := ⟨scr, hcb, hof, hkn, hsz, hval⟩
    have K : W p l e room_1 s m #[Value.ref b] below meth c s₁.heap [] 0 0 (lw_Z below #[Value.ref b] s) (entryFrame m ([Value.ref b] : List Value).toArray 4) := by
      rw [hh0]
      exact whole_start l hbd ⟨B.exec, B.bytes, B.returns, hml, hown, hts, hX, hbl, B.notSynchronized, hgv⟩
    obtain ⟨t, a1, o, b1, b2, b3⟩ := K s₁ rfl X₀
    exact ⟨t, o, a1, b1, b2, b3⟩
theorem lw_pre_spec {args : Array Value} {s : State} (h : (Jvm.Cond.and given_1 narrow_1).before args s = true) (hr : rest_1_c.before args s = true) : ∃ (b : Addr) (xs : List Int32), lw_P b xs args s := by
  have hs := flat_of_before _ h
  have hq := flat_of_before _ hr
  have hc : (Cond.count 1).before args s = true := hs _ (by decide +kernel)
  have harr : (Cond.arrayOf (.arg 0) .int).before args s = true := hs _ (by decide +kernel)
  have hle : (Cond.le (.length (.arg 0)) (.int 5)).before args s = true := hs _ (by decide +kernel)
  have hlen : (Cond.isInt (.length (.arg 0))).before args s = true := hq _ (by decide +kernel)
  have hall : (Cond.all (.arg 0) (.isInt (.elem (.arg 0) (.index 0)))).before args s = true := hq _ (by decide +kernel)
  obtain ⟨b, xs, hb, hx⟩ := State.ints_of_pre rfl harr hlen hall
  have hsm : xs.length < 2 ^ 31 := hx.choose_spec.2.2.2
  have hev : (Term.length (.arg 0)).eval args s none [] s = some (.int xs.length.toInt32) := hx.length_eval hb
  have hv := Cond.le_ints hev (show (Term.int 5).eval args s none [] s = some (.int 5) from rfl)
  have hd : xs.length.toInt32 ≤ 5 := by
    simpa [Cond.before, Cond.holds, hv] using hle
  have hN : xs.length ≤ 5 := (Int32.ofNat_le_ofNat hsm (by decide)).mp (show Int32.ofNat xs.length ≤ Int32.ofNat 5 from hd)
  exact ⟨b, xs, Cond.one_arg hc (show args[0]? = some (.ref b) from hb), hx, hN, h⟩
theorem lw_comes (l : Launch) : Comes l x (Jvm.Cond.code x code maxLocals ret :: tables_1) room_1 (fun tb e args s => Calls_1 tb e args s ∧ rest_1 tb e args s ∧ Pre_1 tb e args s)
    (fun _ _ args s o t => lw_Q args s o t) := by
  intro p e ha hc hk s m args below hf hfit hheap happ hpre
  obtain ⟨b, xs, hP⟩ := lw_pre_spec hpre.2.2 hpre.2.1
  obtain ⟨k, o, h1, h2, h3, hQ⟩ := lw_walk l b xs p e ha hc hk s m args below hf ((Spec.applies_iff_loose hf).mp happ).1 hP trivial
  exact ⟨k, o, h1, h2, h3, hQ⟩
theorem lw_frame {s t : State} {o : Outcome} {args : Array Value} (h : Framed s o t [] 600000 7302249) :
    Framed s o t (fieldLocs frame_1_writes args s ++ arrayLocs frame_1_arrays args s ++ staticLocs frame_1_statics s) 600000 7302249 := h
theorem lw_limb (L : Cond) (hL : ∀ (args : Array Value) (s t : State), L.after args s (.returned (some (.int 1))) t = true) :
    ArmFor flags0 classFile x code maxLocals ret World_1 tables_1 room_1 Calls_1 rest_1 Pre_1
      (fun tb e a s o t => postC L tb e a s o t ∧ Framed s o t (fieldLocs frame_1_writes a s ++ arrayLocs frame_1_arrays a s ++ staticLocs frame_1_statics s) 600000 7302249) := by
  intro l _ _ _ p e ha hc hk s m args below hf hfit hheap happ hpre
  obtain ⟨k, o, h1, h2, h3, rfl, hF⟩ := lw_comes l p e ha hc hk s m args below hf hfit hheap happ hpre
  exact ⟨k, _, h1, h2, h3, hL args s _, lw_frame hF⟩
theorem i_vc : Claimed_1_1 ∧ Claimed_1_2 := ⟨lw_limb limb_1_1 (fun args s t => by simp [limb_1_1, Cond.after, Cond.holds, Cond.value]), lw_limb limb_1_2 (fun args s t => Cond.after_iff.mpr (by
  first | (rw [show limb_1_2 = Cond.eq .result (.int 1) from rfl, Cond.eq_ints (x := 1) (y := 1) rfl rfl]; simp; done) | (simp [limb_1_2, Cond.value, Term.eval]; done)))⟩
