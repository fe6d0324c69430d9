theorem dL_law_26 : decode cL_law 26 = .ok (.aload_n 0, 1) := by decide +kernel
theorem dL_law_27 : decode cL_law 27 = .ok (.iload_n 3, 1) := by decide +kernel
theorem dL_law_28 : decode cL_law 28 = .ok (.iaload, 1) := by decide +kernel
theorem dL_law_29 : decode cL_law 29 = .ok (.bipush 31, 2) := by decide +kernel
theorem dL_law_31 : decode cL_law 31 = .ok (.iand, 1) := by decide +kernel
theorem dL_law_32 : decode cL_law 32 = .ok (.tableswitch 1060 0 30 #[140, 173, 232, 265, 308, 341, 374, 407, 430, 493, 506, 519, 552, 595, 618, 631, 654, 677, 710, 733, 786, 819, 852, 865, 888, 921, 954, 977, 1000, 1023, 1046], 140) := by decide +kernel
set_option maxHeartbeats 8000000 in
set_option maxRecDepth 100000 in
theorem law_sw {p : Program} {e : Env} {s : State} {m : MethodId} {below : List Frame} {meth : Method} {c : Code} {l : Launch} {b : Nat} {xs : Nat → Int32} {D : va_G} {cy : Nat → ClassId} (C0 : lw_At p s m meth c b 5 xs) (hKA : kA D cy s) (h g nk0 nk1 nk2 nk3 nk4 nk5 nk6 df dk0 dk1 dk2 dk3 dk4 dk5 dk6 im pn yb w la0 la1 la2 la3 la4 la5 la6 la7 la8 la9 la10 pa pb0 pb1 pb2 mm nw kp ik rf sd fr qu me by_ nx : Nat) (F : Nat → Int32) (h0 : F 0 = 6) (h1 : F 1 = 6) (h2 : F 2 = 1) (hz : ∀ k, 3 ≤ k → k < 122 → F k = 0) (H : Heap) (locs : List Loc) (hP : va_P D vwCl [(h, .inr (10, [.ref g, .ref df, .ref im, .ref pn, .ref w, .ref pa, .int 0, .int 0, .int 0])), (g, .inr (3, [.int 6, .int 6, .int 1, .int 0, .long 0, .long 0, .int 0, .int 0, .int 0, .ref nk0, .ref nk1, .ref nk2, .ref nk3, .ref nk4, .ref nk5, .ref nk6])), (nk0, .inl (cy 1, 5, .inl (fun _ => 0))), (nk1, .inl (cy 1, 5, .inl (fun _ => 0))), (nk2, .inl (cy 1, 5, .inl (fun _ => 0))), (nk3, .inl (cy 1, 6, .inl (fun _ => 0))), (nk4, .inl (cy 1, 6, .inl (fun _ => 0))), (nk5, .inl (cy 1, 8, .inl (fun _ => 0))), (nk6, .inl (cy 1, 8, .inl (fun _ => 0))), (df, .inr (3, [.int 6, .int 6, .int 1, .int 0, .long 0, .long 0, .int 0, .int 0, .int 0, .ref dk0, .ref dk1, .ref dk2, .ref dk3, .ref dk4, .ref dk5, .ref dk6])), (dk0, .inl (cy 1, 5, .inl (fun _ => 0))), (dk1, .inl (cy 1, 5, .inl (fun _ => 0))), (dk2, .inl (cy 1, 5, .inl (fun _ => 0))), (dk3, .inl (cy 1, 6, .inl (fun _ => 0))), (dk4, .inl (cy 1, 6, .inl (fun _ => 0))), (dk5, .inl (cy 1, 8, .inl (fun _ => 0))), (dk6, .inl (cy 1, 8, .inl (fun _ => 0))), (im, .inl (cy 3, 2, .inr (.inr (.inr (.inr (fun _ => none)))))), (pn, .inr (8, [.ref yb, .int 0, .int 0, .int 0, .int 0, .int 0, .int 0])), (yb, .inl (cy 0, 250, .inl (fun _ => 0))), (w, .inr (4, [.ref g, .ref la0, .ref la1, .ref la2, .ref la3, .ref la4, .ref la5, .int 0, .long 0])), (la0, .inr (7, [])), (la1, .inl (cy 4, 6, .inr (.inr (.inr (.inr (va_up (va_up (va_up (va_up (va_up (va_up (fun _ => none) (0 : Int32).toNatClampNeg (some la0)) (1 : Int32).toNatClampNeg (some la6)) (2 : Int32).toNatClampNeg (some la7)) (3 : Int32).toNatClampNeg (some la8)) (4 : Int32).toNatClampNeg (some la9)) (5 : Int32).toNatClampNeg (some la10))))))), (la2, .inl (cy 1, 5, .inl (fun _ => 0))), (la3, .inl (cy 1, 5, .inl (fun _ => 0))), (la4, .inl (cy 1, 36, .inl (fun _ => 0))), (la5, .inl (cy 1, 36, .inl (fun _ => 0))), (la6, .inr (2, [])), (la7, .inr (1, [])), (la8, .inr (9, [])), (la9, .inr (5, [])), (la10, .inr (0, [])), (pa, .inr (6, [.ref g, .ref w, .ref pb0, .ref pb1, .ref pb2])), (pb0, .inl (cy 1, 36, .inl (fun _ => 0))), (pb1, .inl (cy 1, 1152, .inl (fun _ => 0))), (pb2, .inl (cy 1, 1152, .inl (fun _ => 0))), (mm, .inr (11, [.ref nw, .ref kp, .ref ik, .ref rf, .int 0, .int 0, .ref sd, .ref fr, .ref qu, .int 0, .ref me, .ref by_, .int 0, .int 0, .int 0, .int 0, .int 0, .ref nx, .int 0])), (nw, .inl (cy 1, 122, .inl F)), (kp, .inl (cy 1, 244, .inl (fun _ => 0))), (ik, .inl (cy 2, 2, .inl (fun _ => 0))), (rf, .inl (cy 1, 3, .inl (fun _ => 0))), (sd, .inl (cy 2, 36, .inl (fun _ => 0))), (fr, .inl (cy 1, 1152, .inl (fun _ => 0))), (qu, .inl (cy 1, 1152, .inl (fun _ => 0))), (me, .inl (cy 1, 36, .inl (fun _ => 0))), (by_, .inl (cy 1, 250, .inl (fun _ => 0))), (nx, .inl (cy 1, 122, .inl (fun _ => 0)))] H) (hD : va_D (fun q : Nat => s.heap.size ≤ q) [(h, .inr (10, [.ref g, .ref df, .ref im, .ref pn, .ref w, .ref pa, .int 0, .int 0, .int 0])), (g, .inr (3, [.int 6, .int 6, .int 1, .int 0, .long 0, .long 0, .int 0, .int 0, .int 0, .ref nk0, .ref nk1, .ref nk2, .ref nk3, .ref nk4, .ref nk5, .ref nk6])), (nk0, .inl (cy 1, 5, .inl (fun _ => 0))), (nk1, .inl (cy 1, 5, .inl (fun _ => 0))), (nk2, .inl (cy 1, 5, .inl (fun _ => 0))), (nk3, .inl (cy 1, 6, .inl (fun _ => 0))), (nk4, .inl (cy 1, 6, .inl (fun _ => 0))), (nk5, .inl (cy 1, 8, .inl (fun _ => 0))), (nk6, .inl (cy 1, 8, .inl (fun _ => 0))), (df, .inr (3, [.int 6, .int 6, .int 1, .int 0, .long 0, .long 0, .int 0, .int 0, .int 0, .ref dk0, .ref dk1, .ref dk2, .ref dk3, .ref dk4, .ref dk5, .ref dk6])), (dk0, .inl (cy 1, 5, .inl (fun _ => 0))), (dk1, .inl (cy 1, 5, .inl (fun _ => 0))), (dk2, .inl (cy 1, 5, .inl (fun _ => 0))), (dk3, .inl (cy 1, 6, .inl (fun _ => 0))), (dk4, .inl (cy 1, 6, .inl (fun _ => 0))), (dk5, .inl (cy 1, 8, .inl (fun _ => 0))), (dk6, .inl (cy 1, 8, .inl (fun _ => 0))), (im, .inl (cy 3, 2, .inr (.inr (.inr (.inr (fun _ => none)))))), (pn, .inr (8, [.ref yb, .int 0, .int 0, .int 0, .int 0, .int 0, .int 0])), (yb, .inl (cy 0, 250, .inl (fun _ => 0))), (w, .inr (4, [.ref g, .ref la0, .ref la1, .ref la2, .ref la3, .ref la4, .ref la5, .int 0, .long 0])), (la0, .inr (7, [])), (la1, .inl (cy 4, 6, .inr (.inr (.inr (.inr (va_up (va_up (va_up (va_up (va_up (va_up (fun _ => none) (0 : Int32).toNatClampNeg (some la0)) (1 : Int32).toNatClampNeg (some la6)) (2 : Int32).toNatClampNeg (some la7)) (3 : Int32).toNatClampNeg (some la8)) (4 : Int32).toNatClampNeg (some la9)) (5 : Int32).toNatClampNeg (some la10))))))), (la2, .inl (cy 1, 5, .inl (fun _ => 0))), (la3, .inl (cy 1, 5, .inl (fun _ => 0))), (la4, .inl (cy 1, 36, .inl (fun _ => 0))), (la5, .inl (cy 1, 36, .inl (fun _ => 0))), (la6, .inr (2, [])), (la7, .inr (1, [])), (la8, .inr (9, [])), (la9, .inr (5, [])), (la10, .inr (0, [])), (pa, .inr (6, [.ref g, .ref w, .ref pb0, .ref pb1, .ref pb2])), (pb0, .inl (cy 1, 36, .inl (fun _ => 0))), (pb1, .inl (cy 1, 1152, .inl (fun _ => 0))), (pb2, .inl (cy 1, 1152, .inl (fun _ => 0))), (mm, .inr (11, [.ref nw, .ref kp, .ref ik, .ref rf, .int 0, .int 0, .ref sd, .ref fr, .ref qu, .int 0, .ref me, .ref by_, .int 0, .int 0, .int 0, .int 0, .int 0, .ref nx, .int 0])), (nw, .inl (cy 1, 122, .inl F)), (kp, .inl (cy 1, 244, .inl (fun _ => 0))), (ik, .inl (cy 2, 2, .inl (fun _ => 0))), (rf, .inl (cy 1, 3, .inl (fun _ => 0))), (sd, .inl (cy 2, 36, .inl (fun _ => 0))), (fr, .inl (cy 1, 1152, .inl (fun _ => 0))), (qu, .inl (cy 1, 1152, .inl (fun _ => 0))), (me, .inl (cy 1, 36, .inl (fun _ => 0))), (by_, .inl (cy 1, 250, .inl (fun _ => 0))), (nx, .inl (cy 1, 122, .inl (fun _ => 0)))]) (hS : va_S (fun q : Nat => s.heap.size ≤ q) s.heap H locs) (ls : Array Slot) (hl : lv_has ls 4 [(0, .ref b), (1, .ref h), (2, .ref mm), (3, .int 0)]) : W p l e room_1 s m #[Value.ref b] below meth c H locs 47 5966 (lw_Z below #[Value.ref b] s) (F0 m 26 ls []) := by
  obtain ⟨hx, hb, hr, hml, hown, hts, hX, hbl, hlocks, hgv⟩ := id C0
  have hbA : ¬ (fun q : Nat => s.heap.size ≤ q) b := Nat.not_le.mpr hbl
  refine lv_aload_n hx hb dL_law_26 rfl (lv_at hl 0 rfl) ?_
  refine lv_iload_n hx hb dL_law_27 rfl (lv_at hl 3 rfl) ?_
  refine va_sld hx hb hX hbl hbA hS (by rw [vp_in_iff]; decide +kernel) dL_law_28 ?_
  refine lv_bipush (v := 31) hx hb dL_law_29 (by decide) ?_
  refine lv_iand hx hb dL_law_31 ?_
  refine lv_topi (fun y ey => ?_)
  by_cases z0 : y = 0
  · refine lv_tableIn (tgt := 172) hx hb dL_law_32 (by rw [z0]; decide) (by rw [z0]; decide) (by rw [z0]; rfl) (by decide) ?_
    exact law_c0 C0 h g nk0 nk1 nk2 nk3 nk4 nk5 nk6 df dk0 dk1 dk2 dk3 dk4 dk5 dk6 im pn yb w la0 la1 la2 la3 la4 la5 la6 la7 la8 la9 la10 pa pb0 pb1 pb2 mm nw kp ik rf sd fr qu me by_ nx F h0 h1 h2 hz H _ hKA hP hD hS ls hl
  by_cases z1 : y = 1
  · refine lv_tableIn (tgt := 205) hx hb dL_law_32 (by rw [z1]; decide) (by rw [z1]; decide) (by rw [z1]; rfl) (by decide) ?_
    by_cases hz3 : xs (3 : Int32).toNatClampNeg = 0
    · exact law_c1f C0 h g nk0 nk1 nk2 nk3 nk4 nk5 nk6 df dk0 dk1 dk2 dk3 dk4 dk5 dk6 im pn yb w la0 la1 la2 la3 la4 la5 la6 la7 la8 la9 la10 pa pb0 pb1 pb2 mm nw kp ik rf sd fr qu me by_ nx F h0 h1 h2 hz hz3 H _ hKA hP hD hS ls hl
    · exact law_c1t C0 h g nk0 nk1 nk2 nk3 nk4 nk5 nk6 df dk0 dk1 dk2 dk3 dk4 dk5 dk6 im pn yb w la0 la1 la2 la3 la4 la5 la6 la7 la8 la9 la10 pa pb0 pb1 pb2 mm nw kp ik rf sd fr qu me by_ nx F h0 h1 h2 hz hz3 H _ hKA hP hD hS ls hl
  by_cases z2 : y = 2
  · refine lv_tableIn (tgt := 264) hx hb dL_law_32 (by rw [z2]; decide) (by rw [z2]; decide) (by rw [z2]; rfl) (by decide) ?_
    exact law_c2 C0 h g nk0 nk1 nk2 nk3 nk4 nk5 nk6 df dk0 dk1 dk2 dk3 dk4 dk5 dk6 im pn yb w la0 la1 la2 la3 la4 la5 la6 la7 la8 la9 la10 pa pb0 pb1 pb2 mm nw kp ik rf sd fr qu me by_ nx F h0 h1 h2 hz H _ hKA hP hD hS ls hl
  by_cases z3 : y = 3
  · refine lv_tableIn (tgt := 297) hx hb dL_law_32 (by rw [z3]; decide) (by rw [z3]; decide) (by rw [z3]; rfl) (by decide) ?_
    exact law_c3 C0 h g nk0 nk1 nk2 nk3 nk4 nk5 nk6 df dk0 dk1 dk2 dk3 dk4 dk5 dk6 im pn yb w la0 la1 la2 la3 la4 la5 la6 la7 la8 la9 la10 pa pb0 pb1 pb2 mm nw kp ik rf sd fr qu me by_ nx F h0 h1 h2 hz H _ hKA hP hD hS ls hl
  by_cases z4 : y = 4
  · refine lv_tableIn (tgt := 340) hx hb dL_law_32 (by rw [z4]; decide) (by rw [z4]; decide) (by rw [z4]; rfl) (by decide) ?_
    exact law_c4 C0 h g nk0 nk1 nk2 nk3 nk4 nk5 nk6 df dk0 dk1 dk2 dk3 dk4 dk5 dk6 im pn yb w la0 la1 la2 la3 la4 la5 la6 la7 la8 la9 la10 pa pb0 pb1 pb2 mm nw kp ik rf sd fr qu me by_ nx F h0 h1 h2 hz H _ hKA hP hD hS ls hl
  by_cases z5 : y = 5
  · refine lv_tableIn (tgt := 373) hx hb dL_law_32 (by rw [z5]; decide) (by rw [z5]; decide) (by rw [z5]; rfl) (by decide) ?_
    exact law_c5 C0 h g nk0 nk1 nk2 nk3 nk4 nk5 nk6 df dk0 dk1 dk2 dk3 dk4 dk5 dk6 im pn yb w la0 la1 la2 la3 la4 la5 la6 la7 la8 la9 la10 pa pb0 pb1 pb2 mm nw kp ik rf sd fr qu me by_ nx F h0 h1 h2 hz H _ hKA hP hD hS ls hl
  by_cases z6 : y = 6
  · refine lv_tableIn (tgt := 406) hx hb dL_law_32 (by rw [z6]; decide) (by rw [z6]; decide) (by rw [z6]; rfl) (by decide) ?_
    exact law_c6 C0 h g nk0 nk1 nk2 nk3 nk4 nk5 nk6 df dk0 dk1 dk2 dk3 dk4 dk5 dk6 im pn yb w la0 la1 la2 la3 la4 la5 la6 la7 la8 la9 la10 pa pb0 pb1 pb2 mm nw kp ik rf sd fr qu me by_ nx F h0 h1 h2 hz H _ hKA hP hD hS ls hl
  by_cases z7 : y = 7
  · refine lv_tableIn (tgt := 439) hx hb dL_law_32 (by rw [z7]; decide) (by rw [z7]; decide) (by rw [z7]; rfl) (by decide) ?_
    exact law_c7 C0 h g nk0 nk1 nk2 nk3 nk4 nk5 nk6 df dk0 dk1 dk2 dk3 dk4 dk5 dk6 im pn yb w la0 la1 la2 la3 la4 la5 la6 la7 la8 la9 la10 pa pb0 pb1 pb2 mm nw kp ik rf sd fr qu me by_ nx F h0 h1 h2 hz H _ hKA hP hD hS ls hl
  by_cases z8 : y = 8
  · refine lv_tableIn (tgt := 462) hx hb dL_law_32 (by rw [z8]; decide) (by rw [z8]; decide) (by rw [z8]; rfl) (by decide) ?_
    exact law_c8 C0 h g nk0 nk1 nk2 nk3 nk4 nk5 nk6 df dk0 dk1 dk2 dk3 dk4 dk5 dk6 im pn yb w la0 la1 la2 la3 la4 la5 la6 la7 la8 la9 la10 pa pb0 pb1 pb2 mm nw kp ik rf sd fr qu me by_ nx F h0 h1 h2 hz H _ hKA hP hD hS ls hl
  by_cases z9 : y = 9
  · refine lv_tableIn (tgt := 525) hx hb dL_law_32 (by rw [z9]; decide) (by rw [z9]; decide) (by rw [z9]; rfl) (by decide) ?_
    exact law_c9 C0 h g nk0 nk1 nk2 nk3 nk4 nk5 nk6 df dk0 dk1 dk2 dk3 dk4 dk5 dk6 im pn yb w la0 la1 la2 la3 la4 la5 la6 la7 la8 la9 la10 pa pb0 pb1 pb2 mm nw kp ik rf sd fr qu me by_ nx F h0 h1 h2 hz H _ hKA hP hD hS ls hl
  by_cases z10 : y = 10
  · refine lv_tableIn (tgt := 538) hx hb dL_law_32 (by rw [z10]; decide) (by rw [z10]; decide) (by rw [z10]; rfl) (by decide) ?_
    exact law_c10 C0 h g nk0 nk1 nk2 nk3 nk4 nk5 nk6 df dk0 dk1 dk2 dk3 dk4 dk5 dk6 im pn yb w la0 la1 la2 la3 la4 la5 la6 la7 la8 la9 la10 pa pb0 pb1 pb2 mm nw kp ik rf sd fr qu me by_ nx F h0 h1 h2 hz H _ hKA hP hD hS ls hl
  by_cases z11 : y = 11
  · refine lv_tableIn (tgt := 551) hx hb dL_law_32 (by rw [z11]; decide) (by rw [z11]; decide) (by rw [z11]; rfl) (by decide) ?_
    exact law_c11 C0 h g nk0 nk1 nk2 nk3 nk4 nk5 nk6 df dk0 dk1 dk2 dk3 dk4 dk5 dk6 im pn yb w la0 la1 la2 la3 la4 la5 la6 la7 la8 la9 la10 pa pb0 pb1 pb2 mm nw kp ik rf sd fr qu me by_ nx F h0 h1 h2 hz H _ hKA hP hD hS ls hl
  by_cases z12 : y = 12
  · refine lv_tableIn (tgt := 584) hx hb dL_law_32 (by rw [z12]; decide) (by rw [z12]; decide) (by rw [z12]; rfl) (by decide) ?_
    exact law_c12 C0 h g nk0 nk1 nk2 nk3 nk4 nk5 nk6 df dk0 dk1 dk2 dk3 dk4 dk5 dk6 im pn yb w la0 la1 la2 la3 la4 la5 la6 la7 la8 la9 la10 pa pb0 pb1 pb2 mm nw kp ik rf sd fr qu me by_ nx F h0 h1 h2 hz H _ hKA hP hD hS ls hl
  by_cases z13 : y = 13
  · refine lv_tableIn (tgt := 627) hx hb dL_law_32 (by rw [z13]; decide) (by rw [z13]; decide) (by rw [z13]; rfl) (by decide) ?_
    exact law_c13 C0 h g nk0 nk1 nk2 nk3 nk4 nk5 nk6 df dk0 dk1 dk2 dk3 dk4 dk5 dk6 im pn yb w la0 la1 la2 la3 la4 la5 la6 la7 la8 la9 la10 pa pb0 pb1 pb2 mm nw kp ik rf sd fr qu me by_ nx F h0 h1 h2 hz H _ hKA hP hD hS ls hl
  by_cases z14 : y = 14
  · refine lv_tableIn (tgt := 650) hx hb dL_law_32 (by rw [z14]; decide) (by rw [z14]; decide) (by rw [z14]; rfl) (by decide) ?_
    exact law_c14 C0 h g nk0 nk1 nk2 nk3 nk4 nk5 nk6 df dk0 dk1 dk2 dk3 dk4 dk5 dk6 im pn yb w la0 la1 la2 la3 la4 la5 la6 la7 la8 la9 la10 pa pb0 pb1 pb2 mm nw kp ik rf sd fr qu me by_ nx F h0 h1 h2 hz H _ hKA hP hD hS ls hl
  by_cases z15 : y = 15
  · refine lv_tableIn (tgt := 663) hx hb dL_law_32 (by rw [z15]; decide) (by rw [z15]; decide) (by rw [z15]; rfl) (by decide) ?_
    exact law_c15 C0 h g nk0 nk1 nk2 nk3 nk4 nk5 nk6 df dk0 dk1 dk2 dk3 dk4 dk5 dk6 im pn yb w la0 la1 la2 la3 la4 la5 la6 la7 la8 la9 la10 pa pb0 pb1 pb2 mm nw kp ik rf sd fr qu me by_ nx F h0 h1 h2 hz H _ hKA hP hD hS ls hl
  by_cases z16 : y = 16
  · refine lv_tableIn (tgt := 686) hx hb dL_law_32 (by rw [z16]; decide) (by rw [z16]; decide) (by rw [z16]; rfl) (by decide) ?_
    exact law_c16 C0 h g nk0 nk1 nk2 nk3 nk4 nk5 nk6 df dk0 dk1 dk2 dk3 dk4 dk5 dk6 im pn yb w la0 la1 la2 la3 la4 la5 la6 la7 la8 la9 la10 pa pb0 pb1 pb2 mm nw kp ik rf sd fr qu me by_ nx F h0 h1 h2 hz H _ hKA hP hD hS ls hl
  by_cases z17 : y = 17
  · refine lv_tableIn (tgt := 709) hx hb dL_law_32 (by rw [z17]; decide) (by rw [z17]; decide) (by rw [z17]; rfl) (by decide) ?_
    exact law_c17 C0 h g nk0 nk1 nk2 nk3 nk4 nk5 nk6 df dk0 dk1 dk2 dk3 dk4 dk5 dk6 im pn yb w la0 la1 la2 la3 la4 la5 la6 la7 la8 la9 la10 pa pb0 pb1 pb2 mm nw kp ik rf sd fr qu me by_ nx F h0 h1 h2 hz H _ hKA hP hD hS ls hl
  by_cases z18 : y = 18
  · refine lv_tableIn (tgt := 742) hx hb dL_law_32 (by rw [z18]; decide) (by rw [z18]; decide) (by rw [z18]; rfl) (by decide) ?_
    exact law_c18 C0 h g nk0 nk1 nk2 nk3 nk4 nk5 nk6 df dk0 dk1 dk2 dk3 dk4 dk5 dk6 im pn yb w la0 la1 la2 la3 la4 la5 la6 la7 la8 la9 la10 pa pb0 pb1 pb2 mm nw kp ik rf sd fr qu me by_ nx F h0 h1 h2 hz H _ hKA hP hD hS ls hl
  by_cases z19 : y = 19
  · refine lv_tableIn (tgt := 765) hx hb dL_law_32 (by rw [z19]; decide) (by rw [z19]; decide) (by rw [z19]; rfl) (by decide) ?_
    exact law_c19 C0 h g nk0 nk1 nk2 nk3 nk4 nk5 nk6 df dk0 dk1 dk2 dk3 dk4 dk5 dk6 im pn yb w la0 la1 la2 la3 la4 la5 la6 la7 la8 la9 la10 pa pb0 pb1 pb2 mm nw kp ik rf sd fr qu me by_ nx F h0 h1 h2 hz H _ hKA hP hD hS ls hl
  by_cases z20 : y = 20
  · refine lv_tableIn (tgt := 818) hx hb dL_law_32 (by rw [z20]; decide) (by rw [z20]; decide) (by rw [z20]; rfl) (by decide) ?_
    exact law_c20 C0 h g nk0 nk1 nk2 nk3 nk4 nk5 nk6 df dk0 dk1 dk2 dk3 dk4 dk5 dk6 im pn yb w la0 la1 la2 la3 la4 la5 la6 la7 la8 la9 la10 pa pb0 pb1 pb2 mm nw kp ik rf sd fr qu me by_ nx F h0 h1 h2 hz H _ hKA hP hD hS ls hl
  by_cases z21 : y = 21
  · refine lv_tableIn (tgt := 851) hx hb dL_law_32 (by rw [z21]; decide) (by rw [z21]; decide) (by rw [z21]; rfl) (by decide) ?_
    exact law_c21 C0 h g nk0 nk1 nk2 nk3 nk4 nk5 nk6 df dk0 dk1 dk2 dk3 dk4 dk5 dk6 im pn yb w la0 la1 la2 la3 la4 la5 la6 la7 la8 la9 la10 pa pb0 pb1 pb2 mm nw kp ik rf sd fr qu me by_ nx F h0 h1 h2 hz H _ hKA hP hD hS ls hl
  by_cases z22 : y = 22
  · refine lv_tableIn (tgt := 884) hx hb dL_law_32 (by rw [z22]; decide) (by rw [z22]; decide) (by rw [z22]; rfl) (by decide) ?_
    exact law_c22 C0 h g nk0 nk1 nk2 nk3 nk4 nk5 nk6 df dk0 dk1 dk2 dk3 dk4 dk5 dk6 im pn yb w la0 la1 la2 la3 la4 la5 la6 la7 la8 la9 la10 pa pb0 pb1 pb2 mm nw kp ik rf sd fr qu me by_ nx F h0 h1 h2 hz H _ hKA hP hD hS ls hl
  by_cases z23 : y = 23
  · refine lv_tableIn (tgt := 897) hx hb dL_law_32 (by rw [z23]; decide) (by rw [z23]; decide) (by rw [z23]; rfl) (by decide) ?_
    exact law_c23 C0 h g nk0 nk1 nk2 nk3 nk4 nk5 nk6 df dk0 dk1 dk2 dk3 dk4 dk5 dk6 im pn yb w la0 la1 la2 la3 la4 la5 la6 la7 la8 la9 la10 pa pb0 pb1 pb2 mm nw kp ik rf sd fr qu me by_ nx F h0 h1 h2 hz H _ hKA hP hD hS ls hl
  by_cases z24 : y = 24
  · refine lv_tableIn (tgt := 920) hx hb dL_law_32 (by rw [z24]; decide) (by rw [z24]; decide) (by rw [z24]; rfl) (by decide) ?_
    exact law_c24 C0 h g nk0 nk1 nk2 nk3 nk4 nk5 nk6 df dk0 dk1 dk2 dk3 dk4 dk5 dk6 im pn yb w la0 la1 la2 la3 la4 la5 la6 la7 la8 la9 la10 pa pb0 pb1 pb2 mm nw kp ik rf sd fr qu me by_ nx F h0 h1 h2 hz H _ hKA hP hD hS ls hl
  by_cases z25 : y = 25
  · refine lv_tableIn (tgt := 953) hx hb dL_law_32 (by rw [z25]; decide) (by rw [z25]; decide) (by rw [z25]; rfl) (by decide) ?_
    exact law_c25 C0 h g nk0 nk1 nk2 nk3 nk4 nk5 nk6 df dk0 dk1 dk2 dk3 dk4 dk5 dk6 im pn yb w la0 la1 la2 la3 la4 la5 la6 la7 la8 la9 la10 pa pb0 pb1 pb2 mm nw kp ik rf sd fr qu me by_ nx F h0 h1 h2 hz H _ hKA hP hD hS ls hl
  by_cases z26 : y = 26
  · refine lv_tableIn (tgt := 986) hx hb dL_law_32 (by rw [z26]; decide) (by rw [z26]; decide) (by rw [z26]; rfl) (by decide) ?_
    exact law_c26 C0 h g nk0 nk1 nk2 nk3 nk4 nk5 nk6 df dk0 dk1 dk2 dk3 dk4 dk5 dk6 im pn yb w la0 la1 la2 la3 la4 la5 la6 la7 la8 la9 la10 pa pb0 pb1 pb2 mm nw kp ik rf sd fr qu me by_ nx F h0 h1 h2 hz H _ hKA hP hD hS ls hl
  by_cases z27 : y = 27
  · refine lv_tableIn (tgt := 1009) hx hb dL_law_32 (by rw [z27]; decide) (by rw [z27]; decide) (by rw [z27]; rfl) (by decide) ?_
    exact law_c27 C0 h g nk0 nk1 nk2 nk3 nk4 nk5 nk6 df dk0 dk1 dk2 dk3 dk4 dk5 dk6 im pn yb w la0 la1 la2 la3 la4 la5 la6 la7 la8 la9 la10 pa pb0 pb1 pb2 mm nw kp ik rf sd fr qu me by_ nx F h0 h1 h2 hz H _ hKA hP hD hS ls hl
  by_cases z28 : y = 28
  · refine lv_tableIn (tgt := 1032) hx hb dL_law_32 (by rw [z28]; decide) (by rw [z28]; decide) (by rw [z28]; rfl) (by decide) ?_
    exact law_c28 C0 h g nk0 nk1 nk2 nk3 nk4 nk5 nk6 df dk0 dk1 dk2 dk3 dk4 dk5 dk6 im pn yb w la0 la1 la2 la3 la4 la5 la6 la7 la8 la9 la10 pa pb0 pb1 pb2 mm nw kp ik rf sd fr qu me by_ nx F h0 h1 h2 hz H _ hKA hP hD hS ls hl
  by_cases z29 : y = 29
  · refine lv_tableIn (tgt := 1055) hx hb dL_law_32 (by rw [z29]; decide) (by rw [z29]; decide) (by rw [z29]; rfl) (by decide) ?_
    exact law_c29 C0 h g nk0 nk1 nk2 nk3 nk4 nk5 nk6 df dk0 dk1 dk2 dk3 dk4 dk5 dk6 im pn yb w la0 la1 la2 la3 la4 la5 la6 la7 la8 la9 la10 pa pb0 pb1 pb2 mm nw kp ik rf sd fr qu me by_ nx F h0 h1 h2 hz H _ hKA hP hD hS ls hl
  by_cases z30 : y = 30
  · refine lv_tableIn (tgt := 1078) hx hb dL_law_32 (by rw [z30]; decide) (by rw [z30]; decide) (by rw [z30]; rfl) (by decide) ?_
    exact law_c30 C0 h g nk0 nk1 nk2 nk3 nk4 nk5 nk6 df dk0 dk1 dk2 dk3 dk4 dk5 dk6 im pn yb w la0 la1 la2 la3 la4 la5 la6 la7 la8 la9 la10 pa pb0 pb1 pb2 mm nw kp ik rf sd fr qu me by_ nx F h0 h1 h2 hz H _ hKA hP hD hS ls hl
  refine lv_tableOut (tgt := 1092) hx hb dL_law_32 (z_out z0 z1 z2 z3 z4 z5 z6 z7 z8 z9 z10 z11 z12 z13 z14 z15 z16 z17 z18 z19 z20 z21 z22 z23 z24 z25 z26 z27 z28 z29 z30) (by decide) ?_
  exact law_tail C0 H _ ls hS (lv_sub hl [0, 3] rfl) (Nat.le_of_ble_eq_true rfl) (Nat.le_of_ble_eq_true rfl)
