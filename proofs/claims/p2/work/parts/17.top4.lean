theorem dX10_status_0 : decode cX10_status 0 = .ok (.iload_n 1, 1) := by decide +kernel
theorem dX10_status_1 : decode cX10_status 1 = .ok (.tableswitch 42 0 2 #[27, 32, 37], 27) := by decide +kernel
theorem dX10_status_28 : decode cX10_status 28 = .ok (.aload_n 0, 1) := by decide +kernel
theorem dX10_status_29 : decode cX10_status 29 = .ok (.getfield 204, 3) := by decide +kernel
theorem dX10_status_32 : decode cX10_status 32 = .ok (.ireturn, 1) := by decide +kernel
theorem dX10_status_33 : decode cX10_status 33 = .ok (.aload_n 0, 1) := by decide +kernel
theorem dX10_status_34 : decode cX10_status 34 = .ok (.getfield 207, 3) := by decide +kernel
theorem dX10_status_37 : decode cX10_status 37 = .ok (.ireturn, 1) := by decide +kernel
theorem dX10_status_38 : decode cX10_status 38 = .ok (.aload_n 0, 1) := by decide +kernel
theorem dX10_status_39 : decode cX10_status 39 = .ok (.getfield 210, 3) := by decide +kernel
theorem dX10_status_42 : decode cX10_status 42 = .ok (.ireturn, 1) := by decide +kernel
theorem dX10_status_43 : decode cX10_status 43 = .ok (.aload_n 0, 1) := by decide +kernel
theorem dX10_status_44 : decode cX10_status 44 = .ok (.iconst (-1), 1) := by decide +kernel
set_option maxRecDepth 20000 in
theorem ggX10_status_X10_refuseBad : GoodIn wsX10_status wsX10_refuseBad := goodIn_r _ [8, 1, 9, 10, 11, 12, 13, 14, 15, 16, 17] (by decide +kernel) (by decide +kernel)
set_option maxRecDepth 20000 in
theorem gX10_status_X10_refuseBad : GoodIn wsX10_status (wsV RX10 52 RX10 yX10_refuseBad wsX10_refuseBad) := goodIn_app (goodIn_of _ (by decide +kernel)) ggX10_status_X10_refuseBad
theorem dX10_status_45 : decode cX10_status 45 = .ok (.invokevirtual 52, 3) := by decide +kernel
theorem dX10_status_48 : decode cX10_status 48 = .ok (.ireturn, 1) := by decide +kernel
theorem dX10_count_0 : decode cX10_count 0 = .ok (.aload_n 0, 1) := by decide +kernel
theorem dX10_count_1 : decode cX10_count 1 = .ok (.iload_n 1, 1) := by decide +kernel
set_option maxRecDepth 20000 in
theorem ggX10_count_X10_howMany : GoodIn wsX10_count wsX10_howMany := goodIn_r _ [5, 6, 7, 8, 9, 10, 11, 12, 13, 14, 15, 16, 17, 18, 19, 20, 21, 22, 23, 24, 25, 26, 27, 33, 34, 35, 36, 37, 38, 39, 40, 41, 42, 43, 44, 45, 46, 47, 48, 49, 50, 51, 52, 53, 54, 55, 56, 57, 58, 59, 60, 61, 62, 63, 64] (by decide +kernel) (by decide +kernel)
set_option maxRecDepth 20000 in
theorem gX10_count_X10_howMany : GoodIn wsX10_count (wsV RX10 213 RX10 yX10_howMany wsX10_howMany) := goodIn_app (goodIn_of _ (by decide +kernel)) ggX10_count_X10_howMany
theorem dX10_count_2 : decode cX10_count 2 = .ok (.invokevirtual 213, 3) := by decide +kernel
theorem dX10_count_5 : decode cX10_count 5 = .ok (.istore_n 2, 1) := by decide +kernel
theorem dX10_count_6 : decode cX10_count 6 = .ok (.iload_n 2, 1) := by decide +kernel
theorem dX10_count_7 : decode cX10_count 7 = .ok (.iconst (-1), 1) := by decide +kernel
theorem dX10_count_8 : decode cX10_count 8 = .ok (.if_icmp .ne 12, 3) := by decide +kernel
theorem dX10_count_20 : decode cX10_count 20 = .ok (.iload_n 2, 1) := by decide +kernel
theorem dX10_count_21 : decode cX10_count 21 = .ok (.ireturn, 1) := by decide +kernel
theorem dX10_count_11 : decode cX10_count 11 = .ok (.aload_n 0, 1) := by decide +kernel
theorem dX10_count_12 : decode cX10_count 12 = .ok (.bipush (-2), 2) := by decide +kernel
set_option maxRecDepth 20000 in
theorem ggX10_count_X10_refuseBad : GoodIn wsX10_count wsX10_refuseBad := goodIn_r _ [31, 32, 33, 34, 35, 36, 37, 38, 39, 40, 41] (by decide +kernel) (by decide +kernel)
set_option maxRecDepth 20000 in
theorem gX10_count_X10_refuseBad : GoodIn wsX10_count (wsV RX10 52 RX10 yX10_refuseBad wsX10_refuseBad) := goodIn_app (goodIn_of _ (by decide +kernel)) ggX10_count_X10_refuseBad
theorem dX10_count_14 : decode cX10_count 14 = .ok (.invokevirtual 52, 3) := by decide +kernel
theorem dX10_count_17 : decode cX10_count 17 = .ok (.goto 4, 3) := by decide +kernel
theorem dX10_digest_0 : decode cX10_digest 0 = .ok (.ldc2_w 216, 3) := by decide +kernel
theorem dX10_digest_3 : decode cX10_digest 3 = .ok (.lstore_n 1, 1) := by decide +kernel
theorem dX10_digest_4 : decode cX10_digest 4 = .ok (.iconst 0, 1) := by decide +kernel
theorem dX10_digest_5 : decode cX10_digest 5 = .ok (.istore_n 3, 1) := by decide +kernel
theorem dX10_digest_6 : decode cX10_digest 6 = .ok (.iload_n 3, 1) := by decide +kernel
theorem dX10_digest_7 : decode cX10_digest 7 = .ok (.bipush 6, 2) := by decide +kernel
theorem dX10_digest_9 : decode cX10_digest 9 = .ok (.if_icmp .gt 22, 3) := by decide +kernel
theorem dX10_digest_31 : decode cX10_digest 31 = .ok (.aload_n 0, 1) := by decide +kernel
theorem dX10_digest_32 : decode cX10_digest 32 = .ok (.getfield 10, 3) := by decide +kernel
theorem dX10_digest_35 : decode cX10_digest 35 = .ok (.lload_n 1, 1) := by decide +kernel
set_option maxRecDepth 20000 in
theorem ggX10_digest_X3_digestAfter : GoodIn wsX10_digest wsX3_digestAfter := goodIn_r _ [33, 34, 28, 35, 36, 37, 38, 39, 40, 41, 42, 43, 44, 45, 46, 47, 24, 25, 26, 27, 29, 48, 49, 50, 51, 52, 53, 54, 7, 55, 65, 66, 67, 68, 69, 70, 71, 72, 73, 74, 75, 76, 77, 78, 79, 80] (by decide +kernel) (by decide +kernel)
set_option maxRecDepth 20000 in
theorem gX10_digest_X3_digestAfter : GoodIn wsX10_digest (wsV RX10 220 RX3 yX3_digestAfter wsX3_digestAfter) := goodIn_app (goodIn_of _ (by decide +kernel)) ggX10_digest_X3_digestAfter
theorem dX10_digest_36 : decode cX10_digest 36 = .ok (.invokevirtual 220, 3) := by decide +kernel
theorem dX10_digest_39 : decode cX10_digest 39 = .ok (.lreturn, 1) := by decide +kernel
theorem dX10_digest_12 : decode cX10_digest 12 = .ok (.ldc2_w 218, 3) := by decide +kernel
theorem dX10_digest_15 : decode cX10_digest 15 = .ok (.lload_n 1, 1) := by decide +kernel
theorem dX10_digest_16 : decode cX10_digest 16 = .ok (.lmul, 1) := by decide +kernel
theorem dX10_digest_17 : decode cX10_digest 17 = .ok (.aload_n 0, 1) := by decide +kernel
theorem dX10_digest_18 : decode cX10_digest 18 = .ok (.iload_n 3, 1) := by decide +kernel
set_option maxRecDepth 20000 in
theorem ggX10_digest_X10_howMany : GoodIn wsX10_digest wsX10_howMany := goodIn_r _ [8, 3, 9, 10, 11, 12, 13, 14, 15, 16, 17, 18, 19, 20, 21, 22, 23, 24, 25, 26, 27, 28, 29, 56, 57, 58, 59, 60, 61, 62, 63, 64, 65, 66, 67, 68, 69, 70, 71, 72, 73, 74, 75, 76, 77, 78, 79, 80, 81, 82, 83, 84, 85, 86, 87] (by decide +kernel) (by decide +kernel)
set_option maxRecDepth 20000 in
theorem gX10_digest_X10_howMany : GoodIn wsX10_digest (wsV RX10 213 RX10 yX10_howMany wsX10_howMany) := goodIn_app (goodIn_of _ (by decide +kernel)) ggX10_digest_X10_howMany
theorem dX10_digest_19 : decode cX10_digest 19 = .ok (.invokevirtual 213, 3) := by decide +kernel
theorem dX10_digest_22 : decode cX10_digest 22 = .ok (.i2l, 1) := by decide +kernel
theorem dX10_digest_23 : decode cX10_digest 23 = .ok (.ladd, 1) := by decide +kernel
theorem dX10_digest_24 : decode cX10_digest 24 = .ok (.lstore_n 1, 1) := by decide +kernel
theorem dX10_digest_25 : decode cX10_digest 25 = .ok (.iinc 3 1, 3) := by decide +kernel
theorem dX10_digest_28 : decode cX10_digest 28 = .ok (.goto (-22), 3) := by decide +kernel
set_option maxHeartbeats 4000000 in
set_option maxRecDepth 100000 in
theorem n_X10_status (l : Launch) (D : va_G) (cy : Nat → ClassId) (a_h : Nat) (a_g : Nat) (a_df : Nat) (a_im : Nat) (a_pn : Nat) (a_w : Nat) (a_pa : Nat) (h_bads : Int32) (h_nos : Int32) (h_fulls : Int32) (px : Int32) (sz : Nat)  : Met l yX10_status wsX10_status ({ frames := 1, cells := 0, slots := 0, locals := 21 }) (va_Pc [.ref a_h, .int px] (kPre D cy [(a_h, .inr (10, [.ref a_g, .ref a_df, .ref a_im, .ref a_pn, .ref a_w, .ref a_pa, .int h_bads, .int h_nos, .int h_fulls]))] sz)) (va_Qi (fun (r : Int32) (u : Int32) => True) (fun (u : Int32) t => va_P D vwCl ([(a_h, .inr (10, [.ref a_g, .ref a_df, .ref a_im, .ref a_pn, .ref a_w, .ref a_pa, .int u, .int h_nos, .int h_fulls]))]) t.heap ∧ va_D (va_A [(a_h, .inr (10, [.ref a_g, .ref a_df, .ref a_im, .ref a_pn, .ref a_w, .ref a_pa, .int h_bads, .int h_nos, .int h_fulls]))] sz) ([(a_h, .inr (10, [.ref a_g, .ref a_df, .ref a_im, .ref a_pn, .ref a_w, .ref a_pa, .int u, .int h_nos, .int h_fulls]))])) (va_A [(a_h, .inr (10, [.ref a_g, .ref a_df, .ref a_im, .ref a_pn, .ref a_w, .ref a_pa, .int h_bads, .int h_nos, .int h_fulls]))] sz)) 0 0 (va_A [(a_h, .inr (10, [.ref a_g, .ref a_df, .ref a_im, .ref a_pn, .ref a_w, .ref a_pa, .int h_bads, .int h_nos, .int h_fulls]))] sz) := by
  refine Met.ofW (cc := cX10_status) (maxL := 2) (ret := (some .int)) (by decide) rfl ?_
  intro p e s m args below meth c s₁ B hml hv
  obtain ⟨rfl, hsz, hP, hKA, hD0⟩ := hv
  have hx := B.exec
  have hb := B.bytes
  have hr := B.returns
  have hts := atoms_spec (ws := wsX10_status) B.pre
  have hown : s.vm.findClass RX10 = some m.cls := findClass_of_methodNamed B.named
  have hlocks := B.notSynchronized
  subst hsz
  have hK := hKA.1
  have hD := hD0.self (sz := s.heap.size)
  generalize hAe : va_A [(a_h, .inr (10, [.ref a_g, .ref a_df, .ref a_im, .ref a_pn, .ref a_w, .ref a_pa, .int h_bads, .int h_nos, .int h_fulls]))] s.heap.size = A at hD ⊢
  have hA : ∀ q : Nat, s.heap.size ≤ q → A q := fun q h => by rw [← hAe]; exact Or.inr h
  have hS : va_S A s.heap s.heap [] := va_S.rf
  have hP : va_P D vwCl [(a_h, .inr (10, [.ref a_g, .ref a_df, .ref a_im, .ref a_pn, .ref a_w, .ref a_pa, .int h_bads, .int h_nos, .int h_fulls]))] s.heap := hP
  have hl := lv_entry ([.ref a_h, .int px]) (n := 2) (Nat.le_of_ble_eq_true rfl)
  rw [lg_entry_eq]
  generalize (lg_sl ([.ref a_h, .int px]) ++ List.replicate (2 - (lg_sl ([.ref a_h, .int px])).length) Slot.unset).toArray = ls at hl ⊢
  have hl : lv_has ls 2 [(0, .ref a_h), (1, .int px)] := hl
  refine qW (fun QF hQF => ?_)
  have z0_ := hts (.fieldLink RX10 204 "HeardSeen" "bads" "I") (by decide +kernel)
  have zi10_ : ∀ w ∈ u_ws RX10 TX10 9, w ∈ wsX10_status := by decide +kernel
  have z2_ := hts (.fieldLink RX10 207 "HeardSeen" "nos" "I") (by decide +kernel)
  have z3_ := hts (.fieldLink RX10 210 "HeardSeen" "fulls" "I") (by decide +kernel)
  refine lv_iload_n hx hb dX10_status_0 rfl (lv_at hl 1 rfl) ?_
  by_cases c1 : px = 0
  · skip
    refine lv_tableIn (tgt := 28) hx hb dX10_status_1 (by rw [c1]; decide) (by rw [c1]; decide) (by rw [c1]; rfl) (by decide) ?_
    refine lv_aload_n hx hb dX10_status_28 rfl (lv_at hl 0 rfl) ?_
    refine va_get (D := D) (ci := 10) (v := .int h_bads) (C := RX10) (T := TX10) (N := 9) hx hb hts zi10_ hown hK hP 0 rfl rfl 6 (by decide) z0_ (fun _ h9 => h9) rfl dX10_status_29 ?_
    subst hQF
    have hP9 := hP
    have hD9 := hD
    exact W.iret (v := h_bads) hx hb hr (fun t ht hW => ⟨⟨h_bads, h_bads, rfl, trivial, by rw [ht]; exact hP9, hD9⟩, hS.F ht⟩) hS.2.2 dX10_status_32
  by_cases c2 : px = 1
  · skip
    refine lv_tableIn (tgt := 33) hx hb dX10_status_1 (by rw [c2]; decide) (by rw [c2]; decide) (by rw [c2]; rfl) (by decide) ?_
    refine lv_aload_n hx hb dX10_status_33 rfl (lv_at hl 0 rfl) ?_
    refine va_get (D := D) (ci := 10) (v := .int h_nos) (C := RX10) (T := TX10) (N := 9) hx hb hts zi10_ hown hK hP 0 rfl rfl 7 (by decide) z2_ (fun _ h9 => h9) rfl dX10_status_34 ?_
    subst hQF
    have hP9 := hP
    have hD9 := hD
    exact W.iret (v := h_nos) hx hb hr (fun t ht hW => ⟨⟨h_nos, h_bads, rfl, trivial, by rw [ht]; exact hP9, hD9⟩, hS.F ht⟩) hS.2.2 dX10_status_37
  by_cases c3 : px = 2
  · skip
    refine lv_tableIn (tgt := 38) hx hb dX10_status_1 (by rw [c3]; decide) (by rw [c3]; decide) (by rw [c3]; rfl) (by decide) ?_
    refine lv_aload_n hx hb dX10_status_38 rfl (lv_at hl 0 rfl) ?_
    refine va_get (D := D) (ci := 10) (v := .int h_fulls) (C := RX10) (T := TX10) (N := 9) hx hb hts zi10_ hown hK hP 0 rfl rfl 8 (by decide) z3_ (fun _ h9 => h9) rfl dX10_status_39 ?_
    subst hQF
    have hP9 := hP
    have hD9 := hD
    exact W.iret (v := h_fulls) hx hb hr (fun t ht hW => ⟨⟨h_fulls, h_bads, rfl, trivial, by rw [ht]; exact hP9, hD9⟩, hS.F ht⟩) hS.2.2 dX10_status_42
  refine lv_tableOut (tgt := 43) hx hb dX10_status_1 (by have q0 : ¬ px.toInt = 0 := fun h2 => absurd (Int32.toInt_inj.mp (h2.trans (by decide : (0 : Int) = (0 : Int32).toInt))) (by assumption); have q1 : ¬ px.toInt = 1 := fun h2 => absurd (Int32.toInt_inj.mp (h2.trans (by decide : (1 : Int) = (1 : Int32).toInt))) (by assumption); have q2 : ¬ px.toInt = 2 := fun h2 => absurd (Int32.toInt_inj.mp (h2.trans (by decide : (2 : Int) = (2 : Int32).toInt))) (by assumption); omega) (by decide) ?_
  refine lv_aload_n hx hb dX10_status_43 rfl (lv_at hl 0 rfl) ?_
  refine lv_iconst (v := (-1)) hx hb dX10_status_44 (by decide) ?_
  refine wr_i (wr := []) (va_runV (As := [.int (-1)]) (rest := []) ⟨hx, hb, hml, hown, hts⟩ (n_X10_refuseBad l D cy a_h a_g a_df a_im a_pn a_w a_pa h_bads h_nos h_fulls (-1) _ ) (cwV 1 hts gX10_status_X10_refuseBad rfl rfl rfl (by decide +kernel) ⟨Nat.le_of_ble_eq_true rfl, Nat.le_of_ble_eq_true rfl⟩) (pV (ci := 10) (k := 0) hKA (hP.sub (ws' := [(a_h, .inr (10, [.ref a_g, .ref a_df, .ref a_im, .ref a_pn, .ref a_w, .ref a_pa, .int h_bads, .int h_nos, .int h_fulls]))]) [0] rfl) (hD.sub (ws' := [(a_h, .inr (10, [.ref a_g, .ref a_df, .ref a_im, .ref a_pn, .ref a_w, .ref a_pa, .int h_bads, .int h_nos, .int h_fulls]))]) [0] (by decide) rfl) rfl rfl) rfl rfl hl.1 rfl (lv_room (Nat.le_of_ble_eq_true rfl)) dX10_status_45 ⟨Nat.le_of_ble_eq_true rfl, Nat.le_of_ble_eq_true rfl⟩) hP hD hS hA [0] [] rfl rfl (by decide +kernel) (by decide +kernel) (fun r4 ur4 H locs hwr4 hP hD hS => ?_)
  obtain ⟨z5, rfl⟩ : ∃ z, z = ur4 := ⟨_, rfl⟩
  have hP : va_P D vwCl [(a_h, .inr (10, [.ref a_g, .ref a_df, .ref a_im, .ref a_pn, .ref a_w, .ref a_pa, .int z5, .int h_nos, .int h_fulls]))] H := hP
  have hD : va_D A [(a_h, .inr (10, [.ref a_g, .ref a_df, .ref a_im, .ref a_pn, .ref a_w, .ref a_pa, .int z5, .int h_nos, .int h_fulls]))] := hD
  have hwr4 : r4 = (-1) := hwr4
  subst hwr4
  subst hQF
  have hP9 := hP
  have hD9 := hD
  exact W.iret (v := (-1)) hx hb hr (fun t ht hW => ⟨⟨(-1), z5, rfl, trivial, by rw [ht]; exact hP9, hD9⟩, hS.F ht⟩) hS.2.2 dX10_status_48

set_option maxHeartbeats 4000000 in
set_option maxRecDepth 100000 in
theorem n_X10_count (l : Launch) (D : va_G) (cy : Nat → ClassId) (a_h : Nat) (a_g : Nat) (a_df : Nat) (a_im : Nat) (a_pn : Nat) (a_w : Nat) (a_pa : Nat) (h_bads : Int32) (h_nos : Int32) (h_fulls : Int32) (g_wide : Int32) (g_high : Int32) (g_drown : Int32) (g_wind : Int32) (g_hedges : Int64) (g_fountains : Int64) (g_people : Int32) (g_tellings : Int32) (g_reports : Int32) (a_g_kinds : Nat) (a_g_squares : Nat) (a_g_voices : Nat) (a_g_tellers : Nat) (a_g_listeners : Nat) (a_g_witnesses : Nat) (a_g_claims : Nat) (a_by : Nat) (pn_length : Int32) (pn_next : Int32) (pn_sort : Int32) (pn_start : Int32) (pn_value : Int32) (pn_fault : Int32) (px : Int32) (sz : Nat)  : Met l yX10_count wsX10_count ({ frames := 2, cells := 0, slots := 0, locals := 42 }) (va_Pc [.ref a_h, .int px] (kPre D cy [(a_h, .inr (10, [.ref a_g, .ref a_df, .ref a_im, .ref a_pn, .ref a_w, .ref a_pa, .int h_bads, .int h_nos, .int h_fulls])), (a_g, .inr (3, [.int g_wide, .int g_high, .int g_drown, .int g_wind, .long g_hedges, .long g_fountains, .int g_people, .int g_tellings, .int g_reports, .ref a_g_kinds, .ref a_g_squares, .ref a_g_voices, .ref a_g_tellers, .ref a_g_listeners, .ref a_g_witnesses, .ref a_g_claims])), (a_pn, .inr (8, [.ref a_by, .int pn_length, .int pn_next, .int pn_sort, .int pn_start, .int pn_value, .int pn_fault]))] sz)) (va_Qi (fun (r : Int32) (u : Int32) => True) (fun (u : Int32) t => va_P D vwCl ([(a_h, .inr (10, [.ref a_g, .ref a_df, .ref a_im, .ref a_pn, .ref a_w, .ref a_pa, .int u, .int h_nos, .int h_fulls])), (a_g, .inr (3, [.int g_wide, .int g_high, .int g_drown, .int g_wind, .long g_hedges, .long g_fountains, .int g_people, .int g_tellings, .int g_reports, .ref a_g_kinds, .ref a_g_squares, .ref a_g_voices, .ref a_g_tellers, .ref a_g_listeners, .ref a_g_witnesses, .ref a_g_claims])), (a_pn, .inr (8, [.ref a_by, .int pn_length, .int pn_next, .int pn_sort, .int pn_start, .int pn_value, .int pn_fault]))]) t.heap ∧ va_D (va_A [(a_h, .inr (10, [.ref a_g, .ref a_df, .ref a_im, .ref a_pn, .ref a_w, .ref a_pa, .int h_bads, .int h_nos, .int h_fulls])), (a_g, .inr (3, [.int g_wide, .int g_high, .int g_drown, .int g_wind, .long g_hedges, .long g_fountains, .int g_people, .int g_tellings, .int g_reports, .ref a_g_kinds, .ref a_g_squares, .ref a_g_voices, .ref a_g_tellers, .ref a_g_listeners, .ref a_g_witnesses, .ref a_g_claims])), (a_pn, .inr (8, [.ref a_by, .int pn_length, .int pn_next, .int pn_sort, .int pn_start, .int pn_value, .int pn_fault]))] sz) ([(a_h, .inr (10, [.ref a_g, .ref a_df, .ref a_im, .ref a_pn, .ref a_w, .ref a_pa, .int u, .int h_nos, .int h_fulls])), (a_g, .inr (3, [.int g_wide, .int g_high, .int g_drown, .int g_wind, .long g_hedges, .long g_fountains, .int g_people, .int g_tellings, .int g_reports, .ref a_g_kinds, .ref a_g_squares, .ref a_g_voices, .ref a_g_tellers, .ref a_g_listeners, .ref a_g_witnesses, .ref a_g_claims])), (a_pn, .inr (8, [.ref a_by, .int pn_length, .int pn_next, .int pn_sort, .int pn_start, .int pn_value, .int pn_fault]))])) (va_A [(a_h, .inr (10, [.ref a_g, .ref a_df, .ref a_im, .ref a_pn, .ref a_w, .ref a_pa, .int h_bads, .int h_nos, .int h_fulls])), (a_g, .inr (3, [.int g_wide, .int g_high, .int g_drown, .int g_wind, .long g_hedges, .long g_fountains, .int g_people, .int g_tellings, .int g_reports, .ref a_g_kinds, .ref a_g_squares, .ref a_g_voices, .ref a_g_tellers, .ref a_g_listeners, .ref a_g_witnesses, .ref a_g_claims])), (a_pn, .inr (8, [.ref a_by, .int pn_length, .int pn_next, .int pn_sort, .int pn_start, .int pn_value, .int pn_fault]))] sz)) 0 0 (va_A [(a_h, .inr (10, [.ref a_g, .ref a_df, .ref a_im, .ref a_pn, .ref a_w, .ref a_pa, .int h_bads, .int h_nos, .int h_fulls])), (a_g, .inr (3, [.int g_wide, .int g_high, .int g_drown, .int g_wind, .long g_hedges, .long g_fountains, .int g_people, .int g_tellings, .int g_reports, .ref a_g_kinds, .ref a_g_squares, .ref a_g_voices, .ref a_g_tellers, .ref a_g_listeners, .ref a_g_witnesses, .ref a_g_claims])), (a_pn, .inr (8, [.ref a_by, .int pn_length, .int pn_next, .int pn_sort, .int pn_start, .int pn_value, .int pn_fault]))] sz) := by
  refine Met.ofW (cc := cX10_count) (maxL := 3) (ret := (some .int)) (by decide) rfl ?_
  intro p e s m args below meth c s₁ B hml hv
  obtain ⟨rfl, hsz, hP, hKA, hD0⟩ := hv
  have hx := B.exec
  have hb := B.bytes
  have hr := B.returns
  have hts := atoms_spec (ws := wsX10_count) B.pre
  have hown : s.vm.findClass RX10 = some m.cls := findClass_of_methodNamed B.named
  have hlocks := B.notSynchronized
  subst hsz
  have hK := hKA.1
  have hD := hD0.self (sz := s.heap.size)
  generalize hAe : va_A [(a_h, .inr (10, [.ref a_g, .ref a_df, .ref a_im, .ref a_pn, .ref a_w, .ref a_pa, .int h_bads, .int h_nos, .int h_fulls])), (a_g, .inr (3, [.int g_wide, .int g_high, .int g_drown, .int g_wind, .long g_hedges, .long g_fountains, .int g_people, .int g_tellings, .int g_reports, .ref a_g_kinds, .ref a_g_squares, .ref a_g_voices, .ref a_g_tellers, .ref a_g_listeners, .ref a_g_witnesses, .ref a_g_claims])), (a_pn, .inr (8, [.ref a_by, .int pn_length, .int pn_next, .int pn_sort, .int pn_start, .int pn_value, .int pn_fault]))] s.heap.size = A at hD ⊢
  have hA : ∀ q : Nat, s.heap.size ≤ q → A q := fun q h => by rw [← hAe]; exact Or.inr h
  have hS : va_S A s.heap s.heap [] := va_S.rf
  have hP : va_P D vwCl [(a_h, .inr (10, [.ref a_g, .ref a_df, .ref a_im, .ref a_pn, .ref a_w, .ref a_pa, .int h_bads, .int h_nos, .int h_fulls])), (a_g, .inr (3, [.int g_wide, .int g_high, .int g_drown, .int g_wind, .long g_hedges, .long g_fountains, .int g_people, .int g_tellings, .int g_reports, .ref a_g_kinds, .ref a_g_squares, .ref a_g_voices, .ref a_g_tellers, .ref a_g_listeners, .ref a_g_witnesses, .ref a_g_claims])), (a_pn, .inr (8, [.ref a_by, .int pn_length, .int pn_next, .int pn_sort, .int pn_start, .int pn_value, .int pn_fault]))] s.heap := hP
  have hl := lv_entry ([.ref a_h, .int px]) (n := 3) (Nat.le_of_ble_eq_true rfl)
  rw [lg_entry_eq]
  generalize (lg_sl ([.ref a_h, .int px]) ++ List.replicate (3 - (lg_sl ([.ref a_h, .int px])).length) Slot.unset).toArray = ls at hl ⊢
  have hl : lv_has ls 3 [(0, .ref a_h), (1, .int px)] := hl
  refine qW (fun QF hQF => ?_)
  refine lv_aload_n hx hb dX10_count_0 rfl (lv_at hl 0 rfl) ?_
  refine lv_iload_n hx hb dX10_count_1 rfl (lv_at hl 1 rfl) ?_
  refine rd_i (va_runV (As := [.int px]) (rest := []) ⟨hx, hb, hml, hown, hts⟩ (n_X10_howMany l D cy a_h a_g a_df a_im a_pn a_w a_pa h_bads h_nos h_fulls g_wide g_high g_drown g_wind g_hedges g_fountains g_people g_tellings g_reports a_g_kinds a_g_squares a_g_voices a_g_tellers a_g_listeners a_g_witnesses a_g_claims a_by pn_length pn_next pn_sort pn_start pn_value pn_fault px _ ) (cwV 1 hts gX10_count_X10_howMany rfl rfl rfl (by decide +kernel) ⟨Nat.le_of_ble_eq_true rfl, Nat.le_of_ble_eq_true rfl⟩) (pV (ci := 10) (k := 0) hKA (hP.sub (ws' := [(a_h, .inr (10, [.ref a_g, .ref a_df, .ref a_im, .ref a_pn, .ref a_w, .ref a_pa, .int h_bads, .int h_nos, .int h_fulls])), (a_g, .inr (3, [.int g_wide, .int g_high, .int g_drown, .int g_wind, .long g_hedges, .long g_fountains, .int g_people, .int g_tellings, .int g_reports, .ref a_g_kinds, .ref a_g_squares, .ref a_g_voices, .ref a_g_tellers, .ref a_g_listeners, .ref a_g_witnesses, .ref a_g_claims])), (a_pn, .inr (8, [.ref a_by, .int pn_length, .int pn_next, .int pn_sort, .int pn_start, .int pn_value, .int pn_fault]))]) [0, 1, 2] rfl) (hD.sub (ws' := [(a_h, .inr (10, [.ref a_g, .ref a_df, .ref a_im, .ref a_pn, .ref a_w, .ref a_pa, .int h_bads, .int h_nos, .int h_fulls])), (a_g, .inr (3, [.int g_wide, .int g_high, .int g_drown, .int g_wind, .long g_hedges, .long g_fountains, .int g_people, .int g_tellings, .int g_reports, .ref a_g_kinds, .ref a_g_squares, .ref a_g_voices, .ref a_g_tellers, .ref a_g_listeners, .ref a_g_witnesses, .ref a_g_claims])), (a_pn, .inr (8, [.ref a_by, .int pn_length, .int pn_next, .int pn_sort, .int pn_start, .int pn_value, .int pn_fault]))]) [0, 1, 2] (by decide) rfl) rfl rfl) rfl rfl hl.1 rfl (lv_room (Nat.le_of_ble_eq_true rfl)) dX10_count_2 ⟨Nat.le_of_ble_eq_true rfl, Nat.le_of_ble_eq_true rfl⟩) hP hS hA (fun r1 H locs hwr1 hP hS => ?_)
  refine lv_istore_n (lv' := [(2, .int r1), (0, .ref a_h), (1, .int px)]) hx hb dX10_count_5 rfl hl (by decide) rfl (fun ls hl => ?_)
  refine lv_iload_n hx hb dX10_count_6 rfl (lv_at hl 0 rfl) ?_
  refine lv_iconst (v := (-1)) hx hb dX10_count_7 (by decide) ?_
  refine lv_icmp_ne (tgt := 20) hx hb dX10_count_8 (by decide) (fun c2 => ?_) (fun c2 => ?_)
  · skip
    refine lv_iload_n hx hb dX10_count_20 rfl (lv_at hl 0 rfl) ?_
    subst hQF
    have hP9 := hP
    have hD9 := hD
    exact W.iret (v := r1) hx hb hr (fun t ht hW => ⟨⟨r1, h_bads, rfl, trivial, by rw [ht]; exact hP9, hD9⟩, hS.F ht⟩) hS.2.2 dX10_count_21
  · skip
    refine lv_aload_n hx hb dX10_count_11 rfl (lv_at hl 1 rfl) ?_
    refine lv_bipush (v := (-2)) hx hb dX10_count_12 (by decide) ?_
    refine wr_i (wr := [(a_g, .inr (3, [.int g_wide, .int g_high, .int g_drown, .int g_wind, .long g_hedges, .long g_fountains, .int g_people, .int g_tellings, .int g_reports, .ref a_g_kinds, .ref a_g_squares, .ref a_g_voices, .ref a_g_tellers, .ref a_g_listeners, .ref a_g_witnesses, .ref a_g_claims])), (a_pn, .inr (8, [.ref a_by, .int pn_length, .int pn_next, .int pn_sort, .int pn_start, .int pn_value, .int pn_fault]))]) (va_runV (As := [.int (-2)]) (rest := []) ⟨hx, hb, hml, hown, hts⟩ (n_X10_refuseBad l D cy a_h a_g a_df a_im a_pn a_w a_pa h_bads h_nos h_fulls (-2) _ ) (cwV 1 hts gX10_count_X10_refuseBad rfl rfl rfl (by decide +kernel) ⟨Nat.le_of_ble_eq_true rfl, Nat.le_of_ble_eq_true rfl⟩) (pV (ci := 10) (k := 0) hKA (hP.sub (ws' := [(a_h, .inr (10, [.ref a_g, .ref a_df, .ref a_im, .ref a_pn, .ref a_w, .ref a_pa, .int h_bads, .int h_nos, .int h_fulls]))]) [0] rfl) (hD.sub (ws' := [(a_h, .inr (10, [.ref a_g, .ref a_df, .ref a_im, .ref a_pn, .ref a_w, .ref a_pa, .int h_bads, .int h_nos, .int h_fulls]))]) [0] (by decide) rfl) rfl rfl) rfl rfl hl.1 rfl (lv_room (Nat.le_of_ble_eq_true rfl)) dX10_count_14 ⟨Nat.le_of_ble_eq_true rfl, Nat.le_of_ble_eq_true rfl⟩) hP hD hS hA [0] [1, 2] rfl rfl (by decide +kernel) (by decide +kernel) (fun r3 ur3 H locs hwr3 hP hD hS => ?_)
    obtain ⟨z4, rfl⟩ : ∃ z, z = ur3 := ⟨_, rfl⟩
    have hP : va_P D vwCl [(a_g, .inr (3, [.int g_wide, .int g_high, .int g_drown, .int g_wind, .long g_hedges, .long g_fountains, .int g_people, .int g_tellings, .int g_reports, .ref a_g_kinds, .ref a_g_squares, .ref a_g_voices, .ref a_g_tellers, .ref a_g_listeners, .ref a_g_witnesses, .ref a_g_claims])), (a_pn, .inr (8, [.ref a_by, .int pn_length, .int pn_next, .int pn_sort, .int pn_start, .int pn_value, .int pn_fault])), (a_h, .inr (10, [.ref a_g, .ref a_df, .ref a_im, .ref a_pn, .ref a_w, .ref a_pa, .int z4, .int h_nos, .int h_fulls]))] H := hP
    have hD : va_D A [(a_g, .inr (3, [.int g_wide, .int g_high, .int g_drown, .int g_wind, .long g_hedges, .long g_fountains, .int g_people, .int g_tellings, .int g_reports, .ref a_g_kinds, .ref a_g_squares, .ref a_g_voices, .ref a_g_tellers, .ref a_g_listeners, .ref a_g_witnesses, .ref a_g_claims])), (a_pn, .inr (8, [.ref a_by, .int pn_length, .int pn_next, .int pn_sort, .int pn_start, .int pn_value, .int pn_fault])), (a_h, .inr (10, [.ref a_g, .ref a_df, .ref a_im, .ref a_pn, .ref a_w, .ref a_pa, .int z4, .int h_nos, .int h_fulls]))] := hD
    have hwr3 : r3 = (-2) := hwr3
    subst hwr3
    refine lv_goto (tgt := 21) hx hb dX10_count_17 (by decide) ?_
    subst hQF
    have hP9 := hP.sub (ws' := [(a_h, .inr (10, [.ref a_g, .ref a_df, .ref a_im, .ref a_pn, .ref a_w, .ref a_pa, .int z4, .int h_nos, .int h_fulls])), (a_g, .inr (3, [.int g_wide, .int g_high, .int g_drown, .int g_wind, .long g_hedges, .long g_fountains, .int g_people, .int g_tellings, .int g_reports, .ref a_g_kinds, .ref a_g_squares, .ref a_g_voices, .ref a_g_tellers, .ref a_g_listeners, .ref a_g_witnesses, .ref a_g_claims])), (a_pn, .inr (8, [.ref a_by, .int pn_length, .int pn_next, .int pn_sort, .int pn_start, .int pn_value, .int pn_fault]))]) [2, 0, 1] rfl
    have hD9 := hD.sub (ws' := [(a_h, .inr (10, [.ref a_g, .ref a_df, .ref a_im, .ref a_pn, .ref a_w, .ref a_pa, .int z4, .int h_nos, .int h_fulls])), (a_g, .inr (3, [.int g_wide, .int g_high, .int g_drown, .int g_wind, .long g_hedges, .long g_fountains, .int g_people, .int g_tellings, .int g_reports, .ref a_g_kinds, .ref a_g_squares, .ref a_g_voices, .ref a_g_tellers, .ref a_g_listeners, .ref a_g_witnesses, .ref a_g_claims])), (a_pn, .inr (8, [.ref a_by, .int pn_length, .int pn_next, .int pn_sort, .int pn_start, .int pn_value, .int pn_fault]))]) [2, 0, 1] (by decide) rfl
    exact W.iret (v := (-2)) hx hb hr (fun t ht hW => ⟨⟨(-2), z4, rfl, trivial, by rw [ht]; exact hP9, hD9⟩, hS.F ht⟩) hS.2.2 dX10_count_21

set_option maxHeartbeats 4000000 in
set_option maxRecDepth 100000 in
theorem n_X10_digest (l : Launch) (D : va_G) (cy : Nat → ClassId) (a_h : Nat) (a_g : Nat) (a_df : Nat) (a_im : Nat) (a_pn : Nat) (a_w : Nat) (a_pa : Nat) (h_bads : Int32) (h_nos : Int32) (h_fulls : Int32) (g_wide : Int32) (g_high : Int32) (g_drown : Int32) (g_wind : Int32) (g_hedges : Int64) (g_fountains : Int64) (g_people : Int32) (g_tellings : Int32) (g_reports : Int32) (a_g_kinds : Nat) (a_g_squares : Nat) (a_g_voices : Nat) (a_g_tellers : Nat) (a_g_listeners : Nat) (a_g_witnesses : Nat) (a_g_claims : Nat) (a_by : Nat) (pn_length : Int32) (pn_next : Int32) (pn_sort : Int32) (pn_start : Int32) (pn_value : Int32) (pn_fault : Int32) (g_kinds_f : Nat → Int32) (g_squares_f : Nat → Int32) (g_voices_f : Nat → Int32) (g_tellers_f : Nat → Int32) (g_listeners_f : Nat → Int32) (g_witnesses_f : Nat → Int32) (g_claims_f : Nat → Int32) (sz : Nat)  : Met l yX10_digest wsX10_digest ({ frames := 3, cells := 0, slots := 0, locals := 67 }) (va_Pc [.ref a_h] (kPre D cy [(a_h, .inr (10, [.ref a_g, .ref a_df, .ref a_im, .ref a_pn, .ref a_w, .ref a_pa, .int h_bads, .int h_nos, .int h_fulls])), (a_g, .inr (3, [.int g_wide, .int g_high, .int g_drown, .int g_wind, .long g_hedges, .long g_fountains, .int g_people, .int g_tellings, .int g_reports, .ref a_g_kinds, .ref a_g_squares, .ref a_g_voices, .ref a_g_tellers, .ref a_g_listeners, .ref a_g_witnesses, .ref a_g_claims])), (a_pn, .inr (8, [.ref a_by, .int pn_length, .int pn_next, .int pn_sort, .int pn_start, .int pn_value, .int pn_fault])), (a_g_kinds, .inl (cy 1, 5, .inl g_kinds_f)), (a_g_squares, .inl (cy 1, 5, .inl g_squares_f)), (a_g_voices, .inl (cy 1, 5, .inl g_voices_f)), (a_g_tellers, .inl (cy 1, 6, .inl g_tellers_f)), (a_g_listeners, .inl (cy 1, 6, .inl g_listeners_f)), (a_g_witnesses, .inl (cy 1, 8, .inl g_witnesses_f)), (a_g_claims, .inl (cy 1, 8, .inl g_claims_f))] sz)) (va_Ql (fun (r : Int64) (u : Unit) => True) (fun _ _ => True) (fun q : Nat => sz ≤ q)) 0 0 (fun q : Nat => sz ≤ q) := by
  refine Met.ofW (cc := cX10_digest) (maxL := 4) (ret := (some .long)) (by decide) rfl ?_
  intro p e s m args below meth c s₁ B hml hv
  obtain ⟨rfl, hsz, hP, hKA, hD0⟩ := hv
  have hx := B.exec
  have hb := B.bytes
  have hr := B.returns
  have hts := atoms_spec (ws := wsX10_digest) B.pre
  have hown : s.vm.findClass RX10 = some m.cls := findClass_of_methodNamed B.named
  have hlocks := B.notSynchronized
  subst hsz
  have hK := hKA.1
  have hD := hD0
  generalize hAe : (fun q : Nat => s.heap.size ≤ q) = A
  have hA : ∀ q : Nat, s.heap.size ≤ q → A q := fun q h => by rw [← hAe]; exact h
  have hS : va_S A s.heap s.heap [] := va_S.rf
  have hP : va_P D vwCl [(a_h, .inr (10, [.ref a_g, .ref a_df, .ref a_im, .ref a_pn, .ref a_w, .ref a_pa, .int h_bads, .int h_nos, .int h_fulls])), (a_g, .inr (3, [.int g_wide, .int g_high, .int g_drown, .int g_wind, .long g_hedges, .long g_fountains, .int g_people, .int g_tellings, .int g_reports, .ref a_g_kinds, .ref a_g_squares, .ref a_g_voices, .ref a_g_tellers, .ref a_g_listeners, .ref a_g_witnesses, .ref a_g_claims])), (a_pn, .inr (8, [.ref a_by, .int pn_length, .int pn_next, .int pn_sort, .int pn_start, .int pn_value, .int pn_fault])), (a_g_kinds, .inl (cy 1, 5, .inl g_kinds_f)), (a_g_squares, .inl (cy 1, 5, .inl g_squares_f)), (a_g_voices, .inl (cy 1, 5, .inl g_voices_f)), (a_g_tellers, .inl (cy 1, 6, .inl g_tellers_f)), (a_g_listeners, .inl (cy 1, 6, .inl g_listeners_f)), (a_g_witnesses, .inl (cy 1, 8, .inl g_witnesses_f)), (a_g_claims, .inl (cy 1, 8, .inl g_claims_f))] s.heap := hP
  have hl := lv_entry ([.ref a_h]) (n := 4) (Nat.le_of_ble_eq_true rfl)
  rw [lg_entry_eq]
  generalize (lg_sl ([.ref a_h]) ++ List.replicate (4 - (lg_sl ([.ref a_h])).length) Slot.unset).toArray = ls at hl ⊢
  have hl : lv_has ls 4 [(0, .ref a_h)] := hl
  refine qW (fun QF hQF => ?_)
  have z0_ := hts (.constantLong RX10 216 743) (by decide +kernel)
  have z1_ := hts (.constantLong RX10 218 31) (by decide +kernel)
  have z2_ := hts (.fieldLink RX10 10 "HeardSeen" "now" "LHeardSeen$Garden;") (by decide +kernel)
  have zi10_ : ∀ w ∈ u_ws RX10 TX10 9, w ∈ wsX10_digest := by decide +kernel
  refine lv_ldc2 hx hb hown z0_ dX10_digest_0 ?_
  refine lv_lstore_n (lv' := [(1, .long 743), (0, .ref a_h)]) hx hb dX10_digest_3 rfl hl (by decide) rfl (fun ls hl => ?_)
  refine lv_iconst (v := 0) hx hb dX10_digest_4 (by decide) ?_
  refine lv_istore_n (lv' := [(3, .int 0), (1, .long 743), (0, .ref a_h)]) hx hb dX10_digest_5 rfl hl (by decide) rfl (fun ls hl => ?_)
  have lp6 : ∀ (n6 : Nat) (v3_6 : Nat) (v1_6 : Int64) (hv3_6 : v3_6 < 2147483648), 2147483648 - v3_6 < n6 → ∀ (H : Heap) (locs : List Loc), va_P D vwCl [(a_h, .inr (10, [.ref a_g, .ref a_df, .ref a_im, .ref a_pn, .ref a_w, .ref a_pa, .int h_bads, .int h_nos, .int h_fulls])), (a_g, .inr (3, [.int g_wide, .int g_high, .int g_drown, .int g_wind, .long g_hedges, .long g_fountains, .int g_people, .int g_tellings, .int g_reports, .ref a_g_kinds, .ref a_g_squares, .ref a_g_voices, .ref a_g_tellers, .ref a_g_listeners, .ref a_g_witnesses, .ref a_g_claims])), (a_pn, .inr (8, [.ref a_by, .int pn_length, .int pn_next, .int pn_sort, .int pn_start, .int pn_value, .int pn_fault])), (a_g_kinds, .inl (cy 1, 5, .inl g_kinds_f)), (a_g_squares, .inl (cy 1, 5, .inl g_squares_f)), (a_g_voices, .inl (cy 1, 5, .inl g_voices_f)), (a_g_tellers, .inl (cy 1, 6, .inl g_tellers_f)), (a_g_listeners, .inl (cy 1, 6, .inl g_listeners_f)), (a_g_witnesses, .inl (cy 1, 8, .inl g_witnesses_f)), (a_g_claims, .inl (cy 1, 8, .inl g_claims_f))] H → va_D (fun _ => True) [(a_h, .inr (10, [.ref a_g, .ref a_df, .ref a_im, .ref a_pn, .ref a_w, .ref a_pa, .int h_bads, .int h_nos, .int h_fulls])), (a_g, .inr (3, [.int g_wide, .int g_high, .int g_drown, .int g_wind, .long g_hedges, .long g_fountains, .int g_people, .int g_tellings, .int g_reports, .ref a_g_kinds, .ref a_g_squares, .ref a_g_voices, .ref a_g_tellers, .ref a_g_listeners, .ref a_g_witnesses, .ref a_g_claims])), (a_pn, .inr (8, [.ref a_by, .int pn_length, .int pn_next, .int pn_sort, .int pn_start, .int pn_value, .int pn_fault])), (a_g_kinds, .inl (cy 1, 5, .inl g_kinds_f)), (a_g_squares, .inl (cy 1, 5, .inl g_squares_f)), (a_g_voices, .inl (cy 1, 5, .inl g_voices_f)), (a_g_tellers, .inl (cy 1, 6, .inl g_tellers_f)), (a_g_listeners, .inl (cy 1, 6, .inl g_listeners_f)), (a_g_witnesses, .inl (cy 1, 8, .inl g_witnesses_f)), (a_g_claims, .inl (cy 1, 8, .inl g_claims_f))] → va_S A s.heap H locs → ∀ ls : Array Slot, lv_has ls 4 [(3, .int (nI v3_6)), (1, .long v1_6), (0, .ref a_h)] → W p l e (headSpec wsX10_digest ({ frames := 3, cells := 0, slots := 0, locals := 67 })).room s m [.ref a_h].toArray below meth c H locs 0 0 QF (F0 m 6 ls []) := by
    intro n6
    induction n6 with
    | zero => intro v3_6 v1_6 hv3_6 hm; exact absurd hm (Nat.not_lt_zero _)
    | succ n6 ih6 =>
      intro v3_6 v1_6 hv3_6 hm6 H locs hP hD hS ls hl
      refine lv_iload_n hx hb dX10_digest_6 rfl (lv_at hl 0 rfl) ?_
      refine lv_bipush (v := 6) hx hb dX10_digest_7 (by decide) ?_
      refine lv_icmp_gt (tgt := 31) hx hb dX10_digest_9 (by decide) (fun c1 => ?_) (fun c1 => ?_)
      · skip
        refine lv_aload_n hx hb dX10_digest_31 rfl (lv_at hl 2 rfl) ?_
        refine va_get (D := D) (ci := 10) (v := .ref a_g) (C := RX10) (T := TX10) (N := 9) hx hb hts zi10_ hown hK hP 0 rfl rfl 0 (by decide) z2_ (fun _ h9 => h9) rfl dX10_digest_32 ?_
        refine lv_lload_n hx hb dX10_digest_35 rfl (lv_at hl 1 rfl) ?_
        refine rd_l (va_runV (As := [.long v1_6]) (rest := []) ⟨hx, hb, hml, hown, hts⟩ (n_X3_digestAfter l D cy a_g g_wide g_high g_drown g_wind g_hedges g_fountains g_people g_tellings g_reports a_g_kinds a_g_squares a_g_voices a_g_tellers a_g_listeners a_g_witnesses a_g_claims g_kinds_f g_squares_f g_voices_f g_tellers_f g_listeners_f g_witnesses_f g_claims_f v1_6 _ ) (cwV 1 hts gX10_digest_X3_digestAfter rfl rfl rfl (by decide +kernel) ⟨Nat.le_of_ble_eq_true rfl, Nat.le_of_ble_eq_true rfl⟩) (pV (ci := 3) (k := 0) hKA (hP.sub (ws' := [(a_g, .inr (3, [.int g_wide, .int g_high, .int g_drown, .int g_wind, .long g_hedges, .long g_fountains, .int g_people, .int g_tellings, .int g_reports, .ref a_g_kinds, .ref a_g_squares, .ref a_g_voices, .ref a_g_tellers, .ref a_g_listeners, .ref a_g_witnesses, .ref a_g_claims])), (a_g_kinds, .inl (cy 1, 5, .inl g_kinds_f)), (a_g_squares, .inl (cy 1, 5, .inl g_squares_f)), (a_g_voices, .inl (cy 1, 5, .inl g_voices_f)), (a_g_tellers, .inl (cy 1, 6, .inl g_tellers_f)), (a_g_listeners, .inl (cy 1, 6, .inl g_listeners_f)), (a_g_witnesses, .inl (cy 1, 8, .inl g_witnesses_f)), (a_g_claims, .inl (cy 1, 8, .inl g_claims_f))]) [1, 3, 4, 5, 6, 7, 8, 9] rfl) (hD.sub (ws' := [(a_g, .inr (3, [.int g_wide, .int g_high, .int g_drown, .int g_wind, .long g_hedges, .long g_fountains, .int g_people, .int g_tellings, .int g_reports, .ref a_g_kinds, .ref a_g_squares, .ref a_g_voices, .ref a_g_tellers, .ref a_g_listeners, .ref a_g_witnesses, .ref a_g_claims])), (a_g_kinds, .inl (cy 1, 5, .inl g_kinds_f)), (a_g_squares, .inl (cy 1, 5, .inl g_squares_f)), (a_g_voices, .inl (cy 1, 5, .inl g_voices_f)), (a_g_tellers, .inl (cy 1, 6, .inl g_tellers_f)), (a_g_listeners, .inl (cy 1, 6, .inl g_listeners_f)), (a_g_witnesses, .inl (cy 1, 8, .inl g_witnesses_f)), (a_g_claims, .inl (cy 1, 8, .inl g_claims_f))]) [1, 3, 4, 5, 6, 7, 8, 9] (by decide) rfl) rfl rfl) rfl rfl hl.1 rfl (lv_room (Nat.le_of_ble_eq_true rfl)) dX10_digest_36 ⟨Nat.le_of_ble_eq_true rfl, Nat.le_of_ble_eq_true rfl⟩) hP hS hA (fun r2 H locs hwr2 hP hS => ?_)
        subst hQF
        exact W.lret (v := r2) hx hb hr (fun t ht hW => ⟨⟨r2, (), rfl, trivial, trivial⟩, hS.F ht⟩) hS.2.2 dX10_digest_39
      · skip
        refine lv_ldc2 hx hb hown z1_ dX10_digest_12 ?_
        refine lv_lload_n hx hb dX10_digest_15 rfl (lv_at hl 1 rfl) ?_
        refine lv_lmul hx hb dX10_digest_16 ?_
        refine lv_aload_n hx hb dX10_digest_17 rfl (lv_at hl 2 rfl) ?_
        refine lv_iload_n hx hb dX10_digest_18 rfl (lv_at hl 0 rfl) ?_
        refine rd_i (va_runV (As := [.int (nI v3_6)]) (rest := [.long (31 * v1_6)]) ⟨hx, hb, hml, hown, hts⟩ (n_X10_howMany l D cy a_h a_g a_df a_im a_pn a_w a_pa h_bads h_nos h_fulls g_wide g_high g_drown g_wind g_hedges g_fountains g_people g_tellings g_reports a_g_kinds a_g_squares a_g_voices a_g_tellers a_g_listeners a_g_witnesses a_g_claims a_by pn_length pn_next pn_sort pn_start pn_value pn_fault (nI v3_6) _ ) (cwV 1 hts gX10_digest_X10_howMany rfl rfl rfl (by decide +kernel) ⟨Nat.le_of_ble_eq_true rfl, Nat.le_of_ble_eq_true rfl⟩) (pV (ci := 10) (k := 0) hKA (hP.sub (ws' := [(a_h, .inr (10, [.ref a_g, .ref a_df, .ref a_im, .ref a_pn, .ref a_w, .ref a_pa, .int h_bads, .int h_nos, .int h_fulls])), (a_g, .inr (3, [.int g_wide, .int g_high, .int g_drown, .int g_wind, .long g_hedges, .long g_fountains, .int g_people, .int g_tellings, .int g_reports, .ref a_g_kinds, .ref a_g_squares, .ref a_g_voices, .ref a_g_tellers, .ref a_g_listeners, .ref a_g_witnesses, .ref a_g_claims])), (a_pn, .inr (8, [.ref a_by, .int pn_length, .int pn_next, .int pn_sort, .int pn_start, .int pn_value, .int pn_fault]))]) [0, 1, 2] rfl) (hD.sub (ws' := [(a_h, .inr (10, [.ref a_g, .ref a_df, .ref a_im, .ref a_pn, .ref a_w, .ref a_pa, .int h_bads, .int h_nos, .int h_fulls])), (a_g, .inr (3, [.int g_wide, .int g_high, .int g_drown, .int g_wind, .long g_hedges, .long g_fountains, .int g_people, .int g_tellings, .int g_reports, .ref a_g_kinds, .ref a_g_squares, .ref a_g_voices, .ref a_g_tellers, .ref a_g_listeners, .ref a_g_witnesses, .ref a_g_claims])), (a_pn, .inr (8, [.ref a_by, .int pn_length, .int pn_next, .int pn_sort, .int pn_start, .int pn_value, .int pn_fault]))]) [0, 1, 2] (by decide) rfl) rfl rfl) rfl rfl hl.1 rfl (lv_room (Nat.le_of_ble_eq_true rfl)) dX10_digest_19 ⟨Nat.le_of_ble_eq_true rfl, Nat.le_of_ble_eq_true rfl⟩) hP hS hA (fun r3 H locs hwr3 hP hS => ?_)
        refine lv_i2l hx hb dX10_digest_22 rfl ?_
        refine lv_ladd hx hb dX10_digest_23 ?_
        refine lv_topl (fun x4 ex4 => ?_)
        refine lv_lstore_n (lv' := [(1, .long x4), (3, .int (nI v3_6)), (0, .ref a_h)]) hx hb dX10_digest_24 rfl hl (by decide) rfl (fun ls hl => ?_)
        refine lv_iinc (v := nI (v3_6 + 1)) (lv' := [(3, .int (nI (v3_6 + 1))), (1, .long x4), (0, .ref a_h)]) hx hb dX10_digest_25 hl (k := 1) rfl (nI_1 _) (by decide) rfl (fun ls hl => ?_)
        refine lv_goto (tgt := 6) hx hb dX10_digest_28 (by decide) ?_
        exact ih6 (v3_6 + 1) x4 (by first | omega | exact nle_max (N := 6) (n := 6) (by decide) (by decide) (by assumption) (by assumption)) (by first | omega | (have := nle_max (N := 6) (n := 6) (by decide) (by decide) (by assumption) (by assumption); omega)) _ _ hP hD hS ls hl
  exact lp6 (2147483648 - 0 + 1) 0 743 (by first | omega | exact nlt_max (by assumption) (by assumption)) (Nat.lt_succ_self _) _ _ hP hD hS ls hl
