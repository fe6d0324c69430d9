theorem dL_law_1092 : decode cL_law 1092 = .ok (.iinc 3 5, 3) := by decide +kernel
theorem dL_law_1095 : decode cL_law 1095 = .ok (.goto (-1077), 3) := by decide +kernel
theorem dL_law_18 : decode cL_law 18 = .ok (.iload_n 3, 1) := by decide +kernel
theorem dL_law_19 : decode cL_law 19 = .ok (.aload_n 0, 1) := by decide +kernel
theorem dL_law_20 : decode cL_law 20 = .ok (.arraylength, 1) := by decide +kernel
theorem dL_law_21 : decode cL_law 21 = .ok (.iconst 5, 1) := by decide +kernel
theorem dL_law_22 : decode cL_law 22 = .ok (.isub, 1) := by decide +kernel
theorem dL_law_23 : decode cL_law 23 = .ok (.if_icmp .gt 1075, 3) := by decide +kernel
theorem dL_law_1098 : decode cL_law 1098 = .ok (.iconst 1, 1) := by decide +kernel
theorem dL_law_1099 : decode cL_law 1099 = .ok (.ireturn, 1) := by decide +kernel
-- ===== end of PART A; then your names; then what follows =====
/-! THE CLAIM OUT OF ONE WALK OF THE LAW'S BODY. Your part is whole_start (and what it stands on); all else here is the same for every law, but numbers. -/
def R_law : String := "HeardSeenLaw"
def lw_P (b : Addr) (xs : List Int32) (args : Array Value) (s : State) : Prop := args = #[.ref b] ∧ s.IntsAt b xs ∧ xs.length ≤ 5 ∧ (Jvm.Cond.and given_1 narrow_1).before args s = true
def lw_Q (_ : Array Value) (s : State) (o : Outcome) (t : State) : Prop := o = .returned (some (.int 1)) ∧ Framed s o t [] 600000 7302249
def lw_Z (below : List Frame) (a : Array Value) (s : State) : State → Prop := fun t => ∃ o, t.status = .running ∧ Ended t below o ∧ lw_Q a s o t
/-- the law's own end, with 1 on the stack, nothing written that was there before, its room as the claim has it -/
theorem lw_ret {p : Program} {l : Launch} {e : Env} {s : State} {m : MethodId} {below : List Frame} {meth : Method} {c : Code} {b : Nat} (hx : p.tables.exec = Jvm.exec) (hb : c.code = code) (hr : meth.sig.returnType = ret) (hlocks : meth.locks = false) {pc : Nat} {H : Heap} {ls : Array Slot} (hdg : decode code pc = .ok (.ireturn, 1)) : W p l e room_1 s m #[Value.ref b] below meth c H [] 600000 7302249 (lw_Z below #[Value.ref b] s) (F0 m pc ls [.int 1]) := by
  intro T hT X
  obtain ⟨fs, hret, hrun, hended, hW, hframe⟩ := X.leave (v := some (.int 1)) (hlocks := hlocks) (fun h => by rw [hr] at h; cases h)
  have hmeth' : T.vm.method? m = some meth := X.method'
  refine ⟨T.setFrames fs, ?_, .returned (some (.int 1)), hrun, hended, rfl, ⟨_, rfl⟩, hW, hframe⟩
  jvm_step X.here [X.here.top, hx, hb, hdg, hmeth', hr, ret, narrow_b1]
  (try refine ⟨rfl, ?_⟩); (try refine ⟨rfl, ?_⟩)
  first | (intro acts; rw [hret _ acts rfl rfl rfl]) | rw [hret _ _ rfl rfl rfl]
  exact Steps.refl _
/-- what holds at the law's entry: the machine, the code, the tables' words (any of lw_tbl by 'hts w (by decide +kernel)'), the script of L ints xs at the cell b, what the Statement gives of the start (any of its parts by flat_of_before) -/
def lw_At (p : Program) (s : State) (m : MethodId) (meth : Method) (c : Code) (b L : Nat) (xs : Nat → Int32) : Prop :=
  p.tables.exec = Jvm.exec ∧ c.code = code ∧ meth.sig.returnType = ret ∧ c.maxLocals = 4 ∧ s.vm.findClass R_law = some m.cls ∧ (∀ w ∈ lw_tbl, w.before #[Value.ref b] s = true) ∧ va_X b L xs s s.heap ∧ b < s.heap.size ∧ meth.locks = false ∧ (Jvm.Cond.and given_1 narrow_1).before #[Value.ref b] s = true
theorem nkW_in : ∀ w ∈ nkW, w ∈ lw_tbl := by decide +kernel
theorem nkA_start {s : State} {args : Array Value} (hts : ∀ w ∈ lw_tbl, w.before args s = true) : nkA s := by
  intro w hw
  have h0 := hts w (nkW_in w hw)
  simp only [nkW, List.mem_cons, List.not_mem_nil, or_false] at hw
  rcases hw with rfl | rfl | rfl | rfl | rfl | rfl | rfl | rfl | rfl | rfl | rfl | rfl | rfl | rfl | rfl | rfl | rfl | rfl | rfl | rfl | rfl | rfl
  all_goals first | exact va_Nw.of rfl h0 | exact h0
theorem ar_prim {s : State} {args : Array Value} {ty : FieldType} (h : (Cond.arrayClass ty).before args s = true) : ∃ cA : ClassId, ArrOfT s cA ty ∧ s.vm.findClass ("[" ++ ty.toString) = some cA := by
  obtain ⟨cA, kA, comp, h1, h2, h3⟩ := Cond.arrayClass_spec h
  exact ⟨cA, fun n z => ⟨fun k h => (by cases h), kA, h2, comp, h3⟩, h1⟩
theorem ar_obj {s : State} {args : Array Value} {C : String} (h : (Cond.arrayOver (.object C)).before args s = true) : ∃ cA : ClassId, ArrOfT s cA (.object C) ∧ va_RA s cA (.object C) := by
  obtain ⟨comp, cA, kA, hcomp, hidx, hkA, hkindA, hnameA⟩ := Cond.arrayOver_spec h
  exact ⟨cA, fun n z => ⟨fun k h => (by cases h), kA, hkA, comp, hkindA⟩, kA, comp, hkA, hkindA, hcomp, hnameA⟩
set_option maxHeartbeats 4000000 in
set_option maxRecDepth 100000 in
theorem kA_start {s : State} {args : Array Value} (hts : ∀ w ∈ lw_tbl, w.before args s = true) : ∃ (D : va_G) (cy : Nat → ClassId), kA D cy s := by
  obtain ⟨c0, iS0, hKn0⟩ := u_known (C := RX0) (T := TX0) (N := 0) (n := 0) hts zin_wsX00 (hts (.instantiable RX0 0) (by decide +kernel))
  obtain ⟨c1, iS1, hKn1⟩ := u_known (C := RX1) (T := TX1) (N := 0) (n := 0) hts zin_wsX10 (hts (.instantiable RX1 0) (by decide +kernel))
  obtain ⟨c2, iS2, hKn2⟩ := u_known (C := RX2) (T := TX2) (N := 0) (n := 0) hts zin_wsX20 (hts (.instantiable RX2 0) (by decide +kernel))
  obtain ⟨c3, iS3, hKn3⟩ := u_known (C := RX3) (T := TX3) (N := 16) (n := 16) hts zin_wsX30 (hts (.instantiable RX3 16) (by decide +kernel))
  obtain ⟨c4, iS4, hKn4⟩ := u_known (C := RX4) (T := TX4) (N := 9) (n := 9) hts zin_wsX40 (hts (.instantiable RX4 9) (by decide +kernel))
  obtain ⟨c5, iS5, hKn5⟩ := u_known (C := RX5) (T := TX5) (N := 0) (n := 0) hts zin_wsX50 (hts (.instantiable RX5 0) (by decide +kernel))
  obtain ⟨c6, iS6, hKn6⟩ := u_known (C := RX6) (T := TX6) (N := 5) (n := 5) hts zin_wsX60 (hts (.instantiable RX6 5) (by decide +kernel))
  obtain ⟨c7, iS7, hKn7⟩ := u_known (C := RX7) (T := TX7) (N := 0) (n := 0) hts zin_wsX70 (hts (.instantiable RX7 0) (by decide +kernel))
  obtain ⟨c8, iS8, hKn8⟩ := u_known (C := RX8) (T := TX8) (N := 7) (n := 7) hts zin_wsX80 (hts (.instantiable RX8 7) (by decide +kernel))
  obtain ⟨c9, iS9, hKn9⟩ := u_known (C := RX9) (T := TX9) (N := 0) (n := 0) hts zin_wsX90 (hts (.instantiable RX9 0) (by decide +kernel))
  obtain ⟨c10, iS10, hKn10⟩ := u_known (C := RX10) (T := TX10) (N := 9) (n := 9) hts zin_wsX100 (hts (.instantiable RX10 9) (by decide +kernel))
  obtain ⟨c11, iS11, hKn11⟩ := u_known (C := RX11) (T := TX11) (N := 19) (n := 19) hts zin_wsX110 (hts (.instantiable RX11 19) (by decide +kernel))
  obtain ⟨dC, dI, hKc⟩ : ∃ (dC : Nat → ClassId) (dI : Nat → Nat → Nat), ∀ (k : Nat) (q : vw_C), vwCl[k]? = some q → u_Kn s q.1 q.2.1 q.2.2 (dC k) (dI k) := by
    refine ⟨fun k => if k = 0 then c0 else if k = 1 then c1 else if k = 2 then c2 else if k = 3 then c3 else if k = 4 then c4 else if k = 5 then c5 else if k = 6 then c6 else if k = 7 then c7 else if k = 8 then c8 else if k = 9 then c9 else if k = 10 then c10 else c11, fun k => if k = 0 then iS0 else if k = 1 then iS1 else if k = 2 then iS2 else if k = 3 then iS3 else if k = 4 then iS4 else if k = 5 then iS5 else if k = 6 then iS6 else if k = 7 then iS7 else if k = 8 then iS8 else if k = 9 then iS9 else if k = 10 then iS10 else iS11, ?_⟩
    intro k q hq
    match k, hq with
    | 0, hq => cases hq; exact hKn0
    | 1, hq => cases hq; exact hKn1
    | 2, hq => cases hq; exact hKn2
    | 3, hq => cases hq; exact hKn3
    | 4, hq => cases hq; exact hKn4
    | 5, hq => cases hq; exact hKn5
    | 6, hq => cases hq; exact hKn6
    | 7, hq => cases hq; exact hKn7
    | 8, hq => cases hq; exact hKn8
    | 9, hq => cases hq; exact hKn9
    | 10, hq => cases hq; exact hKn10
    | 11, hq => cases hq; exact hKn11
    | k + 12, hq => simp [vwCl] at hq
  obtain ⟨y0, a0, b0⟩ := ar_prim (hts (.arrayClass .byte) (by decide +kernel))
  obtain ⟨y1, a1, b1⟩ := ar_prim (hts (.arrayClass .int) (by decide +kernel))
  obtain ⟨y2, a2, b2⟩ := ar_prim (hts (.arrayClass .boolean) (by decide +kernel))
  obtain ⟨y3, a3, b3⟩ := ar_obj (hts (.arrayOver (.object "HeardSeen$Garden")) (by decide +kernel))
  obtain ⟨y4, a4, b4⟩ := ar_obj (hts (.arrayOver (.object "HeardSeen$Person")) (by decide +kernel))
  refine ⟨(dC, dI), fun k => if k = 0 then y0 else if k = 1 then y1 else if k = 2 then y2 else if k = 3 then y3 else y4, ⟨hKc, ?_⟩, nkA_start hts⟩
  intro k q hq
  match k, hq with
  | 0, hq => cases hq; exact ⟨a0, b0⟩
  | 1, hq => cases hq; exact ⟨a1, b1⟩
  | 2, hq => cases hq; exact ⟨a2, b2⟩
  | 3, hq => cases hq; exact ⟨a3, b3⟩
  | 4, hq => cases hq; exact ⟨a4, b4⟩
  | k + 5, hq => simp at hq
theorem z_out {y : Int32} (h0 : ¬ y = 0) (h1 : ¬ y = 1) (h2 : ¬ y = 2) (h3 : ¬ y = 3) (h4 : ¬ y = 4) (h5 : ¬ y = 5) (h6 : ¬ y = 6) (h7 : ¬ y = 7) (h8 : ¬ y = 8) (h9 : ¬ y = 9) (h10 : ¬ y = 10) (h11 : ¬ y = 11) (h12 : ¬ y = 12) (h13 : ¬ y = 13) (h14 : ¬ y = 14) (h15 : ¬ y = 15) (h16 : ¬ y = 16) (h17 : ¬ y = 17) (h18 : ¬ y = 18) (h19 : ¬ y = 19) (h20 : ¬ y = 20) (h21 : ¬ y = 21) (h22 : ¬ y = 22) (h23 : ¬ y = 23) (h24 : ¬ y = 24) (h25 : ¬ y = 25) (h26 : ¬ y = 26) (h27 : ¬ y = 27) (h28 : ¬ y = 28) (h29 : ¬ y = 29) (h30 : ¬ y = 30) : y.toInt < 0 ∨ 30 < y.toInt := by
  have q0 : ¬ y.toInt = 0 := fun q => h0 (Int32.toInt_inj.mp q)
  have q1 : ¬ y.toInt = 1 := fun q => h1 (Int32.toInt_inj.mp q)
  have q2 : ¬ y.toInt = 2 := fun q => h2 (Int32.toInt_inj.mp q)
  have q3 : ¬ y.toInt = 3 := fun q => h3 (Int32.toInt_inj.mp q)
  have q4 : ¬ y.toInt = 4 := fun q => h4 (Int32.toInt_inj.mp q)
  have q5 : ¬ y.toInt = 5 := fun q => h5 (Int32.toInt_inj.mp q)
  have q6 : ¬ y.toInt = 6 := fun q => h6 (Int32.toInt_inj.mp q)
  have q7 : ¬ y.toInt = 7 := fun q => h7 (Int32.toInt_inj.mp q)
  have q8 : ¬ y.toInt = 8 := fun q => h8 (Int32.toInt_inj.mp q)
  have q9 : ¬ y.toInt = 9 := fun q => h9 (Int32.toInt_inj.mp q)
  have q10 : ¬ y.toInt = 10 := fun q => h10 (Int32.toInt_inj.mp q)
  have q11 : ¬ y.toInt = 11 := fun q => h11 (Int32.toInt_inj.mp q)
  have q12 : ¬ y.toInt = 12 := fun q => h12 (Int32.toInt_inj.mp q)
  have q13 : ¬ y.toInt = 13 := fun q => h13 (Int32.toInt_inj.mp q)
  have q14 : ¬ y.toInt = 14 := fun q => h14 (Int32.toInt_inj.mp q)
  have q15 : ¬ y.toInt = 15 := fun q => h15 (Int32.toInt_inj.mp q)
  have q16 : ¬ y.toInt = 16 := fun q => h16 (Int32.toInt_inj.mp q)
  have q17 : ¬ y.toInt = 17 := fun q => h17 (Int32.toInt_inj.mp q)
  have q18 : ¬ y.toInt = 18 := fun q => h18 (Int32.toInt_inj.mp q)
  have q19 : ¬ y.toInt = 19 := fun q => h19 (Int32.toInt_inj.mp q)
  have q20 : ¬ y.toInt = 20 := fun q => h20 (Int32.toInt_inj.mp q)
  have q21 : ¬ y.toInt = 21 := fun q => h21 (Int32.toInt_inj.mp q)
  have q22 : ¬ y.toInt = 22 := fun q => h22 (Int32.toInt_inj.mp q)
  have q23 : ¬ y.toInt = 23 := fun q => h23 (Int32.toInt_inj.mp q)
  have q24 : ¬ y.toInt = 24 := fun q => h24 (Int32.toInt_inj.mp q)
  have q25 : ¬ y.toInt = 25 := fun q => h25 (Int32.toInt_inj.mp q)
  have q26 : ¬ y.toInt = 26 := fun q => h26 (Int32.toInt_inj.mp q)
  have q27 : ¬ y.toInt = 27 := fun q => h27 (Int32.toInt_inj.mp q)
  have q28 : ¬ y.toInt = 28 := fun q => h28 (Int32.toInt_inj.mp q)
  have q29 : ¬ y.toInt = 29 := fun q => h29 (Int32.toInt_inj.mp q)
  have q30 : ¬ y.toInt = 30 := fun q => h30 (Int32.toInt_inj.mp q)
  omega
theorem z_l5 {L : Nat} (h : L ≤ 5) (h2 : ¬ L = 5) : Int32.ofNat L - 5 < 0 := by
  rcases (show L = 0 ∨ L = 1 ∨ L = 2 ∨ L = 3 ∨ L = 4 by omega) with rfl | rfl | rfl | rfl | rfl <;> decide
set_option maxHeartbeats 8000000 in
set_option maxRecDepth 100000 in
theorem law_tail {p : Program} {e : Env} {s : State} {m : MethodId} {below : List Frame} {meth : Method} {c : Code} {l : Launch} {b : Nat} {xs : Nat → Int32} (C0 : lw_At p s m meth c b 5 xs) (H : Heap) (locs : List Loc) (ls : Array Slot) (hS : va_S (fun q : Nat => s.heap.size ≤ q) s.heap H locs) (hl : lv_has ls 4 [(0, .ref b), (3, .int 0)]) {kc ks : Nat} (hkc : kc ≤ 600000) (hks : ks ≤ 7302249) : W p l e room_1 s m #[Value.ref b] below meth c H locs kc ks (lw_Z below #[Value.ref b] s) (F0 m 1092 ls []) := by
  obtain ⟨hx, hb, hr, hml, hown, hts, hX, hbl, hlocks, hgv⟩ := id C0
  have hbA : ¬ (fun q : Nat => s.heap.size ≤ q) b := Nat.not_le.mpr hbl
  refine lv_iinc (v := 5) (lv' := [(3, .int 5), (0, .ref b)]) hx hb dL_law_1092 hl (k := 1) rfl (by decide) (by decide) rfl (fun ls hl => ?_)
  refine lv_goto (tgt := 18) hx hb dL_law_1095 (by decide) ?_
  refine lv_iload_n hx hb dL_law_18 rfl (lv_at hl 0 rfl) ?_
  refine lv_aload_n hx hb dL_law_19 rfl (lv_at hl 1 rfl) ?_
  refine va_slen hx hb hX hbl hbA hS dL_law_20 ?_
  refine lv_iconst (v := 5) hx hb dL_law_21 (by decide) ?_
  refine lv_isub hx hb dL_law_22 ?_
  refine lv_icmp_gt (tgt := 1098) hx hb dL_law_23 (by decide) (fun cc => ?_) (fun cc => absurd (by decide) cc)
  refine lv_iconst (v := 1) hx hb dL_law_1098 (by decide) ?_
  refine va_forget (fun q hq => hS.2.2 q hq) ?_
  refine W.widen (k := 600000) (n := 7302249) hkc hks ?_
  exact lw_ret hx hb hr hlocks dL_law_1099
