-- ===== end of PART A; then your names; then what follows =====
/-! THE CLAIM OUT OF ONE WALK OF THE LAW'S BODY. Your part is whole_start (and what it stands on); all else here is the same for every law, but numbers. -/
def R_law : String := "HeardSeenLaw"
def lw_P (b : Addr) (xs : List Int32) (args : Array Value) (s : State) : Prop := args = #[.ref b] ∧ s.IntsAt b xs ∧ xs.length ≤ 2560 ∧ (Jvm.Cond.and given_1 narrow_1).before args s = true
def lw_Q (_ : Array Value) (s : State) (o : Outcome) (t : State) : Prop := o = .returned (some (.int 1)) ∧ Framed s o t [] 600000 7302250
def lw_Z (below : List Frame) (a : Array Value) (s : State) : State → Prop := fun t => ∃ o, t.status = .running ∧ Ended t below o ∧ lw_Q a s o t
/-- the law's own end, with 1 on the stack, nothing written that was there before, its room as the claim has it -/
theorem lw_ret {p : Program} {l : Launch} {e : Env} {s : State} {m : MethodId} {below : List Frame} {meth : Method} {c : Code} {b : Nat} (hx : p.tables.exec = Jvm.exec) (hb : c.code = code) (hr : meth.sig.returnType = ret) (hlocks : meth.locks = false) {pc : Nat} {H : Heap} {ls : Array Slot} (hdg : decode code pc = .ok (.ireturn, 1)) : W p l e room_1 s m #[Value.ref b] below meth c H [] 600000 7302250 (lw_Z below #[Value.ref b] s) (F0 m pc ls [.int 1]) := by
  intro T hT X
  obtain ⟨fs, hret, hrun, hended, hW, hframe⟩ := X.leave (v := some (.int 1)) (hlocks := hlocks) (fun h => by rw [hr] at h; cases h)
  have hmeth' : T.vm.method? m = some meth := X.method'
  refine ⟨T.setFrames fs, ?_, .returned (some (.int 1)), hrun, hended, rfl, ⟨_, rfl⟩, hW, hframe⟩
  jvm_step X.here [X.here.top, hx, hb, hdg, hmeth', hr, ret, narrow_b1]
  (try refine ⟨rfl, ?_⟩); (try refine ⟨rfl, ?_⟩)
  first | (intro acts; rw [hret _ acts rfl rfl rfl]) | rw [hret _ _ rfl rfl rfl]
  exact Steps.refl _
/-- what holds at the law's entry: the machine, the code, the tables' words (any of lw_tbl by 'hts w (by decide +kernel)'), the script of L ints xs at the cell b, what the Statement gives of the start (any of its parts by flat_of_before) -/
def lw_At (p : Program) (s : State) (m : MethodId) (meth : Method) (c : Code) (b L : Nat) (xs : Nat → Int32) : Prop :=
  p.tables.exec = Jvm.exec ∧ c.code = code ∧ meth.sig.returnType = ret ∧ c.maxLocals = 4 ∧ s.vm.findClass R_law = some m.cls ∧ (∀ w ∈ lw_tbl, w.before #[Value.ref b] s = true) ∧ va_X b L xs s s.heap ∧ b < s.heap.size ∧ meth.locks = false ∧ (Jvm.Cond.and given_1 narrow_1).before #[Value.ref b] s = true
theorem nkW_in : ∀ w ∈ nkW, w ∈ lw_tbl := by decide +kernel
theorem nkA_start {s : State} {args : Array Value} (hts : ∀ w ∈ lw_tbl, w.before args s = true) : nkA s := by
  intro w hw
  have h0 := hts w (nkW_in w hw)
  simp only [nkW, List.mem_cons, List.not_mem_nil, or_false] at hw
  rcases hw with rfl | rfl | rfl | rfl | rfl | rfl | rfl | rfl | rfl | rfl | rfl | rfl | rfl | rfl | rfl | rfl | rfl | rfl | rfl | rfl | rfl | rfl
  all_goals first | exact va_Nw.of rfl h0 | exact h0
theorem ar_prim {s : State} {args : Array Value} {ty : FieldType} (h : (Cond.arrayClass ty).before args s = true) : ∃ cA : ClassId, ArrOfT s cA ty ∧ s.vm.findClass ("[" ++ ty.toString) = some cA := by
  obtain ⟨cA, kA, comp, h1, h2, h3⟩ := Cond.arrayClass_spec h
  exact ⟨cA, fun n z => ⟨fun k h => (by cases h), kA, h2, comp, h3⟩, h1⟩
theorem ar_obj {s : State} {args : Array Value} {C : String} (h : (Cond.arrayOver (.object C)).before args s = true) : ∃ cA : ClassId, ArrOfT s cA (.object C) ∧ va_RA s cA (.object C) := by
  obtain ⟨comp, cA, kA, hcomp, hidx, hkA, hkindA, hnameA⟩ := Cond.arrayOver_spec h
  exact ⟨cA, fun n z => ⟨fun k h => (by cases h), kA, hkA, comp, hkindA⟩, kA, comp, hkA, hkindA, hcomp, hnameA⟩
set_option maxHeartbeats 4000000 in
set_option maxRecDepth 100000 in
theorem kA_start {s : State} {args : Array Value} (hts : ∀ w ∈ lw_tbl, w.before args s = true) : ∃ (D : va_G) (cy : Nat → ClassId), kA D cy s := by
  obtain ⟨c0, iS0, hKn0⟩ := u_known (C := RX0) (T := TX0) (N := 0) (n := 0) hts zin_wsX00 (hts (.instantiable RX0 0) (by decide +kernel))
  obtain ⟨c1, iS1, hKn1⟩ := u_known (C := RX1) (T := TX1) (N := 0) (n := 0) hts zin_wsX10 (hts (.instantiable RX1 0) (by decide +kernel))
  obtain ⟨c2, iS2, hKn2⟩ := u_known (C := RX2) (T := TX2) (N := 0) (n := 0) hts zin_wsX20 (hts (.instantiable RX2 0) (by decide +kernel))
  obtain ⟨c3, iS3, hKn3⟩ := u_known (C := RX3) (T := TX3) (N := 16) (n := 16) hts zin_wsX30 (hts (.instantiable RX3 16) (by decide +kernel))
  obtain ⟨c4, iS4, hKn4⟩ := u_known (C := RX4) (T := TX4) (N := 9) (n := 9) hts zin_wsX40 (hts (.instantiable RX4 9) (by decide +kernel))
  obtain ⟨c5, iS5, hKn5⟩ := u_known (C := RX5) (T := TX5) (N := 0) (n := 0) hts zin_wsX50 (hts (.instantiable RX5 0) (by decide +kernel))
  obtain ⟨c6, iS6, hKn6⟩ := u_known (C := RX6) (T := TX6) (N := 5) (n := 5) hts zin_wsX60 (hts (.instantiable RX6 5) (by decide +kernel))
  obtain ⟨c7, iS7, hKn7⟩ := u_known (C := RX7) (T := TX7) (N := 0) (n := 0) hts zin_wsX70 (hts (.instantiable RX7 0) (by decide +kernel))
  obtain ⟨c8, iS8, hKn8⟩ := u_known (C := RX8) (T := TX8) (N := 7) (n := 7) hts zin_wsX80 (hts (.instantiable RX8 7) (by decide +kernel))
  obtain ⟨c9, iS9, hKn9⟩ := u_known (C := RX9) (T := TX9) (N := 0) (n := 0) hts zin_wsX90 (hts (.instantiable RX9 0) (by decide +kernel))
  obtain ⟨c10, iS10, hKn10⟩ := u_known (C := RX10) (T := TX10) (N := 9) (n := 9) hts zin_wsX100 (hts (.instantiable RX10 9) (by decide +kernel))
  obtain ⟨c11, iS11, hKn11⟩ := u_known (C := RX11) (T := TX11) (N := 19) (n := 19) hts zin_wsX110 (hts (.instantiable RX11 19) (by decide +kernel))
  obtain ⟨dC, dI, hKc⟩ : ∃ (dC : Nat → ClassId) (dI : Nat → Nat → Nat), ∀ (k : Nat) (q : vw_C), vwCl[k]? = some q → u_Kn s q.1 q.2.1 q.2.2 (dC k) (dI k) := by
    refine ⟨fun k => if k = 0 then c0 else if k = 1 then c1 else if k = 2 then c2 else if k = 3 then c3 else if k = 4 then c4 else if k = 5 then c5 else if k = 6 then c6 else if k = 7 then c7 else if k = 8 then c8 else if k = 9 then c9 else if k = 10 then c10 else c11, fun k => if k = 0 then iS0 else if k = 1 then iS1 else if k = 2 then iS2 else if k = 3 then iS3 else if k = 4 then iS4 else if k = 5 then iS5 else if k = 6 then iS6 else if k = 7 then iS7 else if k = 8 then iS8 else if k = 9 then iS9 else if k = 10 then iS10 else iS11, ?_⟩
    intro k q hq
    match k, hq with
    | 0, hq => cases hq; exact hKn0
    | 1, hq => cases hq; exact hKn1
    | 2, hq => cases hq; exact hKn2
    | 3, hq => cases hq; exact hKn3
    | 4, hq => cases hq; exact hKn4
    | 5, hq => cases hq; exact hKn5
    | 6, hq => cases hq; exact hKn6
    | 7, hq => cases hq; exact hKn7
    | 8, hq => cases hq; exact hKn8
    | 9, hq => cases hq; exact hKn9
    | 10, hq => cases hq; exact hKn10
    | 11, hq => cases hq; exact hKn11
    | k + 12, hq => simp [vwCl] at hq
  obtain ⟨y0, a0, b0⟩ := ar_prim (hts (.arrayClass .byte) (by decide +kernel))
  obtain ⟨y1, a1, b1⟩ := ar_prim (hts (.arrayClass .int) (by decide +kernel))
  obtain ⟨y2, a2, b2⟩ := ar_prim (hts (.arrayClass .boolean) (by decide +kernel))
  obtain ⟨y3, a3, b3⟩ := ar_obj (hts (.arrayOver (.object "HeardSeen$Garden")) (by decide +kernel))
  obtain ⟨y4, a4, b4⟩ := ar_obj (hts (.arrayOver (.object "HeardSeen$Person")) (by decide +kernel))
  refine ⟨(dC, dI), fun k => if k = 0 then y0 else if k = 1 then y1 else if k = 2 then y2 else if k = 3 then y3 else y4, ⟨hKc, ?_⟩, nkA_start hts⟩
  intro k q hq
  match k, hq with
  | 0, hq => cases hq; exact ⟨a0, b0⟩
  | 1, hq => cases hq; exact ⟨a1, b1⟩
  | 2, hq => cases hq; exact ⟨a2, b2⟩
  | 3, hq => cases hq; exact ⟨a3, b3⟩
  | 4, hq => cases hq; exact ⟨a4, b4⟩
  | k + 5, hq => simp at hq
theorem z_out {y : Int32} (h0 : ¬ y = 0) (h1 : ¬ y = 1) (h2 : ¬ y = 2) (h3 : ¬ y = 3) (h4 : ¬ y = 4) (h5 : ¬ y = 5) (h6 : ¬ y = 6) (h7 : ¬ y = 7) (h8 : ¬ y = 8) (h9 : ¬ y = 9) (h10 : ¬ y = 10) (h11 : ¬ y = 11) (h12 : ¬ y = 12) (h13 : ¬ y = 13) (h14 : ¬ y = 14) (h15 : ¬ y = 15) (h16 : ¬ y = 16) (h17 : ¬ y = 17) (h18 : ¬ y = 18) (h19 : ¬ y = 19) (h20 : ¬ y = 20) (h21 : ¬ y = 21) (h22 : ¬ y = 22) (h23 : ¬ y = 23) (h24 : ¬ y = 24) (h25 : ¬ y = 25) (h26 : ¬ y = 26) (h27 : ¬ y = 27) (h28 : ¬ y = 28) (h29 : ¬ y = 29) (h30 : ¬ y = 30) : y.toInt < 0 ∨ 30 < y.toInt := by
  have q0 : ¬ y.toInt = 0 := fun q => h0 (Int32.toInt_inj.mp q)
  have q1 : ¬ y.toInt = 1 := fun q => h1 (Int32.toInt_inj.mp q)
  have q2 : ¬ y.toInt = 2 := fun q => h2 (Int32.toInt_inj.mp q)
  have q3 : ¬ y.toInt = 3 := fun q => h3 (Int32.toInt_inj.mp q)
  have q4 : ¬ y.toInt = 4 := fun q => h4 (Int32.toInt_inj.mp q)
  have q5 : ¬ y.toInt = 5 := fun q => h5 (Int32.toInt_inj.mp q)
  have q6 : ¬ y.toInt = 6 := fun q => h6 (Int32.toInt_inj.mp q)
  have q7 : ¬ y.toInt = 7 := fun q => h7 (Int32.toInt_inj.mp q)
  have q8 : ¬ y.toInt = 8 := fun q => h8 (Int32.toInt_inj.mp q)
  have q9 : ¬ y.toInt = 9 := fun q => h9 (Int32.toInt_inj.mp q)
  have q10 : ¬ y.toInt = 10 := fun q => h10 (Int32.toInt_inj.mp q)
  have q11 : ¬ y.toInt = 11 := fun q => h11 (Int32.toInt_inj.mp q)
  have q12 : ¬ y.toInt = 12 := fun q => h12 (Int32.toInt_inj.mp q)
  have q13 : ¬ y.toInt = 13 := fun q => h13 (Int32.toInt_inj.mp q)
  have q14 : ¬ y.toInt = 14 := fun q => h14 (Int32.toInt_inj.mp q)
  have q15 : ¬ y.toInt = 15 := fun q => h15 (Int32.toInt_inj.mp q)
  have q16 : ¬ y.toInt = 16 := fun q => h16 (Int32.toInt_inj.mp q)
  have q17 : ¬ y.toInt = 17 := fun q => h17 (Int32.toInt_inj.mp q)
  have q18 : ¬ y.toInt = 18 := fun q => h18 (Int32.toInt_inj.mp q)
  have q19 : ¬ y.toInt = 19 := fun q => h19 (Int32.toInt_inj.mp q)
  have q20 : ¬ y.toInt = 20 := fun q => h20 (Int32.toInt_inj.mp q)
  have q21 : ¬ y.toInt = 21 := fun q => h21 (Int32.toInt_inj.mp q)
  have q22 : ¬ y.toInt = 22 := fun q => h22 (Int32.toInt_inj.mp q)
  have q23 : ¬ y.toInt = 23 := fun q => h23 (Int32.toInt_inj.mp q)
  have q24 : ¬ y.toInt = 24 := fun q => h24 (Int32.toInt_inj.mp q)
  have q25 : ¬ y.toInt = 25 := fun q => h25 (Int32.toInt_inj.mp q)
  have q26 : ¬ y.toInt = 26 := fun q => h26 (Int32.toInt_inj.mp q)
  have q27 : ¬ y.toInt = 27 := fun q => h27 (Int32.toInt_inj.mp q)
  have q28 : ¬ y.toInt = 28 := fun q => h28 (Int32.toInt_inj.mp q)
  have q29 : ¬ y.toInt = 29 := fun q => h29 (Int32.toInt_inj.mp q)
  have q30 : ¬ y.toInt = 30 := fun q => h30 (Int32.toInt_inj.mp q)
  omega
theorem z_i5 {L k : Nat} (hL : L ≤ 2560) (h : 5 * k ≤ L) : (Int32.ofNat L - 5 < nI (5 * k)) ↔ ¬ 5 * k + 5 ≤ L := by
  have e : Int32.ofNat L = nI L := rfl
  have h5 : (5 : Int32).toInt = 5 := by decide
  rw [e, z_lt, nI_toInt (by omega), Int32.toInt_sub, nI_toInt (by omega), h5, Int.bmod_eq_of_le (by omega) (by omega)]
  omega
theorem s8 {P : Nat → Prop} (h0 : P 0) (h1 : P 1) (h2 : P 2) (h3 : P 3) (h4 : P 4) (h5 : P 5) (h6 : P 6) (h7 : P 7) : ∀ i, i < 8 → P i := by
  intro i hi
  rcases (show i = 0 ∨ i = 1 ∨ i = 2 ∨ i = 3 ∨ i = 4 ∨ i = 5 ∨ i = 6 ∨ i = 7 by omega) with rfl | rfl | rfl | rfl | rfl | rfl | rfl | rfl <;> assumption
def ixS : Nat → Nat := fun i => if i = 0 then 149 else if i = 1 then 151 else if i = 2 then 153 else if i = 3 then 155 else if i = 4 then 156 else if i = 5 then 157 else if i = 6 then 159 else 161
set_option maxHeartbeats 4000000 in
set_option maxRecDepth 100000 in
theorem sK_start {s : State} {b : Nat} (hts : ∀ w ∈ lw_tbl, w.before #[Value.ref b] s = true) (hgv : (Jvm.Cond.and given_1 narrow_1).before #[Value.ref b] s = true) : ∃ adK adV : Nat → Nat, sK adK adV (fun q : Nat => s.heap.size ≤ q) s s.heap := by
  have hs := flat_of_before _ hgv
  have hA : ∀ a : Nat, a < s.heap.size → ¬ (fun q : Nat => s.heap.size ≤ q) a := fun a h => Nat.not_le.mpr h
  have h_e0 : ∀ j : Nat, j < lenS.getD 0 0 → (Cond.eq (.elem (.field ((fun i => Term.string "HeardSeen$Plan" (ixS i)) 0) "java/lang/String" "value" "[B") (.int (Int32.ofNat j))) (.int ((bytS.getD 0 []).getD j 0))).before #[Value.ref b] s = true := by
    intro j hj
    have q : j < 6 := hj
    rcases (show j = 0 ∨ j = 1 ∨ j = 2 ∨ j = 3 ∨ j = 4 ∨ j = 5 by omega) with rfl | rfl | rfl | rfl | rfl | rfl
    · exact (hs (.eq (.elem (.field (Term.string "HeardSeen$Plan" 149) "java/lang/String" "value" "[B") (.int 0)) (.int 103)) (by decide +kernel))
    · exact (hs (.eq (.elem (.field (Term.string "HeardSeen$Plan" 149) "java/lang/String" "value" "[B") (.int 1)) (.int 97)) (by decide +kernel))
    · exact (hs (.eq (.elem (.field (Term.string "HeardSeen$Plan" 149) "java/lang/String" "value" "[B") (.int 2)) (.int 114)) (by decide +kernel))
    · exact (hs (.eq (.elem (.field (Term.string "HeardSeen$Plan" 149) "java/lang/String" "value" "[B") (.int 3)) (.int 100)) (by decide +kernel))
    · exact (hs (.eq (.elem (.field (Term.string "HeardSeen$Plan" 149) "java/lang/String" "value" "[B") (.int 4)) (.int 101)) (by decide +kernel))
    · exact (hs (.eq (.elem (.field (Term.string "HeardSeen$Plan" 149) "java/lang/String" "value" "[B") (.int 5)) (.int 110)) (by decide +kernel))
  have h_e1 : ∀ j : Nat, j < lenS.getD 1 0 → (Cond.eq (.elem (.field ((fun i => Term.string "HeardSeen$Plan" (ixS i)) 1) "java/lang/String" "value" "[B") (.int (Int32.ofNat j))) (.int ((bytS.getD 1 []).getD j 0))).before #[Value.ref b] s = true := by
    intro j hj
    have q : j < 5 := hj
    rcases (show j = 0 ∨ j = 1 ∨ j = 2 ∨ j = 3 ∨ j = 4 by omega) with rfl | rfl | rfl | rfl | rfl
    · exact (hs (.eq (.elem (.field (Term.string "HeardSeen$Plan" 151) "java/lang/String" "value" "[B") (.int 0)) (.int 104)) (by decide +kernel))
    · exact (hs (.eq (.elem (.field (Term.string "HeardSeen$Plan" 151) "java/lang/String" "value" "[B") (.int 1)) (.int 101)) (by decide +kernel))
    · exact (hs (.eq (.elem (.field (Term.string "HeardSeen$Plan" 151) "java/lang/String" "value" "[B") (.int 2)) (.int 100)) (by decide +kernel))
    · exact (hs (.eq (.elem (.field (Term.string "HeardSeen$Plan" 151) "java/lang/String" "value" "[B") (.int 3)) (.int 103)) (by decide +kernel))
    · exact (hs (.eq (.elem (.field (Term.string "HeardSeen$Plan" 151) "java/lang/String" "value" "[B") (.int 4)) (.int 101)) (by decide +kernel))
  have h_e2 : ∀ j : Nat, j < lenS.getD 2 0 → (Cond.eq (.elem (.field ((fun i => Term.string "HeardSeen$Plan" (ixS i)) 2) "java/lang/String" "value" "[B") (.int (Int32.ofNat j))) (.int ((bytS.getD 2 []).getD j 0))).before #[Value.ref b] s = true := by
    intro j hj
    have q : j < 8 := hj
    rcases (show j = 0 ∨ j = 1 ∨ j = 2 ∨ j = 3 ∨ j = 4 ∨ j = 5 ∨ j = 6 ∨ j = 7 by omega) with rfl | rfl | rfl | rfl | rfl | rfl | rfl | rfl
    · exact (hs (.eq (.elem (.field (Term.string "HeardSeen$Plan" 153) "java/lang/String" "value" "[B") (.int 0)) (.int 102)) (by decide +kernel))
    · exact (hs (.eq (.elem (.field (Term.string "HeardSeen$Plan" 153) "java/lang/String" "value" "[B") (.int 1)) (.int 111)) (by decide +kernel))
    · exact (hs (.eq (.elem (.field (Term.string "HeardSeen$Plan" 153) "java/lang/String" "value" "[B") (.int 2)) (.int 117)) (by decide +kernel))
    · exact (hs (.eq (.elem (.field (Term.string "HeardSeen$Plan" 153) "java/lang/String" "value" "[B") (.int 3)) (.int 110)) (by decide +kernel))
    · exact (hs (.eq (.elem (.field (Term.string "HeardSeen$Plan" 153) "java/lang/String" "value" "[B") (.int 4)) (.int 116)) (by decide +kernel))
    · exact (hs (.eq (.elem (.field (Term.string "HeardSeen$Plan" 153) "java/lang/String" "value" "[B") (.int 5)) (.int 97)) (by decide +kernel))
    · exact (hs (.eq (.elem (.field (Term.string "HeardSeen$Plan" 153) "java/lang/String" "value" "[B") (.int 6)) (.int 105)) (by decide +kernel))
    · exact (hs (.eq (.elem (.field (Term.string "HeardSeen$Plan" 153) "java/lang/String" "value" "[B") (.int 7)) (.int 110)) (by decide +kernel))
  have h_e3 : ∀ j : Nat, j < lenS.getD 3 0 → (Cond.eq (.elem (.field ((fun i => Term.string "HeardSeen$Plan" (ixS i)) 3) "java/lang/String" "value" "[B") (.int (Int32.ofNat j))) (.int ((bytS.getD 3 []).getD j 0))).before #[Value.ref b] s = true := by
    intro j hj
    have q : j < 5 := hj
    rcases (show j = 0 ∨ j = 1 ∨ j = 2 ∨ j = 3 ∨ j = 4 by omega) with rfl | rfl | rfl | rfl | rfl
    · exact (hs (.eq (.elem (.field (Term.string "HeardSeen$Plan" 155) "java/lang/String" "value" "[B") (.int 0)) (.int 100)) (by decide +kernel))
    · exact (hs (.eq (.elem (.field (Term.string "HeardSeen$Plan" 155) "java/lang/String" "value" "[B") (.int 1)) (.int 114)) (by decide +kernel))
    · exact (hs (.eq (.elem (.field (Term.string "HeardSeen$Plan" 155) "java/lang/String" "value" "[B") (.int 2)) (.int 111)) (by decide +kernel))
    · exact (hs (.eq (.elem (.field (Term.string "HeardSeen$Plan" 155) "java/lang/String" "value" "[B") (.int 3)) (.int 119)) (by decide +kernel))
    · exact (hs (.eq (.elem (.field (Term.string "HeardSeen$Plan" 155) "java/lang/String" "value" "[B") (.int 4)) (.int 110)) (by decide +kernel))
  have h_e4 : ∀ j : Nat, j < lenS.getD 4 0 → (Cond.eq (.elem (.field ((fun i => Term.string "HeardSeen$Plan" (ixS i)) 4) "java/lang/String" "value" "[B") (.int (Int32.ofNat j))) (.int ((bytS.getD 4 []).getD j 0))).before #[Value.ref b] s = true := by
    intro j hj
    have q : j < 4 := hj
    rcases (show j = 0 ∨ j = 1 ∨ j = 2 ∨ j = 3 by omega) with rfl | rfl | rfl | rfl
    · exact (hs (.eq (.elem (.field (Term.string "HeardSeen$Plan" 156) "java/lang/String" "value" "[B") (.int 0)) (.int 119)) (by decide +kernel))
    · exact (hs (.eq (.elem (.field (Term.string "HeardSeen$Plan" 156) "java/lang/String" "value" "[B") (.int 1)) (.int 105)) (by decide +kernel))
    · exact (hs (.eq (.elem (.field (Term.string "HeardSeen$Plan" 156) "java/lang/String" "value" "[B") (.int 2)) (.int 110)) (by decide +kernel))
    · exact (hs (.eq (.elem (.field (Term.string "HeardSeen$Plan" 156) "java/lang/String" "value" "[B") (.int 3)) (.int 100)) (by decide +kernel))
  have h_e5 : ∀ j : Nat, j < lenS.getD 5 0 → (Cond.eq (.elem (.field ((fun i => Term.string "HeardSeen$Plan" (ixS i)) 5) "java/lang/String" "value" "[B") (.int (Int32.ofNat j))) (.int ((bytS.getD 5 []).getD j 0))).before #[Value.ref b] s = true := by
    intro j hj
    have q : j < 6 := hj
    rcases (show j = 0 ∨ j = 1 ∨ j = 2 ∨ j = 3 ∨ j = 4 ∨ j = 5 by omega) with rfl | rfl | rfl | rfl | rfl | rfl
    · exact (hs (.eq (.elem (.field (Term.string "HeardSeen$Plan" 157) "java/lang/String" "value" "[B") (.int 0)) (.int 112)) (by decide +kernel))
    · exact (hs (.eq (.elem (.field (Term.string "HeardSeen$Plan" 157) "java/lang/String" "value" "[B") (.int 1)) (.int 101)) (by decide +kernel))
    · exact (hs (.eq (.elem (.field (Term.string "HeardSeen$Plan" 157) "java/lang/String" "value" "[B") (.int 2)) (.int 114)) (by decide +kernel))
    · exact (hs (.eq (.elem (.field (Term.string "HeardSeen$Plan" 157) "java/lang/String" "value" "[B") (.int 3)) (.int 115)) (by decide +kernel))
    · exact (hs (.eq (.elem (.field (Term.string "HeardSeen$Plan" 157) "java/lang/String" "value" "[B") (.int 4)) (.int 111)) (by decide +kernel))
    · exact (hs (.eq (.elem (.field (Term.string "HeardSeen$Plan" 157) "java/lang/String" "value" "[B") (.int 5)) (.int 110)) (by decide +kernel))
  have h_e6 : ∀ j : Nat, j < lenS.getD 6 0 → (Cond.eq (.elem (.field ((fun i => Term.string "HeardSeen$Plan" (ixS i)) 6) "java/lang/String" "value" "[B") (.int (Int32.ofNat j))) (.int ((bytS.getD 6 []).getD j 0))).before #[Value.ref b] s = true := by
    intro j hj
    have q : j < 4 := hj
    rcases (show j = 0 ∨ j = 1 ∨ j = 2 ∨ j = 3 by omega) with rfl | rfl | rfl | rfl
    · exact (hs (.eq (.elem (.field (Term.string "HeardSeen$Plan" 159) "java/lang/String" "value" "[B") (.int 0)) (.int 116)) (by decide +kernel))
    · exact (hs (.eq (.elem (.field (Term.string "HeardSeen$Plan" 159) "java/lang/String" "value" "[B") (.int 1)) (.int 101)) (by decide +kernel))
    · exact (hs (.eq (.elem (.field (Term.string "HeardSeen$Plan" 159) "java/lang/String" "value" "[B") (.int 2)) (.int 108)) (by decide +kernel))
    · exact (hs (.eq (.elem (.field (Term.string "HeardSeen$Plan" 159) "java/lang/String" "value" "[B") (.int 3)) (.int 108)) (by decide +kernel))
  have h_e7 : ∀ j : Nat, j < lenS.getD 7 0 → (Cond.eq (.elem (.field ((fun i => Term.string "HeardSeen$Plan" (ixS i)) 7) "java/lang/String" "value" "[B") (.int (Int32.ofNat j))) (.int ((bytS.getD 7 []).getD j 0))).before #[Value.ref b] s = true := by
    intro j hj
    exact absurd hj (Nat.not_lt_zero j)
  obtain ⟨adK, adV, hS, hT⟩ := vk_Sof (args := #[Value.ref b]) (s := s) (N := 8) (tm := fun i => Term.string "HeardSeen$Plan" (ixS i)) (len := lenS) (byt := bytS) (A := fun q : Nat => s.heap.size ≤ q)
    (fun i hi => Nat.lt_trans (lenS_lt hi) (by decide))
    (s8 (hs (.exactly (Term.string "HeardSeen$Plan" 149) "java/lang/String") (by decide +kernel)) (hs (.exactly (Term.string "HeardSeen$Plan" 151) "java/lang/String") (by decide +kernel)) (hs (.exactly (Term.string "HeardSeen$Plan" 153) "java/lang/String") (by decide +kernel)) (hs (.exactly (Term.string "HeardSeen$Plan" 155) "java/lang/String") (by decide +kernel)) (hs (.exactly (Term.string "HeardSeen$Plan" 156) "java/lang/String") (by decide +kernel)) (hs (.exactly (Term.string "HeardSeen$Plan" 157) "java/lang/String") (by decide +kernel)) (hs (.exactly (Term.string "HeardSeen$Plan" 159) "java/lang/String") (by decide +kernel)) (hs (.exactly (Term.string "HeardSeen$Plan" 161) "java/lang/String") (by decide +kernel)))
    (s8 (hs (.eq (.field (Term.string "HeardSeen$Plan" 149) "java/lang/String" "coder" "B") (.int 0)) (by decide +kernel)) (hs (.eq (.field (Term.string "HeardSeen$Plan" 151) "java/lang/String" "coder" "B") (.int 0)) (by decide +kernel)) (hs (.eq (.field (Term.string "HeardSeen$Plan" 153) "java/lang/String" "coder" "B") (.int 0)) (by decide +kernel)) (hs (.eq (.field (Term.string "HeardSeen$Plan" 155) "java/lang/String" "coder" "B") (.int 0)) (by decide +kernel)) (hs (.eq (.field (Term.string "HeardSeen$Plan" 156) "java/lang/String" "coder" "B") (.int 0)) (by decide +kernel)) (hs (.eq (.field (Term.string "HeardSeen$Plan" 157) "java/lang/String" "coder" "B") (.int 0)) (by decide +kernel)) (hs (.eq (.field (Term.string "HeardSeen$Plan" 159) "java/lang/String" "coder" "B") (.int 0)) (by decide +kernel)) (hs (.eq (.field (Term.string "HeardSeen$Plan" 161) "java/lang/String" "coder" "B") (.int 0)) (by decide +kernel)))
    (s8 (hs (.arrayOf (.field (Term.string "HeardSeen$Plan" 149) "java/lang/String" "value" "[B") .byte) (by decide +kernel)) (hs (.arrayOf (.field (Term.string "HeardSeen$Plan" 151) "java/lang/String" "value" "[B") .byte) (by decide +kernel)) (hs (.arrayOf (.field (Term.string "HeardSeen$Plan" 153) "java/lang/String" "value" "[B") .byte) (by decide +kernel)) (hs (.arrayOf (.field (Term.string "HeardSeen$Plan" 155) "java/lang/String" "value" "[B") .byte) (by decide +kernel)) (hs (.arrayOf (.field (Term.string "HeardSeen$Plan" 156) "java/lang/String" "value" "[B") .byte) (by decide +kernel)) (hs (.arrayOf (.field (Term.string "HeardSeen$Plan" 157) "java/lang/String" "value" "[B") .byte) (by decide +kernel)) (hs (.arrayOf (.field (Term.string "HeardSeen$Plan" 159) "java/lang/String" "value" "[B") .byte) (by decide +kernel)) (hs (.arrayOf (.field (Term.string "HeardSeen$Plan" 161) "java/lang/String" "value" "[B") .byte) (by decide +kernel)))
    (s8 (hs (.eq (.length (.field (Term.string "HeardSeen$Plan" 149) "java/lang/String" "value" "[B")) (.int 6)) (by decide +kernel)) (hs (.eq (.length (.field (Term.string "HeardSeen$Plan" 151) "java/lang/String" "value" "[B")) (.int 5)) (by decide +kernel)) (hs (.eq (.length (.field (Term.string "HeardSeen$Plan" 153) "java/lang/String" "value" "[B")) (.int 8)) (by decide +kernel)) (hs (.eq (.length (.field (Term.string "HeardSeen$Plan" 155) "java/lang/String" "value" "[B")) (.int 5)) (by decide +kernel)) (hs (.eq (.length (.field (Term.string "HeardSeen$Plan" 156) "java/lang/String" "value" "[B")) (.int 4)) (by decide +kernel)) (hs (.eq (.length (.field (Term.string "HeardSeen$Plan" 157) "java/lang/String" "value" "[B")) (.int 6)) (by decide +kernel)) (hs (.eq (.length (.field (Term.string "HeardSeen$Plan" 159) "java/lang/String" "value" "[B")) (.int 4)) (by decide +kernel)) (hs (.eq (.length (.field (Term.string "HeardSeen$Plan" 161) "java/lang/String" "value" "[B")) (.int 0)) (by decide +kernel)))
    (s8 h_e0 h_e1 h_e2 h_e3 h_e4 h_e5 h_e6 h_e7)
    (fun i j hi hj hij => by
      have key : ∀ i, i < 8 → ∀ j, j < 8 → i ≠ j → (Cond.not (Cond.eq (Term.string "HeardSeen$Plan" (ixS i)) (Term.string "HeardSeen$Plan" (ixS j))) ∈ flatC (Jvm.Cond.and given_1 narrow_1)) ∨ (Cond.not (Cond.eq (Term.string "HeardSeen$Plan" (ixS j)) (Term.string "HeardSeen$Plan" (ixS i))) ∈ flatC (Jvm.Cond.and given_1 narrow_1)) := by decide +kernel
      rcases key i hi j hj hij with z | z
      · exact Or.inl (hs _ z)
      · exact Or.inr (hs _ z)) hA
  refine ⟨adK, adV, ⟨vk_R.of (hts (.stringRef "HeardSeen$Plan" 149 "garden") (by decide +kernel)) (hT 0 (by decide)), vk_R.of (hts (.stringRef "HeardSeen$Plan" 151 "hedge") (by decide +kernel)) (hT 1 (by decide)), vk_R.of (hts (.stringRef "HeardSeen$Plan" 153 "fountain") (by decide +kernel)) (hT 2 (by decide)), vk_R.of (hts (.stringRef "HeardSeen$Plan" 155 "drown") (by decide +kernel)) (hT 3 (by decide)), vk_R.of (hts (.stringRef "HeardSeen$Plan" 156 "wind") (by decide +kernel)) (hT 4 (by decide)), vk_R.of (hts (.stringRef "HeardSeen$Plan" 157 "person") (by decide +kernel)) (hT 5 (by decide)), vk_R.of (hts (.stringRef "HeardSeen$Plan" 159 "tell") (by decide +kernel)) (hT 6 (by decide)), vk_R.of (hts (.stringRef "HeardSeen$Plan" 161 "") (by decide +kernel)) (hT 7 (by decide))⟩, hS, va_Zof (hts (.laysStatic "java/lang/String" "COMPACT_STRINGS" "Z") (by decide +kernel)) (hts (.initialized "java/lang/String") (by decide +kernel)) (va_eqt (hs (.eq (.static "java/lang/String" "COMPACT_STRINGS" "Z") (.int 1)) (by decide +kernel))) hA, va_Zqof (hts (.laysStatic "jdk/internal/util/Preconditions" "SIOOBE_FORMATTER" "Ljava/util/function/BiFunction;") (by decide +kernel)) (hts (.initialized "jdk/internal/util/Preconditions") (by decide +kernel)) (hs (.isRef (.static "jdk/internal/util/Preconditions" "SIOOBE_FORMATTER" "Ljava/util/function/BiFunction;")) (by decide +kernel)) hA⟩
