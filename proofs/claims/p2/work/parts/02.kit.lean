/-! my own words: the tables' facts that go with every contract, the calls of readers and writers in one row each -/
def hsN (c n d : String) : MethodName := ⟨c, n, d⟩
/-- links of nest mates, and arrays of references: held by the state, carried by every contract -/
def nkW : List Cond := [.methodLinkNest RX10 25 yX8_init RX10, .methodLinkNest RX0 1 yX7_init RX10, .methodLinkNest RX1 1 yX7_init RX10, .methodLinkNest RX2 1 yX7_init RX10, .methodLinkNest RX3 76 yX10_isOn RX10, .methodLinkNest RX4 11 yX7_init RX10, .methodLinkNest RX4 126 yX10_isIn RX10, .methodLinkNest RX4 41 yX2_init RX10, .methodLinkNest RX4 44 yX1_init RX10, .methodLinkNest RX4 47 yX9_init RX10, .methodLinkNest RX4 50 yX5_init RX10, .methodLinkNest RX4 53 yX0_init RX10, .methodLinkNest RX5 1 yX2_init RX10, .methodLinkNest RX6 54 yX10_isOn RX10, .methodLinkNest RX9 1 yX7_init RX10, .arrayOver (.object RX3), .arrayOver (.object RX7), .castable RX0 RX7, .castable RX1 RX7, .castable RX2 RX7, .castable RX5 RX7, .castable RX9 RX7]
abbrev tyL (cy : Nat → ClassId) : List (ClassId × FieldType) := [(cy 0, .byte), (cy 1, .int), (cy 2, .boolean), (cy 3, .object "HeardSeen$Garden"), (cy 4, .object "HeardSeen$Person")]
def nkA (U : State) : Prop := ∀ w ∈ nkW, va_Nw w U
def kA (D : va_G) (cy : Nat → ClassId) (U : State) : Prop := va_K D vwCl (tyL cy) U ∧ nkA U
theorem nkA.warm {s U : State} (hW : s.WarmedH U.vm) (h : nkA s) : nkA U := by
  intro w hw
  have h0 := h w hw
  simp only [nkW, List.mem_cons, List.not_mem_nil, or_false] at hw
  rcases hw with rfl | rfl | rfl | rfl | rfl | rfl | rfl | rfl | rfl | rfl | rfl | rfl | rfl | rfl | rfl | rfl | rfl | rfl | rfl | rfl | rfl | rfl
  all_goals first | exact va_Nw.warmM hW h0 | exact va_AO.moved hW.alike h0 | exact va_Nw.warmC hW h0
theorem nkA.calling {U : State} {g : JFrame} {mk : MethodId} {a : Array Value} (h : nkA U) : nkA (U.calling g mk a) := by
  intro w hw
  have h0 := h w hw
  simp only [nkW, List.mem_cons, List.not_mem_nil, or_false] at hw
  rcases hw with rfl | rfl | rfl | rfl | rfl | rfl | rfl | rfl | rfl | rfl | rfl | rfl | rfl | rfl | rfl | rfl | rfl | rfl | rfl | rfl | rfl | rfl
  all_goals first | exact va_Nw.same rfl rfl h0 | exact va_AO.moved (Vm.Alike.refl U.vm) h0
theorem kA.warm {D : va_G} {cy : Nat → ClassId} {s U : State} (hW : s.WarmedH U.vm) (h : kA D cy s) : kA D cy U := ⟨va_K.moved hW.alike h.1, h.2.warm hW⟩
theorem kA.calling {D : va_G} {cy : Nat → ClassId} {U : State} {g : JFrame} {mk : MethodId} {a : Array Value} (h : kA D cy U) : kA D cy (U.calling g mk a) := ⟨va_K.moved (u := U) (U := U.calling g mk a) (Vm.Alike.refl U.vm) h.1, h.2.calling⟩
def kPre (D : va_G) (cy : Nat → ClassId) (wc : va_W) (sz : Nat) (U : State) : Prop := U.heap.size = sz ∧ va_P D vwCl wc U.heap ∧ kA D cy U ∧ va_D (fun _ => True) wc
theorem kPre.blind {D : va_G} {cy : Nat → ClassId} {wc : va_W} {sz : Nat} {av : List Value} : FrameBlind (va_Pc av (kPre D cy wc sz)) := fun _ _ _ _ q => ⟨q.1, q.2.1, q.2.2.1, q.2.2.2.1.calling, q.2.2.2.2⟩
theorem pV {s : State} {H : Heap} {b : Addr} {As : List Value} {D : va_G} {cy : Nat → ClassId} {wc : va_W} {A : Nat → Prop} {ci : Nat} {q : vw_C} {fs : List Value} {k : Nat} (hK : kA D cy s) (hP : va_P D vwCl wc H) (hD : va_D A wc) (hc : vwCl[ci]? = some q) (he : wc[k]? = some (b, .inr (ci, fs))) : PreV s H q.1 b (va_Pc (.ref b :: As) (kPre D cy wc H.size)) As :=
  ⟨kPre.blind, va_recv hK.1 hP hc he, fun U hU hW => ⟨rfl, by rw [hU], by rw [hU]; exact hP, hK.warm hW, hD.weaken (fun _ _ _ _ => trivial)⟩⟩
theorem pS {s : State} {H : Heap} {As : List Value} {D : va_G} {cy : Nat → ClassId} {wc : va_W} {A : Nat → Prop} (hK : kA D cy s) (hP : va_P D vwCl wc H) (hD : va_D A wc) : PreS s H (va_Pc As (kPre D cy wc H.size)) As :=
  ⟨kPre.blind, fun U hU hW => ⟨rfl, by rw [hU], by rw [hU]; exact hP, hK.warm hW, hD.weaken (fun _ _ _ _ => trivial)⟩⟩
theorem pE {D : va_G} {H : Heap} : va_P D vwCl [] H := fun k q h => by simp at h
theorem dE {A : Nat → Prop} : va_D A [] := ⟨fun i j p q h => by simp at h, fun k q h => by simp at h⟩
section MyCalls
variable {p : Program} {l : Launch} {e : Env} {R : Room} {s : State} {m : MethodId} {args : Array Value} {below : List Frame} {meth : Method} {c : Code} {H : Heap} {locs : List Loc} {cells slots : Nat} {Q : State → Prop}
variable {D : va_G} {ws wc wr : va_W} {A : Nat → Prop} {H0 : Heap} {pc : Nat} {ls : Array Slot} {st0 rest : List Value} {a : Array Value}
theorem rdP (hP : va_P D vwCl ws H) {H1 : Heap} (hk : ∀ q : Nat, q < H.size → ¬ H.size ≤ q → H1[q]? = H[q]?) : va_P D vwCl ws H1 :=
  hP.kept (fun k q hq => hk q.1 ((hP k q hq).lt) (Nat.not_le.mpr ((hP k q hq).lt)))
/-- a reader's call: nothing old changes -/
theorem rd_i {post : Int32 → Unit → Prop} (hr : va_Run p l e R s m args below meth c H locs cells slots 0 0 (F0 m pc ls st0) rest (va_Qi post (fun _ _ => True) (fun q => H.size ≤ q) a) (fun q => H.size ≤ q)) (hP : va_P D vwCl ws H) (hS : va_S A H0 H locs) (hA : ∀ q, H0.size ≤ q → A q)
    (kk : ∀ (r : Int32) (H1 : Heap) (locs1 : List Loc), post r () → va_P D vwCl ws H1 → va_S A H0 H1 locs1 → W p l e R s m args below meth c H1 locs1 cells slots Q (F0 m (pc + 3) ls (.int r :: rest))) : W p l e R s m args below meth c H locs cells slots Q (F0 m pc ls st0) :=
  va_calli hr hS (fun q h1 h2 => absurd h2 (Nat.not_le.mpr h1)) (fun q h => hA q (Nat.le_trans hS.1 h)) (fun r u t H1 locs1 ht hvm hw hB hz hk hS1 => kk r H1 locs1 hw (rdP hP hk) hS1)
theorem rd_l {post : Int64 → Unit → Prop} (hr : va_Run p l e R s m args below meth c H locs cells slots 0 0 (F0 m pc ls st0) rest (va_Ql post (fun _ _ => True) (fun q => H.size ≤ q) a) (fun q => H.size ≤ q)) (hP : va_P D vwCl ws H) (hS : va_S A H0 H locs) (hA : ∀ q, H0.size ≤ q → A q)
    (kk : ∀ (r : Int64) (H1 : Heap) (locs1 : List Loc), post r () → va_P D vwCl ws H1 → va_S A H0 H1 locs1 → W p l e R s m args below meth c H1 locs1 cells slots Q (F0 m (pc + 3) ls (.long r :: rest))) : W p l e R s m args below meth c H locs cells slots Q (F0 m pc ls st0) :=
  va_calll hr hS (fun q h1 h2 => absurd h2 (Nat.not_le.mpr h1)) (fun q h => hA q (Nat.le_trans hS.1 h)) (fun r u t H1 locs1 ht hvm hw hB hz hk hS1 => kk r H1 locs1 hw (rdP hP hk) hS1)
theorem rd_v {post : Unit → Prop} (hr : va_Run p l e R s m args below meth c H locs cells slots 0 0 (F0 m pc ls st0) rest (va_Qv post (fun _ _ => True) (fun q => H.size ≤ q) a) (fun q => H.size ≤ q)) (hP : va_P D vwCl ws H) (hS : va_S A H0 H locs) (hA : ∀ q, H0.size ≤ q → A q)
    (kk : ∀ (H1 : Heap) (locs1 : List Loc), post () → va_P D vwCl ws H1 → va_S A H0 H1 locs1 → W p l e R s m args below meth c H1 locs1 cells slots Q (F0 m (pc + 3) ls rest)) : W p l e R s m args below meth c H locs cells slots Q (F0 m pc ls st0) :=
  va_callv hr hS (fun q h1 h2 => absurd h2 (Nat.not_le.mpr h1)) (fun q h => hA q (Nat.le_trans hS.1 h)) (fun u t H1 locs1 ht hvm hw hB hz hk hS1 => kk H1 locs1 hw (rdP hP hk) hS1)
/-- a writer's call: the callee's cells wc become w1 u, the rest wr stays -/
theorem wr_i {S : Type} {post : Int32 → S → Prop} {w1 : S → va_W} {mc ms : Nat} (hr : va_Run p l e R s m args below meth c H locs cells slots mc ms (F0 m pc ls st0) rest (va_Qi post (fun u t => va_P D vwCl (w1 u) t.heap ∧ va_D (va_A wc H.size) (w1 u)) (va_A wc H.size) a) (va_A wc H.size)) (hP : va_P D vwCl ws H) (hD : va_D A ws) (hS : va_S A H0 H locs) (hA : ∀ q, H0.size ≤ q → A q)
    (isC isR : List Nat) (hC : isC.map (fun i => ws[i]?) = wc.map some) (hR : isR.map (fun i => ws[i]?) = wr.map some) (hn : va_nd isR = true) (hdis : ∀ i ∈ isR, i ∉ isC)
    (kk : ∀ (r : Int32) (u : S) (H1 : Heap) (locs1 : List Loc), post r u → va_P D vwCl (wr ++ w1 u) H1 → va_D A (wr ++ w1 u) → va_S A H0 H1 locs1 → W p l e R s m args below meth c H1 locs1 (cells + mc) (slots + ms) Q (F0 m (pc + 3) ls (.int r :: rest))) : W p l e R s m args below meth c H locs cells slots Q (F0 m pc ls st0) := by
  have hF := va_free (wc := wc) hD hS hA isC hC
  refine va_calli hr hS (fun q _ h => hF q h) hF (fun r u t H1 locs1 ht hvm hw hB hz hk hS1 => ?_)
  rw [ht] at hB
  obtain ⟨h1, h2⟩ := va_join (wr := wr) hP hD isC isR hC hR hn hdis hk hF hB.1 hB.2
  exact kk r u H1 locs1 hw h1 h2 hS1
theorem wr_l {S : Type} {post : Int64 → S → Prop} {w1 : S → va_W} {mc ms : Nat} (hr : va_Run p l e R s m args below meth c H locs cells slots mc ms (F0 m pc ls st0) rest (va_Ql post (fun u t => va_P D vwCl (w1 u) t.heap ∧ va_D (va_A wc H.size) (w1 u)) (va_A wc H.size) a) (va_A wc H.size)) (hP : va_P D vwCl ws H) (hD : va_D A ws) (hS : va_S A H0 H locs) (hA : ∀ q, H0.size ≤ q → A q)
    (isC isR : List Nat) (hC : isC.map (fun i => ws[i]?) = wc.map some) (hR : isR.map (fun i => ws[i]?) = wr.map some) (hn : va_nd isR = true) (hdis : ∀ i ∈ isR, i ∉ isC)
    (kk : ∀ (r : Int64) (u : S) (H1 : Heap) (locs1 : List Loc), post r u → va_P D vwCl (wr ++ w1 u) H1 → va_D A (wr ++ w1 u) → va_S A H0 H1 locs1 → W p l e R s m args below meth c H1 locs1 (cells + mc) (slots + ms) Q (F0 m (pc + 3) ls (.long r :: rest))) : W p l e R s m args below meth c H locs cells slots Q (F0 m pc ls st0) := by
  have hF := va_free (wc := wc) hD hS hA isC hC
  refine va_calll hr hS (fun q _ h => hF q h) hF (fun r u t H1 locs1 ht hvm hw hB hz hk hS1 => ?_)
  rw [ht] at hB
  obtain ⟨h1, h2⟩ := va_join (wr := wr) hP hD isC isR hC hR hn hdis hk hF hB.1 hB.2
  exact kk r u H1 locs1 hw h1 h2 hS1
theorem wr_v {S : Type} {post : S → Prop} {w1 : S → va_W} {mc ms : Nat} (hr : va_Run p l e R s m args below meth c H locs cells slots mc ms (F0 m pc ls st0) rest (va_Qv post (fun u t => va_P D vwCl (w1 u) t.heap ∧ va_D (va_A wc H.size) (w1 u)) (va_A wc H.size) a) (va_A wc H.size)) (hP : va_P D vwCl ws H) (hD : va_D A ws) (hS : va_S A H0 H locs) (hA : ∀ q, H0.size ≤ q → A q)
    (isC isR : List Nat) (hC : isC.map (fun i => ws[i]?) = wc.map some) (hR : isR.map (fun i => ws[i]?) = wr.map some) (hn : va_nd isR = true) (hdis : ∀ i ∈ isR, i ∉ isC)
    (kk : ∀ (u : S) (H1 : Heap) (locs1 : List Loc), post u → va_P D vwCl (wr ++ w1 u) H1 → va_D A (wr ++ w1 u) → va_S A H0 H1 locs1 → W p l e R s m args below meth c H1 locs1 (cells + mc) (slots + ms) Q (F0 m (pc + 3) ls rest)) : W p l e R s m args below meth c H locs cells slots Q (F0 m pc ls st0) := by
  have hF := va_free (wc := wc) hD hS hA isC hC
  refine va_callv hr hS (fun q _ h => hF q h) hF (fun u t H1 locs1 ht hvm hw hB hz hk hS1 => ?_)
  rw [ht] at hB
  obtain ⟨h1, h2⟩ := va_join (wr := wr) hP hD isC isR hC hR hn hdis hk hF hB.1 hB.2
  exact kk u H1 locs1 hw h1 h2 hS1
/-- a new array of numbers of a known kind -/
theorem my_newa {cc : ByteArray} {tys : List (ClassId × FieldType)} (hexec : p.tables.exec = Jvm.exec) (hb : c.code = cc) {atype : ArrayType} (harr : (Cond.arrayClass (newarray.typeOf atype)).before args s = true) {ty : FieldType} (hty : newarray.typeOf atype = ty) (hK : va_K D vwCl tys s) (hP : va_P D vwCl ws H) (hD : va_D A ws) (hS : va_S A H0 H locs) (hA : ∀ q, H0.size ≤ q → A q)
    (t0 : Nat) {cz : ClassId} (ht : tys[t0]? = some (cz, ty)) {n : Int32} {N' : Nat} {a0 : vp_A} (ha : ∀ cA : ClassId, vp_cell cA a0 = arrV cA N' (fun _ => defaultValue ty)) (hn : ¬ n < 0) (hN : n.toNatClampNeg = N') (hbytes : N' * componentBytes ty ≤ 536870912) (hcells : cells + 1 ≤ R.cells) (hslots : slots + N' ≤ R.slots) (hdg : decode cc pc = .ok (.newarray atype, 2))
    (kk : ∀ (q : Nat) (H1 : Heap), va_P D vwCl (ws ++ [(q, .inl (cz, a0))]) H1 → va_D A (ws ++ [(q, .inl (cz, a0))]) → va_S A H0 H1 locs →
      W p l e R s m args below meth c H1 locs (cells + 1) (slots + N') Q (F0 m (pc + 2) ls (.ref q :: rest))) : W p l e R s m args below meth c H locs cells slots Q (F0 m pc ls (.int n :: rest)) := by
  refine va_newa hexec hb harr hty hK hP hD hS hA ha hn hN hbytes hcells hslots hdg (fun q cA H1 hK1 hP1 hD1 hS1 => ?_)
  have e1 := (hK.2 t0 _ ht).2
  have e2 := (hK1.2 tys.length (cA, ty) (by rw [List.getElem?_append_right (Nat.le_refl _), Nat.sub_self]; rfl)).2
  have e3 : cA = cz := by
    subst hty
    cases atype <;> exact Option.some.inj (e2.symm.trans e1)
  subst e3
  exact kk q H1 hP1 hD1 hS1
theorem my_newq {cc : ByteArray} {tys : List (ClassId × FieldType)} (hexec : p.tables.exec = Jvm.exec) (hb : c.code = cc) {own C : String} {index : Nat} (hown : s.vm.findClass own = some m.cls) (hclink : (Cond.classLink own index C).before args s = true) (hover : va_AO C s) (hK : va_K D vwCl tys s) (hP : va_P D vwCl ws H) (hD : va_D A ws) (hS : va_S A H0 H locs) (hA : ∀ q, H0.size ≤ q → A q)
    (t0 : Nat) {cz : ClassId} (ht : tys[t0]? = some (cz, .object C)) {n : Int32} {N' : Nat} (hn : ¬ n < 0) (hN : n.toNatClampNeg = N') (hbytes : N' * 4 ≤ 536870912) (hcells : cells + 1 ≤ R.cells) (hslots : slots + N' ≤ R.slots) (hdg : decode cc pc = .ok (.anewarray index, 3))
    (kk : ∀ (q : Nat) (H1 : Heap), va_P D vwCl (ws ++ [(q, .inl (cz, N', .inr (.inr (.inr (.inr (fun _ => none))))))]) H1 → va_D A (ws ++ [(q, .inl (cz, N', .inr (.inr (.inr (.inr (fun _ => none))))))]) → va_S A H0 H1 locs →
      W p l e R s m args below meth c H1 locs (cells + 1) (slots + N') Q (F0 m (pc + 3) ls (.ref q :: rest))) : W p l e R s m args below meth c H locs cells slots Q (F0 m pc ls (.int n :: rest)) := by
  refine va_newq hexec hb hown hclink hover hK hP hD hS hA hn hN hbytes hcells hslots hdg (fun q cA H1 hK1 hP1 hD1 hS1 => ?_)
  obtain ⟨k1, c1, a1, a2, a3, a4⟩ := (hK.2 t0 _ ht).2
  obtain ⟨k2, c2, b1, b2, b3, b4⟩ := (hK1.2 tys.length (cA, .object C) (by rw [List.getElem?_append_right (Nat.le_refl _), Nat.sub_self]; rfl)).2
  have e3 : cA = cz := Option.some.inj (b4.symm.trans a4)
  subst e3
  exact kk q H1 hP1 hD1 hS1
theorem my_iald {cc : ByteArray} {cl : List vw_C} {tys : List (ClassId × FieldType)} {b : Nat} (hexec : p.tables.exec = Jvm.exec) (hb : c.code = cc) (hK : va_K D cl tys s) (hP : va_P D cl ws H) (q0 t0 : Nat) {cA : ClassId} {n : Nat} {f : Nat → Int32} (ha : ws[q0]? = some (b, .inl (cA, n, .inl f))) (ht : tys[t0]? = some (cA, .int)) {i : Int32} {k : Nat} (hin : vp_in i n) (hk : i.toNatClampNeg = k) (hdg : decode cc pc = .ok (.iaload, 1))
    (kk : W p l e R s m args below meth c H locs cells slots Q (F0 m (pc + 1) ls (.int (f k) :: rest))) : W p l e R s m args below meth c H locs cells slots Q (F0 m pc ls (.int i :: .ref b :: rest)) := by
  subst hk
  exact va_iald hexec hb hK hP q0 t0 ha ht hin hdg kk
theorem my_bald {cc : ByteArray} {cl : List vw_C} {tys : List (ClassId × FieldType)} {b : Nat} (hexec : p.tables.exec = Jvm.exec) (hb : c.code = cc) (hK : va_K D cl tys s) (hP : va_P D cl ws H) (q0 t0 : Nat) {cA : ClassId} {n : Nat} {f : Nat → Int32} (ha : ws[q0]? = some (b, .inl (cA, n, .inl f))) (ht : tys[t0]? = some (cA, .byte)) {i : Int32} {k : Nat} (hin : vp_in i n) (hk : i.toNatClampNeg = k) (hdg : decode cc pc = .ok (.baload, 1))
    (kk : W p l e R s m args below meth c H locs cells slots Q (F0 m (pc + 1) ls (.int (f k) :: rest))) : W p l e R s m args below meth c H locs cells slots Q (F0 m pc ls (.int i :: .ref b :: rest)) := by
  subst hk
  exact va_bald hexec hb hK hP q0 t0 ha ht hin hdg kk
theorem my_zald {cc : ByteArray} {cl : List vw_C} {tys : List (ClassId × FieldType)} {b : Nat} (hexec : p.tables.exec = Jvm.exec) (hb : c.code = cc) (hK : va_K D cl tys s) (hP : va_P D cl ws H) (q0 t0 : Nat) {cA : ClassId} {n : Nat} {f : Nat → Int32} (ha : ws[q0]? = some (b, .inl (cA, n, .inl f))) (ht : tys[t0]? = some (cA, .boolean)) {i : Int32} {k : Nat} (hin : vp_in i n) (hk : i.toNatClampNeg = k) (hdg : decode cc pc = .ok (.baload, 1))
    (kk : W p l e R s m args below meth c H locs cells slots Q (F0 m (pc + 1) ls (.int (f k) :: rest))) : W p l e R s m args below meth c H locs cells slots Q (F0 m pc ls (.int i :: .ref b :: rest)) := by
  subst hk
  exact va_zald hexec hb hK hP q0 t0 ha ht hin hdg kk
theorem my_aldq {cc : ByteArray} {cl : List vw_C} {tys : List (ClassId × FieldType)} {b : Nat} (hexec : p.tables.exec = Jvm.exec) (hb : c.code = cc) (hK : va_K D cl tys s) (hP : va_P D cl ws H) (q0 t0 : Nat) {cA : ClassId} {C : String} {n : Nat} {f : Nat → Option Nat} (ha : ws[q0]? = some (b, .inl (cA, n, .inr (.inr (.inr (.inr f)))))) (ht : tys[t0]? = some (cA, .object C)) {i : Int32} {k : Nat} (hin : vp_in i n) (hk : i.toNatClampNeg = k) (hdg : decode cc pc = .ok (.aaload, 1))
    (kk : W p l e R s m args below meth c H locs cells slots Q (F0 m (pc + 1) ls (va_rf (f k) :: rest))) : W p l e R s m args below meth c H locs cells slots Q (F0 m pc ls (.int i :: .ref b :: rest)) := by
  subst hk
  exact va_aldq hexec hb hK hP q0 t0 ha ht hin hdg kk
theorem my_iast {cc : ByteArray} {cl : List vw_C} {tys : List (ClassId × FieldType)} {b : Nat} (hexec : p.tables.exec = Jvm.exec) (hb : c.code = cc) (hK : va_K D cl tys s) (hP : va_P D cl ws H) (hD : va_D A ws) (hS : va_S A H0 H locs) (q0 t0 : Nat) {cA : ClassId} {n : Nat} {f : Nat → Int32} (ha : ws[q0]? = some (b, .inl (cA, n, .inl f))) (ht : tys[t0]? = some (cA, .int)) {i : Int32} {x : Int32} {k : Nat} (hin : vp_in i n) (hk : i.toNatClampNeg = k) (hdg : decode cc pc = .ok (.iastore, 1))
    (kk : ∀ (H1 : Heap) (locs1 : List Loc), va_P D cl (ws.set q0 (b, .inl (cA, n, .inl (upd f k x)))) H1 → va_D A (ws.set q0 (b, .inl (cA, n, .inl (upd f k x)))) → va_S A H0 H1 locs1 → W p l e R s m args below meth c H1 locs1 cells slots Q (F0 m (pc + 1) ls rest)) : W p l e R s m args below meth c H locs cells slots Q (F0 m pc ls (.int x :: .int i :: .ref b :: rest)) := by
  subst hk
  exact va_iast hexec hb hK hP hD hS q0 t0 ha ht hin hdg kk
theorem my_bast {cc : ByteArray} {cl : List vw_C} {tys : List (ClassId × FieldType)} {b : Nat} (hexec : p.tables.exec = Jvm.exec) (hb : c.code = cc) (hK : va_K D cl tys s) (hP : va_P D cl ws H) (hD : va_D A ws) (hS : va_S A H0 H locs) (q0 t0 : Nat) {cA : ClassId} {n : Nat} {f : Nat → Int32} (ha : ws[q0]? = some (b, .inl (cA, n, .inl f))) (ht : tys[t0]? = some (cA, .byte)) {i : Int32} {x : Int32} {k : Nat} (hin : vp_in i n) (hk : i.toNatClampNeg = k) (hdg : decode cc pc = .ok (.bastore, 1))
    (kk : ∀ (H1 : Heap) (locs1 : List Loc), va_P D cl (ws.set q0 (b, .inl (cA, n, .inl (upd f k (vp_nar .byte x))))) H1 → va_D A (ws.set q0 (b, .inl (cA, n, .inl (upd f k (vp_nar .byte x))))) → va_S A H0 H1 locs1 → W p l e R s m args below meth c H1 locs1 cells slots Q (F0 m (pc + 1) ls rest)) : W p l e R s m args below meth c H locs cells slots Q (F0 m pc ls (.int x :: .int i :: .ref b :: rest)) := by
  subst hk
  exact va_bast hexec hb hK hP hD hS q0 t0 ha ht hin hdg kk
theorem my_zast {cc : ByteArray} {cl : List vw_C} {tys : List (ClassId × FieldType)} {b : Nat} (hexec : p.tables.exec = Jvm.exec) (hb : c.code = cc) (hK : va_K D cl tys s) (hP : va_P D cl ws H) (hD : va_D A ws) (hS : va_S A H0 H locs) (q0 t0 : Nat) {cA : ClassId} {n : Nat} {f : Nat → Int32} (ha : ws[q0]? = some (b, .inl (cA, n, .inl f))) (ht : tys[t0]? = some (cA, .boolean)) {i : Int32} {x : Int32} {k : Nat} (hin : vp_in i n) (hk : i.toNatClampNeg = k) (hdg : decode cc pc = .ok (.bastore, 1))
    (kk : ∀ (H1 : Heap) (locs1 : List Loc), va_P D cl (ws.set q0 (b, .inl (cA, n, .inl (upd f k (vp_nar .boolean x))))) H1 → va_D A (ws.set q0 (b, .inl (cA, n, .inl (upd f k (vp_nar .boolean x))))) → va_S A H0 H1 locs1 → W p l e R s m args below meth c H1 locs1 cells slots Q (F0 m (pc + 1) ls rest)) : W p l e R s m args below meth c H locs cells slots Q (F0 m pc ls (.int x :: .int i :: .ref b :: rest)) := by
  subst hk
  exact va_zast hexec hb hK hP hD hS q0 t0 ha ht hin hdg kk
end MyCalls
/-! numbers -/
theorem z_lt (a b : Int32) : a < b ↔ a.toInt < b.toInt := Int32.lt_iff_toInt_lt
theorem z_le (a b : Int32) : a ≤ b ↔ a.toInt ≤ b.toInt := Int32.le_iff_toInt_le
theorem z_eq (a b : Int32) : a = b ↔ a.toInt = b.toInt := Int32.toInt_inj.symm
theorem z_in {x y : Int32} {n : Nat} (h1 : ¬ x < 0) (h2 : ¬ y ≤ x) (h3 : y.toInt ≤ n) : vp_in x n := by
  rw [vp_in_iff]
  rw [z_lt] at h1
  rw [z_le] at h2
  have : (0 : Int32).toInt = 0 := by decide
  omega
theorem z_wle (a b : Int32) : a.toInt64 ≤ b.toInt64 ↔ a ≤ b := by
  rw [Int64.le_iff_toInt_le, Int32.le_iff_toInt_le, Int32.toInt_toInt64, Int32.toInt_toInt64]
theorem nlt_of {k n : Nat} {N : Int32} (hN : N = nI n) (hk : k ≤ n) (hn : n < 2 ^ 31) (h : ¬ N ≤ nI k) : k < n := by
  subst hN
  rw [nI_leI hn (by omega)] at h
  omega
theorem nge_of {k n : Nat} {N : Int32} (hN : N = nI n) (hk : k ≤ n) (hn : n < 2 ^ 31) (h : N ≤ nI k) : k = n := by
  subst hN
  rw [nI_leI hn (by omega)] at h
  omega
theorem nlt_max {k : Nat} {N : Int32} (hk : k < 2147483648) (h : ¬ N ≤ nI k) : k + 1 < 2147483648 := by
  rw [z_le, nI_toInt (by omega)] at h
  have h2 : N.toInt < 2147483648 := N.toInt_lt
  omega
theorem z_sh0 (q : Int32) : ¬ (0 : Int64) >>> (q.toInt64 &&& 63) &&& 1 = 1 := by
  have : (0 : Int64) >>> (q.toInt64 &&& 63) = 0 := by
    apply Int64.toBitVec_inj.mp
    simp
  rw [this]
  decide
theorem z_xx (a b : Int64) : a ^^^ b ^^^ b = a := by
  apply Int64.toBitVec_inj.mp
  simp [BitVec.xor_assoc]
theorem z_nn {q : Int32} {n : Nat} {N : Int32} (hN : N.toInt = n) (h1 : 0 ≤ q) (h2 : q < N) : ∃ j : Nat, j < n ∧ q = nI j := by
  have a := Int32.le_iff_toInt_le.mp h1
  have b := Int32.lt_iff_toInt_lt.mp h2
  have c : (0 : Int32).toInt = 0 := by decide
  have d : N.toInt < 2147483648 := N.toInt_lt
  refine ⟨q.toInt.toNat, by omega, ?_⟩
  apply Int32.toInt_inj.mp
  rw [nI_toInt (by omega)]
  omega
theorem a0I (n : Nat) : ∀ cA : ClassId, vp_cell cA (n, .inl (fun _ => 0)) = arrV cA n (fun _ => defaultValue .int) := fun _ => rfl
theorem a0B (n : Nat) : ∀ cA : ClassId, vp_cell cA (n, .inl (fun _ => 0)) = arrV cA n (fun _ => defaultValue .byte) := fun _ => rfl
theorem a0Z (n : Nat) : ∀ cA : ClassId, vp_cell cA (n, .inl (fun _ => 0)) = arrV cA n (fun _ => defaultValue .boolean) := fun _ => rfl
theorem z_max {a b : Nat} (ha : a < 2147483648) (hb : b < 2147483648) : (if nI a < nI b then nI b else nI a) = nI (max a b) := by
  by_cases h : a < b
  · rw [if_pos ((nI_ltI ha hb).mpr h), Nat.max_eq_right (by omega)]
  · rw [if_neg (fun q => h ((nI_ltI ha hb).mp q)), Nat.max_eq_left (by omega)]
theorem z_min {a b : Nat} (ha : a < 2147483648) (hb : b < 2147483648) : (if nI b < nI a then nI b else nI a) = nI (min a b) := by
  by_cases h : b < a
  · rw [if_pos ((nI_ltI hb ha).mpr h), Nat.min_eq_right (by omega)]
  · rw [if_neg (fun q => h ((nI_ltI hb ha).mp q)), Nat.min_eq_left (by omega)]
theorem z_dec {x : Int32} {r : Nat} (h : x.toInt = (r : Int) - 1) (hc : ¬ x < 0) : 0 < r ∧ (x + (-1)).toInt = ((r - 1 : Nat) : Int) - 1 := by
  have h0 : (0 : Int32).toInt = 0 := by decide
  rw [z_lt, h0] at hc
  have h1 : ((-1 : Int32)).toInt = -1 := by decide
  have hx : x.toInt < 2147483648 := x.toInt_lt
  refine ⟨by omega, ?_⟩
  rw [Int32.toInt_add, h1, Int.bmod_eq_of_le (by omega) (by omega)]
  omega
def dgF (h : Int64) : Nat → Int64
  | 0 => h
  | n + 1 => 31 * (31 * dgF h n + 0) + 0
