theorem dX8_append_0 : decode cX8_append 0 = .ok (.iload_n 3, 1) := by decide +kernel
theorem dX8_append_1 : decode cX8_append 1 = .ok (.sipush 250, 3) := by decide +kernel
theorem dX8_append_4 : decode cX8_append 4 = .ok (.aload_n 0, 1) := by decide +kernel
theorem dX8_append_5 : decode cX8_append 5 = .ok (.getfield 15, 3) := by decide +kernel
theorem dX8_append_8 : decode cX8_append 8 = .ok (.isub, 1) := by decide +kernel
theorem dX8_append_9 : decode cX8_append 9 = .ok (.if_icmp .le 5, 3) := by decide +kernel
theorem dX8_append_14 : decode cX8_append 14 = .ok (.iload_n 3, 1) := by decide +kernel
theorem dX8_append_15 : decode cX8_append 15 = .ok (.iconst 1, 1) := by decide +kernel
theorem dX8_append_16 : decode cX8_append 16 = .ok (.isub, 1) := by decide +kernel
theorem dX8_append_17 : decode cX8_append 17 = .ok (.istore 4, 2) := by decide +kernel
theorem dX8_append_19 : decode cX8_append 19 = .ok (.iload 4, 2) := by decide +kernel
theorem dX8_append_21 : decode cX8_append 21 = .ok (.ifCond .lt 53, 3) := by decide +kernel
theorem dX8_append_74 : decode cX8_append 74 = .ok (.iconst 1, 1) := by decide +kernel
theorem dX8_append_75 : decode cX8_append 75 = .ok (.ireturn, 1) := by decide +kernel
theorem dX8_append_24 : decode cX8_append 24 = .ok (.aload_n 0, 1) := by decide +kernel
theorem dX8_append_25 : decode cX8_append 25 = .ok (.getfield 15, 3) := by decide +kernel
theorem dX8_append_28 : decode cX8_append 28 = .ok (.ifCond .lt 40, 3) := by decide +kernel
theorem dX8_append_31 : decode cX8_append 31 = .ok (.aload_n 0, 1) := by decide +kernel
theorem dX8_append_32 : decode cX8_append 32 = .ok (.getfield 15, 3) := by decide +kernel
theorem dX8_append_35 : decode cX8_append 35 = .ok (.aload_n 0, 1) := by decide +kernel
theorem dX8_append_36 : decode cX8_append 36 = .ok (.getfield 9, 3) := by decide +kernel
theorem dX8_append_39 : decode cX8_append 39 = .ok (.arraylength, 1) := by decide +kernel
theorem dX8_append_40 : decode cX8_append 40 = .ok (.if_icmp .ge 28, 3) := by decide +kernel
theorem dX8_append_43 : decode cX8_append 43 = .ok (.aload_n 0, 1) := by decide +kernel
theorem dX8_append_44 : decode cX8_append 44 = .ok (.getfield 9, 3) := by decide +kernel
theorem dX8_append_47 : decode cX8_append 47 = .ok (.aload_n 0, 1) := by decide +kernel
theorem dX8_append_48 : decode cX8_append 48 = .ok (.dup, 1) := by decide +kernel
theorem dX8_append_49 : decode cX8_append 49 = .ok (.getfield 15, 3) := by decide +kernel
theorem dX8_append_52 : decode cX8_append 52 = .ok (.dup_x1, 1) := by decide +kernel
theorem dX8_append_53 : decode cX8_append 53 = .ok (.iconst 1, 1) := by decide +kernel
theorem dX8_append_54 : decode cX8_append 54 = .ok (.iadd, 1) := by decide +kernel
theorem dX8_append_55 : decode cX8_append 55 = .ok (.putfield 15, 3) := by decide +kernel
theorem dX8_append_58 : decode cX8_append 58 = .ok (.lload_n 1, 1) := by decide +kernel
theorem dX8_append_59 : decode cX8_append 59 = .ok (.bipush 8, 2) := by decide +kernel
theorem dX8_append_61 : decode cX8_append 61 = .ok (.iload 4, 2) := by decide +kernel
theorem dX8_append_63 : decode cX8_append 63 = .ok (.imul, 1) := by decide +kernel
theorem dX8_append_64 : decode cX8_append 64 = .ok (.lshr, 1) := by decide +kernel
theorem dX8_append_65 : decode cX8_append 65 = .ok (.l2i, 1) := by decide +kernel
theorem dX8_append_66 : decode cX8_append 66 = .ok (.i2b, 1) := by decide +kernel
theorem dX8_append_67 : decode cX8_append 67 = .ok (.bastore, 1) := by decide +kernel
theorem dX8_append_68 : decode cX8_append 68 = .ok (.iinc 4 (-1), 3) := by decide +kernel
theorem dX8_append_71 : decode cX8_append 71 = .ok (.goto (-52), 3) := by decide +kernel
theorem dX8_append_12 : decode cX8_append 12 = .ok (.iconst 0, 1) := by decide +kernel
theorem dX8_append_13 : decode cX8_append 13 = .ok (.ireturn, 1) := by decide +kernel
theorem dX3_init_0 : decode cX3_init 0 = .ok (.aload_n 0, 1) := by decide +kernel
theorem dX3_init_1 : decode cX3_init 1 = .ok (.invokespecial 3, 3) := by decide +kernel
theorem dX3_init_4 : decode cX3_init 4 = .ok (.aload_n 0, 1) := by decide +kernel
theorem dX3_init_5 : decode cX3_init 5 = .ok (.iconst 5, 1) := by decide +kernel
theorem dX3_init_6 : decode cX3_init 6 = .ok (.newarray .int, 2) := by decide +kernel
theorem dX3_init_8 : decode cX3_init 8 = .ok (.putfield 9, 3) := by decide +kernel
theorem dX3_init_11 : decode cX3_init 11 = .ok (.aload_n 0, 1) := by decide +kernel
theorem dX3_init_12 : decode cX3_init 12 = .ok (.iconst 5, 1) := by decide +kernel
theorem dX3_init_13 : decode cX3_init 13 = .ok (.newarray .int, 2) := by decide +kernel
theorem dX3_init_15 : decode cX3_init 15 = .ok (.putfield 15, 3) := by decide +kernel
theorem dX3_init_18 : decode cX3_init 18 = .ok (.aload_n 0, 1) := by decide +kernel
theorem dX3_init_19 : decode cX3_init 19 = .ok (.iconst 5, 1) := by decide +kernel
theorem dX3_init_20 : decode cX3_init 20 = .ok (.newarray .int, 2) := by decide +kernel
theorem dX3_init_22 : decode cX3_init 22 = .ok (.putfield 18, 3) := by decide +kernel
theorem dX3_init_25 : decode cX3_init 25 = .ok (.aload_n 0, 1) := by decide +kernel
theorem dX3_init_26 : decode cX3_init 26 = .ok (.bipush 6, 2) := by decide +kernel
theorem dX3_init_28 : decode cX3_init 28 = .ok (.newarray .int, 2) := by decide +kernel
theorem dX3_init_30 : decode cX3_init 30 = .ok (.putfield 21, 3) := by decide +kernel
theorem dX3_init_33 : decode cX3_init 33 = .ok (.aload_n 0, 1) := by decide +kernel
theorem dX3_init_34 : decode cX3_init 34 = .ok (.bipush 6, 2) := by decide +kernel
theorem dX3_init_36 : decode cX3_init 36 = .ok (.newarray .int, 2) := by decide +kernel
theorem dX3_init_38 : decode cX3_init 38 = .ok (.putfield 24, 3) := by decide +kernel
theorem dX3_init_41 : decode cX3_init 41 = .ok (.aload_n 0, 1) := by decide +kernel
theorem dX3_init_42 : decode cX3_init 42 = .ok (.bipush 8, 2) := by decide +kernel
theorem dX3_init_44 : decode cX3_init 44 = .ok (.newarray .int, 2) := by decide +kernel
theorem dX3_init_46 : decode cX3_init 46 = .ok (.putfield 27, 3) := by decide +kernel
theorem dX3_init_49 : decode cX3_init 49 = .ok (.aload_n 0, 1) := by decide +kernel
theorem dX3_init_50 : decode cX3_init 50 = .ok (.bipush 8, 2) := by decide +kernel
theorem dX3_init_52 : decode cX3_init 52 = .ok (.newarray .int, 2) := by decide +kernel
theorem dX3_init_54 : decode cX3_init 54 = .ok (.putfield 30, 3) := by decide +kernel
theorem dX3_init_57 : decode cX3_init 57 = .ok (.aload_n 0, 1) := by decide +kernel
theorem dX3_init_58 : decode cX3_init 58 = .ok (.bipush 6, 2) := by decide +kernel
theorem dX3_init_60 : decode cX3_init 60 = .ok (.putfield 33, 3) := by decide +kernel
theorem dX3_init_63 : decode cX3_init 63 = .ok (.aload_n 0, 1) := by decide +kernel
theorem dX3_init_64 : decode cX3_init 64 = .ok (.bipush 6, 2) := by decide +kernel
theorem dX3_init_66 : decode cX3_init 66 = .ok (.putfield 37, 3) := by decide +kernel
theorem dX3_init_69 : decode cX3_init 69 = .ok (.aload_n 0, 1) := by decide +kernel
theorem dX3_init_70 : decode cX3_init 70 = .ok (.iconst 1, 1) := by decide +kernel
theorem dX3_init_71 : decode cX3_init 71 = .ok (.putfield 40, 3) := by decide +kernel
theorem dX3_init_74 : decode cX3_init 74 = .ok (.return_, 1) := by decide +kernel
theorem z_nn1 {q : Int32} (h1 : 1 ≤ q) (h2 : q ≤ 8) : ∃ j : Nat, 1 ≤ j ∧ j ≤ 8 ∧ q = nI j := by
  have a := Int32.le_iff_toInt_le.mp h1
  have b := Int32.le_iff_toInt_le.mp h2
  have c : (1 : Int32).toInt = 1 := by decide
  have d : (8 : Int32).toInt = 8 := by decide
  refine ⟨q.toInt.toNat, by omega, by omega, ?_⟩
  apply Int32.toInt_inj.mp
  rw [nI_toInt (by omega)]
  omega
def tyN (ln : Nat) (n : Int32) : Nat := if 1 ≤ n ∧ n ≤ 8 then (if ln + n.toNatClampNeg ≤ 250 then ln + n.toNatClampNeg else ln) else ln
def tyR (ln : Nat) (n : Int32) : Int32 := if 1 ≤ n ∧ n ≤ 8 then (if ln + n.toNatClampNeg ≤ 250 then nI (ln + n.toNatClampNeg) else -4) else -2
theorem ty_bad {ln : Nat} {n : Int32} (h : ¬ (1 ≤ n ∧ n ≤ 8)) : -2 = tyR ln n ∧ ln = tyN ln n := by
  rw [tyR, tyN, if_neg h, if_neg h]
  exact ⟨rfl, rfl⟩
theorem ty_ok {ln nn m : Nat} {n : Int32} (h1 : 1 ≤ n) (h2 : n ≤ 8) (hn : n = nI nn) (h8 : nn ≤ 8) (hm : m = ln + nn) (h : ln + nn ≤ 250) : nI m = tyR ln n ∧ m = tyN ln n := by
  have e : n.toNatClampNeg = nn := by rw [hn]; exact nI_clamp (by omega)
  have q : 1 ≤ n ∧ n ≤ 8 := ⟨h1, h2⟩
  exact ⟨by rw [tyR, if_pos q, e, if_pos h, hm], by rw [tyN, if_pos q, e, if_pos h, hm]⟩
theorem ty_full {ln nn m : Nat} {n : Int32} (h1 : 1 ≤ n) (h2 : n ≤ 8) (hn : n = nI nn) (h8 : nn ≤ 8) (hm : m = ln) (h : ¬ ln + nn ≤ 250) : -4 = tyR ln n ∧ m = tyN ln n := by
  have e : n.toNatClampNeg = nn := by rw [hn]; exact nI_clamp (by omega)
  have q : 1 ≤ n ∧ n ≤ 8 := ⟨h1, h2⟩
  exact ⟨by rw [tyR, if_pos q, e, if_neg h], by rw [tyN, if_pos q, e, if_neg h, hm]⟩
abbrev GT : Type := Nat × Nat × Nat × Nat × Nat × Nat × Nat × Nat × Int32 × Int32 × Int32 × Int32 × Int64 × Int64 × Int32 × Int32 × Int32 × (Nat → Int32) × (Nat → Int32) × (Nat → Int32) × (Nat → Int32) × (Nat → Int32) × (Nat → Int32) × (Nat → Int32)
/-- an image's cells: none, or a garden's -/
def imC (cy : Nat → ClassId) (o : Option GT) : va_W := match o with
  | none => []
  | some (g0, k0, k1, k2, k3, k4, k5, k6, wd, hi, dr, wi, he, fo, pe, te, re, f0, f1, f2, f3, f4, f5, f6) => [(g0, .inr (3, [.int wd, .int hi, .int dr, .int wi, .long he, .long fo, .int pe, .int te, .int re, .ref k0, .ref k1, .ref k2, .ref k3, .ref k4, .ref k5, .ref k6])), (k0, .inl (cy 1, 5, .inl f0)), (k1, .inl (cy 1, 5, .inl f1)), (k2, .inl (cy 1, 5, .inl f2)), (k3, .inl (cy 1, 6, .inl f3)), (k4, .inl (cy 1, 6, .inl f4)), (k5, .inl (cy 1, 8, .inl f5)), (k6, .inl (cy 1, 8, .inl f6))]
def imA (o : Option GT) : Option Nat := match o with
  | none => none
  | some g => some g.1
def imW (o : Option GT) : Prop := match o with
  | none => True
  | some (g0, k0, k1, k2, k3, k4, k5, k6, wd, hi, dr, wi, he, fo, pe, te, re, f0, f1, f2, f3, f4, f5, f6) => 2 ≤ wd
def imV (o : Option GT) : Int32 := match o with
  | none => -3
  | some _ => 1
def imR (o0 o1 : Option GT) (x : Int32) : Int32 := if 0 ≤ x ∧ x ≤ 1 then (if x = 0 then imV o0 else imV o1) else -2
def sp_01 (x r : Int32) : Int32 := if 0 ≤ x ∧ x ≤ 1 then r else -2
theorem z_01 {x : Int32} (h0 : 0 ≤ x) (h1 : x ≤ 1) : x = 0 ∨ x = 1 := by
  have a := (z_le _ _).mp h0
  have b := (z_le _ _).mp h1
  have c0 : (0 : Int32).toInt = 0 := by decide
  have c1 : (1 : Int32).toInt = 1 := by decide
  rcases (show x.toInt = 0 ∨ x.toInt = 1 by omega) with h | h
  · exact Or.inl (Int32.toInt_inj.mp (h.trans c0.symm))
  · exact Or.inr (Int32.toInt_inj.mp (h.trans c1.symm))
set_option maxHeartbeats 4000000 in
set_option maxRecDepth 100000 in
theorem c_X8_append (l : Launch) (D : va_G) (cy : Nat → ClassId) (pn b : Nat) (nx so sta va fa : Int32) (f : Nat → Int32) (v : Int64) (ln nn : Nat) (sz : Nat) (hln : ln ≤ 250) (hn1 : 1 ≤ nn) (hn8 : nn ≤ 8) : Met l yX8_append wsX8_append ({ frames := 0, cells := 0, slots := 0, locals := 0 }) (va_Pc [.ref pn, .long v, .int (nI nn)] (kPre D cy [(pn, .inr (8, [.ref b, .int (nI ln), .int nx, .int so, .int sta, .int va, .int fa])), (b, .inl (cy 0, 250, .inl f))] sz)) (va_Qi (fun (r : Int32) (u : Nat × (Nat → Int32)) => (r = 1 ∧ u.1 = ln + nn ∧ ln + nn ≤ 250) ∨ (r = 0 ∧ u.1 = ln ∧ ¬ ln + nn ≤ 250)) (fun (u : Nat × (Nat → Int32)) t => va_P D vwCl ([(pn, .inr (8, [.ref b, .int (nI u.1), .int nx, .int so, .int sta, .int va, .int fa])), (b, .inl (cy 0, 250, .inl u.2))]) t.heap ∧ va_D (va_A [(pn, .inr (8, [.ref b, .int (nI ln), .int nx, .int so, .int sta, .int va, .int fa])), (b, .inl (cy 0, 250, .inl f))] sz) ([(pn, .inr (8, [.ref b, .int (nI u.1), .int nx, .int so, .int sta, .int va, .int fa])), (b, .inl (cy 0, 250, .inl u.2))])) (va_A [(pn, .inr (8, [.ref b, .int (nI ln), .int nx, .int so, .int sta, .int va, .int fa])), (b, .inl (cy 0, 250, .inl f))] sz)) 0 0 (va_A [(pn, .inr (8, [.ref b, .int (nI ln), .int nx, .int so, .int sta, .int va, .int fa])), (b, .inl (cy 0, 250, .inl f))] sz) := by
  refine Met.ofW (cc := cX8_append) (maxL := 5) (ret := (some .boolean)) (by decide) rfl ?_
  intro p e s m args below meth c s₁ B hml hv
  obtain ⟨rfl, hsz, hP, hKA, hD0⟩ := hv
  have hx := B.exec
  have hb := B.bytes
  have hr := B.returns
  have hts := atoms_spec (ws := wsX8_append) B.pre
  have hown : s.vm.findClass RX8 = some m.cls := findClass_of_methodNamed B.named
  have hlocks := B.notSynchronized
  subst hsz
  have hK := hKA.1
  have hD := hD0.self (sz := s.heap.size)
  generalize hAe : va_A [(pn, .inr (8, [.ref b, .int (nI ln), .int nx, .int so, .int sta, .int va, .int fa])), (b, .inl (cy 0, 250, .inl f))] s.heap.size = A at hD ⊢
  have hA : ∀ q : Nat, s.heap.size ≤ q → A q := fun q h => by rw [← hAe]; exact Or.inr h
  have hS : va_S A s.heap s.heap [] := va_S.rf
  have hP : va_P D vwCl [(pn, .inr (8, [.ref b, .int (nI ln), .int nx, .int so, .int sta, .int va, .int fa])), (b, .inl (cy 0, 250, .inl f))] s.heap := hP
  have hl := lv_entry ([.ref pn, .long v, .int (nI nn)]) (n := 5) (Nat.le_of_ble_eq_true rfl)
  rw [lg_entry_eq]
  generalize (lg_sl ([.ref pn, .long v, .int (nI nn)]) ++ List.replicate (5 - (lg_sl ([.ref pn, .long v, .int (nI nn)])).length) Slot.unset).toArray = ls at hl ⊢
  have hl : lv_has ls 5 [(0, .ref pn), (1, .long v), (3, .int (nI nn))] := hl
  have z0_ := hts (.fieldLink RX8 15 "HeardSeen$Plan" "length" "I") (by decide +kernel)
  have zi8_ : ∀ w ∈ u_ws RX8 TX8 7, w ∈ wsX8_append := by decide +kernel
  have z2_ := hts (.fieldLink RX8 9 "HeardSeen$Plan" "bytes" "[B") (by decide +kernel)
  refine lv_iload_n hx hb dX8_append_0 rfl (lv_at hl 2 rfl) ?_
  refine lv_sipush (v := 250) hx hb dX8_append_1 (by decide) ?_
  refine lv_aload_n hx hb dX8_append_4 rfl (lv_at hl 0 rfl) ?_
  refine va_get (D := D) (ci := 8) (v := .int (nI ln)) (C := RX8) (T := TX8) (N := 7) hx hb hts zi8_ hown hK hP 0 rfl rfl 1 (by decide) z0_ (fun _ h9 => h9) rfl dX8_append_5 ?_
  refine lv_isub hx hb dX8_append_8 ?_
  refine lv_topi (fun x1 ex1 => ?_)
  obtain rfl : x1 = nI (250 - ln) := by rw [ex1]; exact pk_sub (by omega)
  refine lv_icmp_le (tgt := 14) hx hb dX8_append_9 (by decide) (fun c2 => ?_) (fun c2 => ?_)
  · skip
    refine lv_iload_n hx hb dX8_append_14 rfl (lv_at hl 2 rfl) ?_
    refine lv_iconst (v := 1) hx hb dX8_append_15 (by decide) ?_
    refine lv_isub hx hb dX8_append_16 ?_
    refine lv_topi (fun x3 ex3 => ?_)
    obtain rfl : x3 = nI (nn - 1) := by rw [ex3]; exact pk_sub (by omega)
    refine lv_istore (lv' := [(4, .int (nI (nn - 1))), (0, .ref pn), (1, .long v), (3, .int (nI nn))]) hx hb dX8_append_17 hl (by decide) rfl (fun ls hl => ?_)
    have lp19 : ∀ (n19 : Nat) (r : Nat) (x : Int32) (t0 : Nat) (f : Nat → Int32), t0 + r = ln + nn → x.toInt = (r : Int) - 1 → r < n19 → ∀ (H : Heap) (locs : List Loc), va_P D vwCl [(pn, .inr (8, [.ref b, .int (nI t0), .int nx, .int so, .int sta, .int va, .int fa])), (b, .inl (cy 0, 250, .inl f))] H → va_D A [(pn, .inr (8, [.ref b, .int (nI t0), .int nx, .int so, .int sta, .int va, .int fa])), (b, .inl (cy 0, 250, .inl f))] → va_S A s.heap H locs → ∀ ls : Array Slot, lv_has ls 5 [(0, .ref pn), (1, .long v), (3, .int (nI nn)), (4, .int x)] → W p l e (headSpec wsX8_append ({ frames := 0, cells := 0, slots := 0, locals := 0 })).room s m [.ref pn, .long v, .int (nI nn)].toArray below meth c H locs 0 0 (MQ below (va_Qi (fun (r : Int32) (u : Nat × (Nat → Int32)) => (r = 1 ∧ u.1 = ln + nn ∧ ln + nn ≤ 250) ∨ (r = 0 ∧ u.1 = ln ∧ ¬ ln + nn ≤ 250)) (fun (u : Nat × (Nat → Int32)) t => va_P D vwCl ([(pn, .inr (8, [.ref b, .int (nI u.1), .int nx, .int so, .int sta, .int va, .int fa])), (b, .inl (cy 0, 250, .inl u.2))]) t.heap ∧ va_D A ([(pn, .inr (8, [.ref b, .int (nI u.1), .int nx, .int so, .int sta, .int va, .int fa])), (b, .inl (cy 0, 250, .inl u.2))])) A) [.ref pn, .long v, .int (nI nn)].toArray s 0 0 A) (F0 m 19 ls []) := by
      intro n19
      induction n19 with
      | zero => intro r x t0 f hrr hx4 hm; exact absurd hm (Nat.not_lt_zero _)
      | succ n19 ih19 =>
        intro r x t0 f hrr hx4 hm19 H locs hP hD hS ls hl
        refine lv_iload hx hb dX8_append_19 (lv_at hl 3 rfl) ?_
        refine lv_if_lt (tgt := 74) hx hb dX8_append_21 (by decide) (fun c4 => ?_) (fun c4 => ?_)
        · skip
          refine lv_iconst (v := 1) hx hb dX8_append_74 (by decide) ?_
          have hP9 := hP.sub (ws' := [(pn, .inr (8, [.ref b, .int (nI t0), .int nx, .int so, .int sta, .int va, .int fa])), (b, .inl (cy 0, 250, .inl f))]) [0, 1] rfl
          have hD9 := hD.sub (ws' := [(pn, .inr (8, [.ref b, .int (nI t0), .int nx, .int so, .int sta, .int va, .int fa])), (b, .inl (cy 0, 250, .inl f))]) [0, 1] (by decide) rfl
          exact W.zret (v := 1) hx hb hr rfl (fun t ht hW => ⟨⟨1, (t0, f), rfl, (Or.inl ⟨rfl, (by have q : x.toInt < 0 := (z_lt _ _).mp (by assumption); dsimp only; omega), (by have q := (nI_leI (by omega) (by omega)).mp (by assumption : nI nn ≤ nI (250 - ln)); omega)⟩), by rw [ht]; exact hP9, hD9⟩, hS.F ht⟩) hS.2.2 dX8_append_75
        · skip
          refine lv_aload_n hx hb dX8_append_24 rfl (lv_at hl 0 rfl) ?_
          refine va_get (D := D) (ci := 8) (v := .int (nI t0)) (C := RX8) (T := TX8) (N := 7) hx hb hts zi8_ hown hK hP 0 rfl rfl 1 (by decide) z0_ (fun _ h9 => h9) rfl dX8_append_25 ?_
          refine lv_if_lt (tgt := 68) hx hb dX8_append_28 (by decide) (fun c5 => absurd c5 (nI_pos (by omega))) (fun c5 => ?_)
          refine lv_aload_n hx hb dX8_append_31 rfl (lv_at hl 0 rfl) ?_
          refine va_get (D := D) (ci := 8) (v := .int (nI t0)) (C := RX8) (T := TX8) (N := 7) hx hb hts zi8_ hown hK hP 0 rfl rfl 1 (by decide) z0_ (fun _ h9 => h9) rfl dX8_append_32 ?_
          refine lv_aload_n hx hb dX8_append_35 rfl (lv_at hl 0 rfl) ?_
          refine va_get (D := D) (ci := 8) (v := .ref b) (C := RX8) (T := TX8) (N := 7) hx hb hts zi8_ hown hK hP 0 rfl rfl 0 (by decide) z2_ (fun _ h9 => h9) rfl dX8_append_36 ?_
          refine va_alen hx hb hK hP 1 0 rfl rfl (v := 250) rfl dX8_append_39 ?_
          refine lv_icmp_ge (tgt := 68) hx hb dX8_append_40 (by decide) (fun c6 => absurd c6 (by have q := (nI_leI (by omega) (by omega)).mp (by assumption : nI nn ≤ nI (250 - ln)); have q2 := (z_dec hx4 (by assumption)).1; exact nI_ge (a := t0) (b := 250) (by omega) (by decide))) (fun c6 => ?_)
          refine lv_aload_n hx hb dX8_append_43 rfl (lv_at hl 0 rfl) ?_
          refine va_get (D := D) (ci := 8) (v := .ref b) (C := RX8) (T := TX8) (N := 7) hx hb hts zi8_ hown hK hP 0 rfl rfl 0 (by decide) z2_ (fun _ h9 => h9) rfl dX8_append_44 ?_
          refine lv_aload_n hx hb dX8_append_47 rfl (lv_at hl 0 rfl) ?_
          refine lv_dup hx hb dX8_append_48 rfl ?_
          refine va_get (D := D) (ci := 8) (v := .int (nI t0)) (C := RX8) (T := TX8) (N := 7) hx hb hts zi8_ hown hK hP 0 rfl rfl 1 (by decide) z0_ (fun _ h9 => h9) rfl dX8_append_49 ?_
          refine lv_dup_x1 hx hb dX8_append_52 rfl rfl ?_
          refine lv_iconst (v := 1) hx hb dX8_append_53 (by decide) ?_
          refine lv_iadd hx hb dX8_append_54 ?_
          refine lv_topi (fun x7 ex7 => ?_)
          obtain rfl : x7 = nI (t0 + 1) := by rw [ex7]; exact nI_add _ _
          refine va_put (D := D) (ci := 8) (v := .int (nI (t0 + 1))) (ty := .int) (C := RX8) (T := TX8) (N := 7) hx hb hts zi8_ tyX8 tyX8_ok nmX8 hown hK hP hD hS 0 rfl rfl 1 (by decide) z0_ (fun _ h9 => h9) rfl (by decide +kernel) rfl rfl (Nat.le_of_ble_eq_true rfl) dX8_append_55 (fun H locs hP hD hS => ?_)
          have hP : va_P D vwCl [(pn, .inr (8, [.ref b, .int (nI (t0 + 1)), .int nx, .int so, .int sta, .int va, .int fa])), (b, .inl (cy 0, 250, .inl f))] H := hP
          have hD : va_D A [(pn, .inr (8, [.ref b, .int (nI (t0 + 1)), .int nx, .int so, .int sta, .int va, .int fa])), (b, .inl (cy 0, 250, .inl f))] := hD
          refine lv_lload_n hx hb dX8_append_58 rfl (lv_at hl 1 rfl) ?_
          refine lv_bipush (v := 8) hx hb dX8_append_59 (by decide) ?_
          refine lv_iload hx hb dX8_append_61 (lv_at hl 3 rfl) ?_
          refine lv_imul hx hb dX8_append_63 ?_
          refine lv_lshr hx hb dX8_append_64 rfl ?_
          refine lv_l2i hx hb dX8_append_65 rfl ?_
          refine lv_i2b hx hb dX8_append_66 rfl ?_
          refine lv_topi (fun x8 ex8 => ?_)
          refine my_bast hx hb hK hP hD hS 1 0 rfl rfl (vp_in_nI (by have q := (nI_leI (by omega) (by omega)).mp (by assumption : nI nn ≤ nI (250 - ln)); have q2 := (z_dec hx4 (by assumption)).1; omega) (by decide)) (nI_clamp (by omega)) dX8_append_67 (fun H locs hP hD hS => ?_)
          have hP : va_P D vwCl [(pn, .inr (8, [.ref b, .int (nI (t0 + 1)), .int nx, .int so, .int sta, .int va, .int fa])), (b, .inl (cy 0, 250, .inl (upd f t0 (vp_nar .byte x8))))] H := hP
          have hD : va_D A [(pn, .inr (8, [.ref b, .int (nI (t0 + 1)), .int nx, .int so, .int sta, .int va, .int fa])), (b, .inl (cy 0, 250, .inl (upd f t0 (vp_nar .byte x8))))] := hD
          obtain ⟨x9, ex9⟩ : ∃ y : Int32, y = x + (-1) := ⟨_, rfl⟩
          refine lv_iinc (v := x9) (lv' := [(4, .int x9), (0, .ref pn), (1, .long v), (3, .int (nI nn))]) hx hb dX8_append_68 hl (k := 3) rfl (by rw [ex9]; rfl) (by decide) rfl (fun ls hl => ?_)
          refine lv_goto (tgt := 19) hx hb dX8_append_71 (by decide) ?_
          exact ih19 (r - 1) x9 (t0 + 1) (upd f t0 (vp_nar .byte x8)) (by have := (z_dec hx4 (by assumption)).1; omega) (by rw [ex9]; exact (z_dec hx4 (by assumption)).2) (by have := (z_dec hx4 (by assumption)).1; omega) _ _ (hP.sub (ws' := [(pn, .inr (8, [.ref b, .int (nI (t0 + 1)), .int nx, .int so, .int sta, .int va, .int fa])), (b, .inl (cy 0, 250, .inl (upd f t0 (vp_nar .byte x8))))]) [0, 1] rfl) (hD.sub (ws' := [(pn, .inr (8, [.ref b, .int (nI (t0 + 1)), .int nx, .int so, .int sta, .int va, .int fa])), (b, .inl (cy 0, 250, .inl (upd f t0 (vp_nar .byte x8))))]) [0, 1] (by decide) rfl) hS ls (lv_sub hl [1, 2, 3, 0] rfl)
    exact lp19 (nn + 1) nn (nI (nn - 1)) ln f (by omega) (by rw [nI_toInt (by omega)]; omega) (Nat.lt_succ_self _) _ _ (hP.sub (ws' := [(pn, .inr (8, [.ref b, .int (nI ln), .int nx, .int so, .int sta, .int va, .int fa])), (b, .inl (cy 0, 250, .inl f))]) [0, 1] rfl) (hD.sub (ws' := [(pn, .inr (8, [.ref b, .int (nI ln), .int nx, .int so, .int sta, .int va, .int fa])), (b, .inl (cy 0, 250, .inl f))]) [0, 1] (by decide) rfl) hS ls (lv_sub hl [1, 2, 3, 0] rfl)
  · skip
    refine lv_iconst (v := 0) hx hb dX8_append_12 (by decide) ?_
    have hP9 := hP.sub (ws' := [(pn, .inr (8, [.ref b, .int (nI ln), .int nx, .int so, .int sta, .int va, .int fa])), (b, .inl (cy 0, 250, .inl f))]) [0, 1] rfl
    have hD9 := hD.sub (ws' := [(pn, .inr (8, [.ref b, .int (nI ln), .int nx, .int so, .int sta, .int va, .int fa])), (b, .inl (cy 0, 250, .inl f))]) [0, 1] (by decide) rfl
    exact W.zret (v := 0) hx hb hr rfl (fun t ht hW => ⟨⟨0, (ln, f), rfl, (Or.inr ⟨rfl, rfl, fun q => absurd ((nI_leI (by omega) (by omega)).mpr (by omega)) (by assumption : ¬ nI nn ≤ nI (250 - ln))⟩), by rw [ht]; exact hP9, hD9⟩, hS.F ht⟩) hS.2.2 dX8_append_13
set_option maxHeartbeats 4000000 in
set_option maxRecDepth 100000 in
theorem c_X3_init (l : Launch) (D : va_G) (cy : Nat → ClassId) (g : Nat) (sz : Nat)  : Met l yX3_init wsX3_init ({ frames := 1, cells := 7, slots := 43, locals := 12 }) (va_Pc [.ref g] (kPre D cy [(g, .inr (3, [.int 0, .int 0, .int 0, .int 0, .long 0, .long 0, .int 0, .int 0, .int 0, .null, .null, .null, .null, .null, .null, .null]))] sz)) (va_Qv (fun (_ : Nat × Nat × Nat × Nat × Nat × Nat × Nat) => True) (fun (u : Nat × Nat × Nat × Nat × Nat × Nat × Nat) t => va_P D vwCl ([(g, .inr (3, [.int 6, .int 6, .int 1, .int 0, .long 0, .long 0, .int 0, .int 0, .int 0, .ref u.1, .ref u.2.1, .ref u.2.2.1, .ref u.2.2.2.1, .ref u.2.2.2.2.1, .ref u.2.2.2.2.2.1, .ref u.2.2.2.2.2.2])), (u.1, .inl (cy 1, 5, .inl (fun _ => 0))), (u.2.1, .inl (cy 1, 5, .inl (fun _ => 0))), (u.2.2.1, .inl (cy 1, 5, .inl (fun _ => 0))), (u.2.2.2.1, .inl (cy 1, 6, .inl (fun _ => 0))), (u.2.2.2.2.1, .inl (cy 1, 6, .inl (fun _ => 0))), (u.2.2.2.2.2.1, .inl (cy 1, 8, .inl (fun _ => 0))), (u.2.2.2.2.2.2, .inl (cy 1, 8, .inl (fun _ => 0)))]) t.heap ∧ va_D (va_A [(g, .inr (3, [.int 0, .int 0, .int 0, .int 0, .long 0, .long 0, .int 0, .int 0, .int 0, .null, .null, .null, .null, .null, .null, .null]))] sz) ([(g, .inr (3, [.int 6, .int 6, .int 1, .int 0, .long 0, .long 0, .int 0, .int 0, .int 0, .ref u.1, .ref u.2.1, .ref u.2.2.1, .ref u.2.2.2.1, .ref u.2.2.2.2.1, .ref u.2.2.2.2.2.1, .ref u.2.2.2.2.2.2])), (u.1, .inl (cy 1, 5, .inl (fun _ => 0))), (u.2.1, .inl (cy 1, 5, .inl (fun _ => 0))), (u.2.2.1, .inl (cy 1, 5, .inl (fun _ => 0))), (u.2.2.2.1, .inl (cy 1, 6, .inl (fun _ => 0))), (u.2.2.2.2.1, .inl (cy 1, 6, .inl (fun _ => 0))), (u.2.2.2.2.2.1, .inl (cy 1, 8, .inl (fun _ => 0))), (u.2.2.2.2.2.2, .inl (cy 1, 8, .inl (fun _ => 0)))])) (va_A [(g, .inr (3, [.int 0, .int 0, .int 0, .int 0, .long 0, .long 0, .int 0, .int 0, .int 0, .null, .null, .null, .null, .null, .null, .null]))] sz)) 7 43 (va_A [(g, .inr (3, [.int 0, .int 0, .int 0, .int 0, .long 0, .long 0, .int 0, .int 0, .int 0, .null, .null, .null, .null, .null, .null, .null]))] sz) := by
  refine Met.ofW (cc := cX3_init) (maxL := 1) (ret := none) (by decide) rfl ?_
  intro p e s m args below meth c s₁ B hml hv
  obtain ⟨rfl, hsz, hP, hKA, hD0⟩ := hv
  have hx := B.exec
  have hb := B.bytes
  have hr := B.returns
  have hts := atoms_spec (ws := wsX3_init) B.pre
  have hown : s.vm.findClass RX3 = some m.cls := findClass_of_methodNamed B.named
  have hlocks := B.notSynchronized
  have hin : meth.name = "<init>" := (name_of_methodNamed B.named B.method).1
  subst hsz
  have hK := hKA.1
  have hD := hD0.self (sz := s.heap.size)
  generalize hAe : va_A [(g, .inr (3, [.int 0, .int 0, .int 0, .int 0, .long 0, .long 0, .int 0, .int 0, .int 0, .null, .null, .null, .null, .null, .null, .null]))] s.heap.size = A at hD ⊢
  have hA : ∀ q : Nat, s.heap.size ≤ q → A q := fun q h => by rw [← hAe]; exact Or.inr h
  have hS : va_S A s.heap s.heap [] := va_S.rf
  have hP : va_P D vwCl [(g, .inr (3, [.int 0, .int 0, .int 0, .int 0, .long 0, .long 0, .int 0, .int 0, .int 0, .null, .null, .null, .null, .null, .null, .null]))] s.heap := hP
  have hl := lv_entry ([.ref g]) (n := 1) (Nat.le_of_ble_eq_true rfl)
  rw [lg_entry_eq]
  generalize (lg_sl ([.ref g]) ++ List.replicate (1 - (lg_sl ([.ref g])).length) Slot.unset).toArray = ls at hl ⊢
  have hl : lv_has ls 1 [(0, .ref g)] := hl
  have z0_ := hts (.methodLink RX3 3 objectInit) (by decide +kernel)
  have z1_ := hts (.instanceMethod objectInit) (by decide +kernel)
  have z2_ := hts (.code objectInit ⟨#[0xb1]⟩ 1 none) (by decide +kernel)
  have z3_ := hts (.arrayClass .int) (by decide +kernel)
  have z4_ := hts (.fieldLink RX3 9 "HeardSeen$Garden" "kinds" "[I") (by decide +kernel)
  have zi3_ : ∀ w ∈ u_ws RX3 TX3 16, w ∈ wsX3_init := by decide +kernel
  have z6_ := hts (.fieldLink RX3 15 "HeardSeen$Garden" "squares" "[I") (by decide +kernel)
  have z7_ := hts (.fieldLink RX3 18 "HeardSeen$Garden" "voices" "[I") (by decide +kernel)
  have z8_ := hts (.fieldLink RX3 21 "HeardSeen$Garden" "tellers" "[I") (by decide +kernel)
  have z9_ := hts (.fieldLink RX3 24 "HeardSeen$Garden" "listeners" "[I") (by decide +kernel)
  have z10_ := hts (.fieldLink RX3 27 "HeardSeen$Garden" "witnesses" "[I") (by decide +kernel)
  have z11_ := hts (.fieldLink RX3 30 "HeardSeen$Garden" "claims" "[I") (by decide +kernel)
  have z12_ := hts (.fieldLink RX3 33 "HeardSeen$Garden" "wide" "I") (by decide +kernel)
  have z13_ := hts (.fieldLink RX3 37 "HeardSeen$Garden" "high" "I") (by decide +kernel)
  have z14_ := hts (.fieldLink RX3 40 "HeardSeen$Garden" "drown" "I") (by decide +kernel)
  refine lv_aload_n hx hb dX3_init_0 rfl (lv_at hl 0 rfl) ?_
  refine W.objInit hx hb hown z0_ z1_ z2_ rfl (by rw [hml]; exact hl.1) rfl dX3_init_1 (Nat.le_of_ble_eq_true rfl) (Nat.le_of_ble_eq_true rfl) ?_
  refine W.eq (g2 := F0 m 4 ls []) rfl ?_
  refine lv_aload_n hx hb dX3_init_4 rfl (lv_at hl 0 rfl) ?_
  refine lv_iconst (v := 5) hx hb dX3_init_5 (by decide) ?_
  refine my_newa (atype := .int) (ty := .int) (N' := 5) (a0 := (5, .inl (fun _ => 0))) hx hb z3_ rfl hK hP hD hS hA 1 rfl (a0I 5) (by decide) (by decide +kernel) (by decide +kernel) (Nat.le_of_ble_eq_true rfl) (Nat.le_of_ble_eq_true rfl) dX3_init_6 (fun q1 H hP hD hS => ?_)
  have hP : va_P D vwCl [(g, .inr (3, [.int 0, .int 0, .int 0, .int 0, .long 0, .long 0, .int 0, .int 0, .int 0, .null, .null, .null, .null, .null, .null, .null])), (q1, .inl (cy 1, 5, .inl (fun _ => 0)))] H := hP
  have hD : va_D A [(g, .inr (3, [.int 0, .int 0, .int 0, .int 0, .long 0, .long 0, .int 0, .int 0, .int 0, .null, .null, .null, .null, .null, .null, .null])), (q1, .inl (cy 1, 5, .inl (fun _ => 0)))] := hD
  refine W.widen (k := 1) (n := 5) (Nat.le_of_ble_eq_true rfl) (Nat.le_of_ble_eq_true rfl) ?_
  refine va_putF (D := D) (ci := 3) (v := .ref q1) (ty := .array .int) (C := RX3) (T := TX3) (N := 16) hx hb hts zi3_ tyX3 tyX3_ok nmX3 hown hK hP hD hS 0 rfl rfl 9 (by decide) z4_ (fun _ h9 => h9) rfl hin rfl (by decide +kernel) rfl rfl (Nat.le_of_ble_eq_true rfl) dX3_init_8 (fun H locs hP hD hS => ?_)
  have hP : va_P D vwCl [(g, .inr (3, [.int 0, .int 0, .int 0, .int 0, .long 0, .long 0, .int 0, .int 0, .int 0, .ref q1, .null, .null, .null, .null, .null, .null])), (q1, .inl (cy 1, 5, .inl (fun _ => 0)))] H := hP
  have hD : va_D A [(g, .inr (3, [.int 0, .int 0, .int 0, .int 0, .long 0, .long 0, .int 0, .int 0, .int 0, .ref q1, .null, .null, .null, .null, .null, .null])), (q1, .inl (cy 1, 5, .inl (fun _ => 0)))] := hD
  refine lv_aload_n hx hb dX3_init_11 rfl (lv_at hl 0 rfl) ?_
  refine lv_iconst (v := 5) hx hb dX3_init_12 (by decide) ?_
  refine my_newa (atype := .int) (ty := .int) (N' := 5) (a0 := (5, .inl (fun _ => 0))) hx hb z3_ rfl hK hP hD hS hA 1 rfl (a0I 5) (by decide) (by decide +kernel) (by decide +kernel) (Nat.le_of_ble_eq_true rfl) (Nat.le_of_ble_eq_true rfl) dX3_init_13 (fun q2 H hP hD hS => ?_)
  have hP : va_P D vwCl [(g, .inr (3, [.int 0, .int 0, .int 0, .int 0, .long 0, .long 0, .int 0, .int 0, .int 0, .ref q1, .null, .null, .null, .null, .null, .null])), (q1, .inl (cy 1, 5, .inl (fun _ => 0))), (q2, .inl (cy 1, 5, .inl (fun _ => 0)))] H := hP
  have hD : va_D A [(g, .inr (3, [.int 0, .int 0, .int 0, .int 0, .long 0, .long 0, .int 0, .int 0, .int 0, .ref q1, .null, .null, .null, .null, .null, .null])), (q1, .inl (cy 1, 5, .inl (fun _ => 0))), (q2, .inl (cy 1, 5, .inl (fun _ => 0)))] := hD
  refine W.widen (k := 2) (n := 10) (Nat.le_of_ble_eq_true rfl) (Nat.le_of_ble_eq_true rfl) ?_
  refine va_putF (D := D) (ci := 3) (v := .ref q2) (ty := .array .int) (C := RX3) (T := TX3) (N := 16) hx hb hts zi3_ tyX3 tyX3_ok nmX3 hown hK hP hD hS 0 rfl rfl 10 (by decide) z6_ (fun _ h9 => h9) rfl hin rfl (by decide +kernel) rfl rfl (Nat.le_of_ble_eq_true rfl) dX3_init_15 (fun H locs hP hD hS => ?_)
  have hP : va_P D vwCl [(g, .inr (3, [.int 0, .int 0, .int 0, .int 0, .long 0, .long 0, .int 0, .int 0, .int 0, .ref q1, .ref q2, .null, .null, .null, .null, .null])), (q1, .inl (cy 1, 5, .inl (fun _ => 0))), (q2, .inl (cy 1, 5, .inl (fun _ => 0)))] H := hP
  have hD : va_D A [(g, .inr (3, [.int 0, .int 0, .int 0, .int 0, .long 0, .long 0, .int 0, .int 0, .int 0, .ref q1, .ref q2, .null, .null, .null, .null, .null])), (q1, .inl (cy 1, 5, .inl (fun _ => 0))), (q2, .inl (cy 1, 5, .inl (fun _ => 0)))] := hD
  refine lv_aload_n hx hb dX3_init_18 rfl (lv_at hl 0 rfl) ?_
  refine lv_iconst (v := 5) hx hb dX3_init_19 (by decide) ?_
  refine my_newa (atype := .int) (ty := .int) (N' := 5) (a0 := (5, .inl (fun _ => 0))) hx hb z3_ rfl hK hP hD hS hA 1 rfl (a0I 5) (by decide) (by decide +kernel) (by decide +kernel) (Nat.le_of_ble_eq_true rfl) (Nat.le_of_ble_eq_true rfl) dX3_init_20 (fun q3 H hP hD hS => ?_)
  have hP : va_P D vwCl [(g, .inr (3, [.int 0, .int 0, .int 0, .int 0, .long 0, .long 0, .int 0, .int 0, .int 0, .ref q1, .ref q2, .null, .null, .null, .null, .null])), (q1, .inl (cy 1, 5, .inl (fun _ => 0))), (q2, .inl (cy 1, 5, .inl (fun _ => 0))), (q3, .inl (cy 1, 5, .inl (fun _ => 0)))] H := hP
  have hD : va_D A [(g, .inr (3, [.int 0, .int 0, .int 0, .int 0, .long 0, .long 0, .int 0, .int 0, .int 0, .ref q1, .ref q2, .null, .null, .null, .null, .null])), (q1, .inl (cy 1, 5, .inl (fun _ => 0))), (q2, .inl (cy 1, 5, .inl (fun _ => 0))), (q3, .inl (cy 1, 5, .inl (fun _ => 0)))] := hD
  refine W.widen (k := 3) (n := 15) (Nat.le_of_ble_eq_true rfl) (Nat.le_of_ble_eq_true rfl) ?_
  refine va_putF (D := D) (ci := 3) (v := .ref q3) (ty := .array .int) (C := RX3) (T := TX3) (N := 16) hx hb hts zi3_ tyX3 tyX3_ok nmX3 hown hK hP hD hS 0 rfl rfl 11 (by decide) z7_ (fun _ h9 => h9) rfl hin rfl (by decide +kernel) rfl rfl (Nat.le_of_ble_eq_true rfl) dX3_init_22 (fun H locs hP hD hS => ?_)
  have hP : va_P D vwCl [(g, .inr (3, [.int 0, .int 0, .int 0, .int 0, .long 0, .long 0, .int 0, .int 0, .int 0, .ref q1, .ref q2, .ref q3, .null, .null, .null, .null])), (q1, .inl (cy 1, 5, .inl (fun _ => 0))), (q2, .inl (cy 1, 5, .inl (fun _ => 0))), (q3, .inl (cy 1, 5, .inl (fun _ => 0)))] H := hP
  have hD : va_D A [(g, .inr (3, [.int 0, .int 0, .int 0, .int 0, .long 0, .long 0, .int 0, .int 0, .int 0, .ref q1, .ref q2, .ref q3, .null, .null, .null, .null])), (q1, .inl (cy 1, 5, .inl (fun _ => 0))), (q2, .inl (cy 1, 5, .inl (fun _ => 0))), (q3, .inl (cy 1, 5, .inl (fun _ => 0)))] := hD
  refine lv_aload_n hx hb dX3_init_25 rfl (lv_at hl 0 rfl) ?_
  refine lv_bipush (v := 6) hx hb dX3_init_26 (by decide) ?_
  refine my_newa (atype := .int) (ty := .int) (N' := 6) (a0 := (6, .inl (fun _ => 0))) hx hb z3_ rfl hK hP hD hS hA 1 rfl (a0I 6) (by decide) (by decide +kernel) (by decide +kernel) (Nat.le_of_ble_eq_true rfl) (Nat.le_of_ble_eq_true rfl) dX3_init_28 (fun q4 H hP hD hS => ?_)
  have hP : va_P D vwCl [(g, .inr (3, [.int 0, .int 0, .int 0, .int 0, .long 0, .long 0, .int 0, .int 0, .int 0, .ref q1, .ref q2, .ref q3, .null, .null, .null, .null])), (q1, .inl (cy 1, 5, .inl (fun _ => 0))), (q2, .inl (cy 1, 5, .inl (fun _ => 0))), (q3, .inl (cy 1, 5, .inl (fun _ => 0))), (q4, .inl (cy 1, 6, .inl (fun _ => 0)))] H := hP
  have hD : va_D A [(g, .inr (3, [.int 0, .int 0, .int 0, .int 0, .long 0, .long 0, .int 0, .int 0, .int 0, .ref q1, .ref q2, .ref q3, .null, .null, .null, .null])), (q1, .inl (cy 1, 5, .inl (fun _ => 0))), (q2, .inl (cy 1, 5, .inl (fun _ => 0))), (q3, .inl (cy 1, 5, .inl (fun _ => 0))), (q4, .inl (cy 1, 6, .inl (fun _ => 0)))] := hD
  refine W.widen (k := 4) (n := 21) (Nat.le_of_ble_eq_true rfl) (Nat.le_of_ble_eq_true rfl) ?_
  refine va_putF (D := D) (ci := 3) (v := .ref q4) (ty := .array .int) (C := RX3) (T := TX3) (N := 16) hx hb hts zi3_ tyX3 tyX3_ok nmX3 hown hK hP hD hS 0 rfl rfl 12 (by decide) z8_ (fun _ h9 => h9) rfl hin rfl (by decide +kernel) rfl rfl (Nat.le_of_ble_eq_true rfl) dX3_init_30 (fun H locs hP hD hS => ?_)
  have hP : va_P D vwCl [(g, .inr (3, [.int 0, .int 0, .int 0, .int 0, .long 0, .long 0, .int 0, .int 0, .int 0, .ref q1, .ref q2, .ref q3, .ref q4, .null, .null, .null])), (q1, .inl (cy 1, 5, .inl (fun _ => 0))), (q2, .inl (cy 1, 5, .inl (fun _ => 0))), (q3, .inl (cy 1, 5, .inl (fun _ => 0))), (q4, .inl (cy 1, 6, .inl (fun _ => 0)))] H := hP
  have hD : va_D A [(g, .inr (3, [.int 0, .int 0, .int 0, .int 0, .long 0, .long 0, .int 0, .int 0, .int 0, .ref q1, .ref q2, .ref q3, .ref q4, .null, .null, .null])), (q1, .inl (cy 1, 5, .inl (fun _ => 0))), (q2, .inl (cy 1, 5, .inl (fun _ => 0))), (q3, .inl (cy 1, 5, .inl (fun _ => 0))), (q4, .inl (cy 1, 6, .inl (fun _ => 0)))] := hD
  refine lv_aload_n hx hb dX3_init_33 rfl (lv_at hl 0 rfl) ?_
  refine lv_bipush (v := 6) hx hb dX3_init_34 (by decide) ?_
  refine my_newa (atype := .int) (ty := .int) (N' := 6) (a0 := (6, .inl (fun _ => 0))) hx hb z3_ rfl hK hP hD hS hA 1 rfl (a0I 6) (by decide) (by decide +kernel) (by decide +kernel) (Nat.le_of_ble_eq_true rfl) (Nat.le_of_ble_eq_true rfl) dX3_init_36 (fun q5 H hP hD hS => ?_)
  have hP : va_P D vwCl [(g, .inr (3, [.int 0, .int 0, .int 0, .int 0, .long 0, .long 0, .int 0, .int 0, .int 0, .ref q1, .ref q2, .ref q3, .ref q4, .null, .null, .null])), (q1, .inl (cy 1, 5, .inl (fun _ => 0))), (q2, .inl (cy 1, 5, .inl (fun _ => 0))), (q3, .inl (cy 1, 5, .inl (fun _ => 0))), (q4, .inl (cy 1, 6, .inl (fun _ => 0))), (q5, .inl (cy 1, 6, .inl (fun _ => 0)))] H := hP
  have hD : va_D A [(g, .inr (3, [.int 0, .int 0, .int 0, .int 0, .long 0, .long 0, .int 0, .int 0, .int 0, .ref q1, .ref q2, .ref q3, .ref q4, .null, .null, .null])), (q1, .inl (cy 1, 5, .inl (fun _ => 0))), (q2, .inl (cy 1, 5, .inl (fun _ => 0))), (q3, .inl (cy 1, 5, .inl (fun _ => 0))), (q4, .inl (cy 1, 6, .inl (fun _ => 0))), (q5, .inl (cy 1, 6, .inl (fun _ => 0)))] := hD
  refine W.widen (k := 5) (n := 27) (Nat.le_of_ble_eq_true rfl) (Nat.le_of_ble_eq_true rfl) ?_
  refine va_putF (D := D) (ci := 3) (v := .ref q5) (ty := .array .int) (C := RX3) (T := TX3) (N := 16) hx hb hts zi3_ tyX3 tyX3_ok nmX3 hown hK hP hD hS 0 rfl rfl 13 (by decide) z9_ (fun _ h9 => h9) rfl hin rfl (by decide +kernel) rfl rfl (Nat.le_of_ble_eq_true rfl) dX3_init_38 (fun H locs hP hD hS => ?_)
  have hP : va_P D vwCl [(g, .inr (3, [.int 0, .int 0, .int 0, .int 0, .long 0, .long 0, .int 0, .int 0, .int 0, .ref q1, .ref q2, .ref q3, .ref q4, .ref q5, .null, .null])), (q1, .inl (cy 1, 5, .inl (fun _ => 0))), (q2, .inl (cy 1, 5, .inl (fun _ => 0))), (q3, .inl (cy 1, 5, .inl (fun _ => 0))), (q4, .inl (cy 1, 6, .inl (fun _ => 0))), (q5, .inl (cy 1, 6, .inl (fun _ => 0)))] H := hP
  have hD : va_D A [(g, .inr (3, [.int 0, .int 0, .int 0, .int 0, .long 0, .long 0, .int 0, .int 0, .int 0, .ref q1, .ref q2, .ref q3, .ref q4, .ref q5, .null, .null])), (q1, .inl (cy 1, 5, .inl (fun _ => 0))), (q2, .inl (cy 1, 5, .inl (fun _ => 0))), (q3, .inl (cy 1, 5, .inl (fun _ => 0))), (q4, .inl (cy 1, 6, .inl (fun _ => 0))), (q5, .inl (cy 1, 6, .inl (fun _ => 0)))] := hD
  refine lv_aload_n hx hb dX3_init_41 rfl (lv_at hl 0 rfl) ?_
  refine lv_bipush (v := 8) hx hb dX3_init_42 (by decide) ?_
  refine my_newa (atype := .int) (ty := .int) (N' := 8) (a0 := (8, .inl (fun _ => 0))) hx hb z3_ rfl hK hP hD hS hA 1 rfl (a0I 8) (by decide) (by decide +kernel) (by decide +kernel) (Nat.le_of_ble_eq_true rfl) (Nat.le_of_ble_eq_true rfl) dX3_init_44 (fun q6 H hP hD hS => ?_)
  have hP : va_P D vwCl [(g, .inr (3, [.int 0, .int 0, .int 0, .int 0, .long 0, .long 0, .int 0, .int 0, .int 0, .ref q1, .ref q2, .ref q3, .ref q4, .ref q5, .null, .null])), (q1, .inl (cy 1, 5, .inl (fun _ => 0))), (q2, .inl (cy 1, 5, .inl (fun _ => 0))), (q3, .inl (cy 1, 5, .inl (fun _ => 0))), (q4, .inl (cy 1, 6, .inl (fun _ => 0))), (q5, .inl (cy 1, 6, .inl (fun _ => 0))), (q6, .inl (cy 1, 8, .inl (fun _ => 0)))] H := hP
  have hD : va_D A [(g, .inr (3, [.int 0, .int 0, .int 0, .int 0, .long 0, .long 0, .int 0, .int 0, .int 0, .ref q1, .ref q2, .ref q3, .ref q4, .ref q5, .null, .null])), (q1, .inl (cy 1, 5, .inl (fun _ => 0))), (q2, .inl (cy 1, 5, .inl (fun _ => 0))), (q3, .inl (cy 1, 5, .inl (fun _ => 0))), (q4, .inl (cy 1, 6, .inl (fun _ => 0))), (q5, .inl (cy 1, 6, .inl (fun _ => 0))), (q6, .inl (cy 1, 8, .inl (fun _ => 0)))] := hD
  refine W.widen (k := 6) (n := 35) (Nat.le_of_ble_eq_true rfl) (Nat.le_of_ble_eq_true rfl) ?_
  refine va_putF (D := D) (ci := 3) (v := .ref q6) (ty := .array .int) (C := RX3) (T := TX3) (N := 16) hx hb hts zi3_ tyX3 tyX3_ok nmX3 hown hK hP hD hS 0 rfl rfl 14 (by decide) z10_ (fun _ h9 => h9) rfl hin rfl (by decide +kernel) rfl rfl (Nat.le_of_ble_eq_true rfl) dX3_init_46 (fun H locs hP hD hS => ?_)
  have hP : va_P D vwCl [(g, .inr (3, [.int 0, .int 0, .int 0, .int 0, .long 0, .long 0, .int 0, .int 0, .int 0, .ref q1, .ref q2, .ref q3, .ref q4, .ref q5, .ref q6, .null])), (q1, .inl (cy 1, 5, .inl (fun _ => 0))), (q2, .inl (cy 1, 5, .inl (fun _ => 0))), (q3, .inl (cy 1, 5, .inl (fun _ => 0))), (q4, .inl (cy 1, 6, .inl (fun _ => 0))), (q5, .inl (cy 1, 6, .inl (fun _ => 0))), (q6, .inl (cy 1, 8, .inl (fun _ => 0)))] H := hP
  have hD : va_D A [(g, .inr (3, [.int 0, .int 0, .int 0, .int 0, .long 0, .long 0, .int 0, .int 0, .int 0, .ref q1, .ref q2, .ref q3, .ref q4, .ref q5, .ref q6, .null])), (q1, .inl (cy 1, 5, .inl (fun _ => 0))), (q2, .inl (cy 1, 5, .inl (fun _ => 0))), (q3, .inl (cy 1, 5, .inl (fun _ => 0))), (q4, .inl (cy 1, 6, .inl (fun _ => 0))), (q5, .inl (cy 1, 6, .inl (fun _ => 0))), (q6, .inl (cy 1, 8, .inl (fun _ => 0)))] := hD
  refine lv_aload_n hx hb dX3_init_49 rfl (lv_at hl 0 rfl) ?_
  refine lv_bipush (v := 8) hx hb dX3_init_50 (by decide) ?_
  refine my_newa (atype := .int) (ty := .int) (N' := 8) (a0 := (8, .inl (fun _ => 0))) hx hb z3_ rfl hK hP hD hS hA 1 rfl (a0I 8) (by decide) (by decide +kernel) (by decide +kernel) (Nat.le_of_ble_eq_true rfl) (Nat.le_of_ble_eq_true rfl) dX3_init_52 (fun q7 H hP hD hS => ?_)
  have hP : va_P D vwCl [(g, .inr (3, [.int 0, .int 0, .int 0, .int 0, .long 0, .long 0, .int 0, .int 0, .int 0, .ref q1, .ref q2, .ref q3, .ref q4, .ref q5, .ref q6, .null])), (q1, .inl (cy 1, 5, .inl (fun _ => 0))), (q2, .inl (cy 1, 5, .inl (fun _ => 0))), (q3, .inl (cy 1, 5, .inl (fun _ => 0))), (q4, .inl (cy 1, 6, .inl (fun _ => 0))), (q5, .inl (cy 1, 6, .inl (fun _ => 0))), (q6, .inl (cy 1, 8, .inl (fun _ => 0))), (q7, .inl (cy 1, 8, .inl (fun _ => 0)))] H := hP
  have hD : va_D A [(g, .inr (3, [.int 0, .int 0, .int 0, .int 0, .long 0, .long 0, .int 0, .int 0, .int 0, .ref q1, .ref q2, .ref q3, .ref q4, .ref q5, .ref q6, .null])), (q1, .inl (cy 1, 5, .inl (fun _ => 0))), (q2, .inl (cy 1, 5, .inl (fun _ => 0))), (q3, .inl (cy 1, 5, .inl (fun _ => 0))), (q4, .inl (cy 1, 6, .inl (fun _ => 0))), (q5, .inl (cy 1, 6, .inl (fun _ => 0))), (q6, .inl (cy 1, 8, .inl (fun _ => 0))), (q7, .inl (cy 1, 8, .inl (fun _ => 0)))] := hD
  refine W.widen (k := 7) (n := 43) (Nat.le_of_ble_eq_true rfl) (Nat.le_of_ble_eq_true rfl) ?_
  refine va_putF (D := D) (ci := 3) (v := .ref q7) (ty := .array .int) (C := RX3) (T := TX3) (N := 16) hx hb hts zi3_ tyX3 tyX3_ok nmX3 hown hK hP hD hS 0 rfl rfl 15 (by decide) z11_ (fun _ h9 => h9) rfl hin rfl (by decide +kernel) rfl rfl (Nat.le_of_ble_eq_true rfl) dX3_init_54 (fun H locs hP hD hS => ?_)
  have hP : va_P D vwCl [(g, .inr (3, [.int 0, .int 0, .int 0, .int 0, .long 0, .long 0, .int 0, .int 0, .int 0, .ref q1, .ref q2, .ref q3, .ref q4, .ref q5, .ref q6, .ref q7])), (q1, .inl (cy 1, 5, .inl (fun _ => 0))), (q2, .inl (cy 1, 5, .inl (fun _ => 0))), (q3, .inl (cy 1, 5, .inl (fun _ => 0))), (q4, .inl (cy 1, 6, .inl (fun _ => 0))), (q5, .inl (cy 1, 6, .inl (fun _ => 0))), (q6, .inl (cy 1, 8, .inl (fun _ => 0))), (q7, .inl (cy 1, 8, .inl (fun _ => 0)))] H := hP
  have hD : va_D A [(g, .inr (3, [.int 0, .int 0, .int 0, .int 0, .long 0, .long 0, .int 0, .int 0, .int 0, .ref q1, .ref q2, .ref q3, .ref q4, .ref q5, .ref q6, .ref q7])), (q1, .inl (cy 1, 5, .inl (fun _ => 0))), (q2, .inl (cy 1, 5, .inl (fun _ => 0))), (q3, .inl (cy 1, 5, .inl (fun _ => 0))), (q4, .inl (cy 1, 6, .inl (fun _ => 0))), (q5, .inl (cy 1, 6, .inl (fun _ => 0))), (q6, .inl (cy 1, 8, .inl (fun _ => 0))), (q7, .inl (cy 1, 8, .inl (fun _ => 0)))] := hD
  refine lv_aload_n hx hb dX3_init_57 rfl (lv_at hl 0 rfl) ?_
  refine lv_bipush (v := 6) hx hb dX3_init_58 (by decide) ?_
  refine va_put (D := D) (ci := 3) (v := .int 6) (ty := .int) (C := RX3) (T := TX3) (N := 16) hx hb hts zi3_ tyX3 tyX3_ok nmX3 hown hK hP hD hS 0 rfl rfl 0 (by decide) z12_ (fun _ h9 => h9) rfl (by decide +kernel) rfl rfl (Nat.le_of_ble_eq_true rfl) dX3_init_60 (fun H locs hP hD hS => ?_)
  have hP : va_P D vwCl [(g, .inr (3, [.int 6, .int 0, .int 0, .int 0, .long 0, .long 0, .int 0, .int 0, .int 0, .ref q1, .ref q2, .ref q3, .ref q4, .ref q5, .ref q6, .ref q7])), (q1, .inl (cy 1, 5, .inl (fun _ => 0))), (q2, .inl (cy 1, 5, .inl (fun _ => 0))), (q3, .inl (cy 1, 5, .inl (fun _ => 0))), (q4, .inl (cy 1, 6, .inl (fun _ => 0))), (q5, .inl (cy 1, 6, .inl (fun _ => 0))), (q6, .inl (cy 1, 8, .inl (fun _ => 0))), (q7, .inl (cy 1, 8, .inl (fun _ => 0)))] H := hP
  have hD : va_D A [(g, .inr (3, [.int 6, .int 0, .int 0, .int 0, .long 0, .long 0, .int 0, .int 0, .int 0, .ref q1, .ref q2, .ref q3, .ref q4, .ref q5, .ref q6, .ref q7])), (q1, .inl (cy 1, 5, .inl (fun _ => 0))), (q2, .inl (cy 1, 5, .inl (fun _ => 0))), (q3, .inl (cy 1, 5, .inl (fun _ => 0))), (q4, .inl (cy 1, 6, .inl (fun _ => 0))), (q5, .inl (cy 1, 6, .inl (fun _ => 0))), (q6, .inl (cy 1, 8, .inl (fun _ => 0))), (q7, .inl (cy 1, 8, .inl (fun _ => 0)))] := hD
  refine lv_aload_n hx hb dX3_init_63 rfl (lv_at hl 0 rfl) ?_
  refine lv_bipush (v := 6) hx hb dX3_init_64 (by decide) ?_
  refine va_put (D := D) (ci := 3) (v := .int 6) (ty := .int) (C := RX3) (T := TX3) (N := 16) hx hb hts zi3_ tyX3 tyX3_ok nmX3 hown hK hP hD hS 0 rfl rfl 1 (by decide) z13_ (fun _ h9 => h9) rfl (by decide +kernel) rfl rfl (Nat.le_of_ble_eq_true rfl) dX3_init_66 (fun H locs hP hD hS => ?_)
  have hP : va_P D vwCl [(g, .inr (3, [.int 6, .int 6, .int 0, .int 0, .long 0, .long 0, .int 0, .int 0, .int 0, .ref q1, .ref q2, .ref q3, .ref q4, .ref q5, .ref q6, .ref q7])), (q1, .inl (cy 1, 5, .inl (fun _ => 0))), (q2, .inl (cy 1, 5, .inl (fun _ => 0))), (q3, .inl (cy 1, 5, .inl (fun _ => 0))), (q4, .inl (cy 1, 6, .inl (fun _ => 0))), (q5, .inl (cy 1, 6, .inl (fun _ => 0))), (q6, .inl (cy 1, 8, .inl (fun _ => 0))), (q7, .inl (cy 1, 8, .inl (fun _ => 0)))] H := hP
  have hD : va_D A [(g, .inr (3, [.int 6, .int 6, .int 0, .int 0, .long 0, .long 0, .int 0, .int 0, .int 0, .ref q1, .ref q2, .ref q3, .ref q4, .ref q5, .ref q6, .ref q7])), (q1, .inl (cy 1, 5, .inl (fun _ => 0))), (q2, .inl (cy 1, 5, .inl (fun _ => 0))), (q3, .inl (cy 1, 5, .inl (fun _ => 0))), (q4, .inl (cy 1, 6, .inl (fun _ => 0))), (q5, .inl (cy 1, 6, .inl (fun _ => 0))), (q6, .inl (cy 1, 8, .inl (fun _ => 0))), (q7, .inl (cy 1, 8, .inl (fun _ => 0)))] := hD
  refine lv_aload_n hx hb dX3_init_69 rfl (lv_at hl 0 rfl) ?_
  refine lv_iconst (v := 1) hx hb dX3_init_70 (by decide) ?_
  refine va_put (D := D) (ci := 3) (v := .int 1) (ty := .int) (C := RX3) (T := TX3) (N := 16) hx hb hts zi3_ tyX3 tyX3_ok nmX3 hown hK hP hD hS 0 rfl rfl 2 (by decide) z14_ (fun _ h9 => h9) rfl (by decide +kernel) rfl rfl (Nat.le_of_ble_eq_true rfl) dX3_init_71 (fun H locs hP hD hS => ?_)
  have hP : va_P D vwCl [(g, .inr (3, [.int 6, .int 6, .int 1, .int 0, .long 0, .long 0, .int 0, .int 0, .int 0, .ref q1, .ref q2, .ref q3, .ref q4, .ref q5, .ref q6, .ref q7])), (q1, .inl (cy 1, 5, .inl (fun _ => 0))), (q2, .inl (cy 1, 5, .inl (fun _ => 0))), (q3, .inl (cy 1, 5, .inl (fun _ => 0))), (q4, .inl (cy 1, 6, .inl (fun _ => 0))), (q5, .inl (cy 1, 6, .inl (fun _ => 0))), (q6, .inl (cy 1, 8, .inl (fun _ => 0))), (q7, .inl (cy 1, 8, .inl (fun _ => 0)))] H := hP
  have hD : va_D A [(g, .inr (3, [.int 6, .int 6, .int 1, .int 0, .long 0, .long 0, .int 0, .int 0, .int 0, .ref q1, .ref q2, .ref q3, .ref q4, .ref q5, .ref q6, .ref q7])), (q1, .inl (cy 1, 5, .inl (fun _ => 0))), (q2, .inl (cy 1, 5, .inl (fun _ => 0))), (q3, .inl (cy 1, 5, .inl (fun _ => 0))), (q4, .inl (cy 1, 6, .inl (fun _ => 0))), (q5, .inl (cy 1, 6, .inl (fun _ => 0))), (q6, .inl (cy 1, 8, .inl (fun _ => 0))), (q7, .inl (cy 1, 8, .inl (fun _ => 0)))] := hD
  refine W.widen (k := 7) (n := 43) (Nat.le_of_ble_eq_true rfl) (Nat.le_of_ble_eq_true rfl) ?_
  have hP9 := hP.sub (ws' := [(g, .inr (3, [.int 6, .int 6, .int 1, .int 0, .long 0, .long 0, .int 0, .int 0, .int 0, .ref q1, .ref q2, .ref q3, .ref q4, .ref q5, .ref q6, .ref q7])), (q1, .inl (cy 1, 5, .inl (fun _ => 0))), (q2, .inl (cy 1, 5, .inl (fun _ => 0))), (q3, .inl (cy 1, 5, .inl (fun _ => 0))), (q4, .inl (cy 1, 6, .inl (fun _ => 0))), (q5, .inl (cy 1, 6, .inl (fun _ => 0))), (q6, .inl (cy 1, 8, .inl (fun _ => 0))), (q7, .inl (cy 1, 8, .inl (fun _ => 0)))]) [0, 1, 2, 3, 4, 5, 6, 7] rfl
  have hD9 := hD.sub (ws' := [(g, .inr (3, [.int 6, .int 6, .int 1, .int 0, .long 0, .long 0, .int 0, .int 0, .int 0, .ref q1, .ref q2, .ref q3, .ref q4, .ref q5, .ref q6, .ref q7])), (q1, .inl (cy 1, 5, .inl (fun _ => 0))), (q2, .inl (cy 1, 5, .inl (fun _ => 0))), (q3, .inl (cy 1, 5, .inl (fun _ => 0))), (q4, .inl (cy 1, 6, .inl (fun _ => 0))), (q5, .inl (cy 1, 6, .inl (fun _ => 0))), (q6, .inl (cy 1, 8, .inl (fun _ => 0))), (q7, .inl (cy 1, 8, .inl (fun _ => 0)))]) [0, 1, 2, 3, 4, 5, 6, 7] (by decide) rfl
  exact W.vret hx hb hr (fun t ht hW => ⟨⟨(q1, q2, q3, q4, q5, q6, q7), rfl, trivial, by rw [ht]; exact hP9, hD9⟩, hS.F ht⟩) hS.2.2 dX3_init_74
