/-! my own words for any state -/
section Any
variable {p : Program} {l : Launch} {e : Env} {R : Room} {s : State} {m : MethodId} {args : Array Value} {below : List Frame} {meth : Method} {c : Code} {H : Heap} {locs : List Loc} {cells slots : Nat} {Q : State → Prop} {g : JFrame}
theorem qW (h : ∀ QF : State → Prop, QF = Q → W p l e R s m args below meth c H locs cells slots QF g) : W p l e R s m args below meth c H locs cells slots Q g := h Q rfl
end Any
theorem z_b0 {r : Int32} {P Q : Prop} (h : (r = 1 ∧ P) ∨ (r = 0 ∧ Q)) (c : r = 0) : Q := by
  rcases h with h | h
  · exact absurd (h.1.symm.trans c) (by decide)
  · exact h.2
theorem z_b1 {r : Int32} {P Q : Prop} (h : (r = 1 ∧ P) ∨ (r = 0 ∧ Q)) (c : ¬ r = 0) : P := by
  rcases h with h | h
  · exact h.2
  · exact absurd h.1 c
theorem z_bo {r : Int32} {P Q : Prop} (h : (r = 1 ∧ P) ∨ (r = 0 ∧ Q)) : r = 1 ∨ r = 0 := by
  rcases h with h | h
  · exact Or.inl h.1
  · exact Or.inr h.1
theorem z_bt {r : Int32} {P Q : Prop} (h : (r = 1 ∧ P) ∨ (r = 0 ∧ Q)) : (r = 1 ∧ True) ∨ (r = 0 ∧ True) := by
  rcases h with h | h
  · exact Or.inl ⟨h.1, trivial⟩
  · exact Or.inr ⟨h.1, trivial⟩
theorem z_bu {r : Int32} (h : r = 1 ∨ r = 0) : (r = 1 ∧ True) ∨ (r = 0 ∧ True) := by
  rcases h with h | h
  · exact Or.inl ⟨h, trivial⟩
  · exact Or.inr ⟨h, trivial⟩
theorem z_bm {r : Int32} (h : r = 1 ∨ r = 0) : narrow .boolean (.int r) = .int r := by
  rcases h with h | h <;> rw [h] <;> rfl
theorem z_bn {r : Int32} {P Q : Prop} (h : (r = 1 ∧ P) ∨ (r = 0 ∧ Q)) : narrow .boolean (.int r) = .int r := z_bm (z_bo h)
theorem in_ge {a n : Nat} {N : Int32} (hN : N.toInt = n) (ha : a < 2147483648) (h : ¬ N ≤ nI a) : vp_in (nI a) n := by
  rw [vp_in_iff]
  rw [z_le, nI_toInt (by omega)] at h
  rw [nI_toInt (by omega)]
  omega
theorem in_x {x N : Int32} {n : Nat} (hN : N.toInt = n) (h1 : ¬ x < 0) (h2 : ¬ N ≤ x) : vp_in x n := by
  rw [vp_in_iff]
  rw [z_lt] at h1
  rw [z_le] at h2
  have : (0 : Int32).toInt = 0 := by decide
  omega
theorem in_y {x N : Int32} {n : Nat} (hN : N.toInt = n) (h1 : 0 ≤ x) (h2 : x < N) : vp_in x n := by
  rw [vp_in_iff]
  rw [z_le] at h1
  rw [z_lt] at h2
  have : (0 : Int32).toInt = 0 := by decide
  omega
theorem in_z {x N : Int32} {n : Nat} (hN : N.toInt = n) (h1 : ¬ x < 0) (h2 : x < N) : vp_in x n := in_x hN h1 (Int32.not_le.mpr h2)
section Any2
variable {p : Program} {l : Launch} {e : Env} {R : Room} {s : State} {m : MethodId} {args : Array Value} {below : List Frame} {meth : Method} {c : Code} {H : Heap} {locs : List Loc} {cells slots : Nat} {Q : State → Prop}
variable {D : va_G} {ws wc wr : va_W} {A : Nat → Prop} {H0 : Heap} {pc : Nat} {ls : Array Slot} {st0 rest : List Value} {a : Array Value}
theorem rd_r {K : Nat → Prop} (hr : va_Run p l e R s m args below meth c H locs cells slots 0 0 (F0 m pc ls st0) rest (va_Qr (fun (_ : Unit) => True) (fun (_ : Unit) (ra : Nat) (_ : State) => K ra) (fun q => H.size ≤ q) a) (fun q => H.size ≤ q)) (hP : va_P D vwCl ws H) (hS : va_S A H0 H locs) (hA : ∀ q, H0.size ≤ q → A q)
    (kk : ∀ (r : Nat) (H1 : Heap) (locs1 : List Loc), K r → va_P D vwCl ws H1 → va_S A H0 H1 locs1 → W p l e R s m args below meth c H1 locs1 cells slots Q (F0 m (pc + 3) ls (.ref r :: rest))) : W p l e R s m args below meth c H locs cells slots Q (F0 m pc ls st0) :=
  va_callr hr hS (fun q h1 h2 => absurd h2 (Nat.not_le.mpr h1)) (fun q h => hA q (Nat.le_trans hS.1 h)) (fun u ra t H1 locs1 ht hvm hw hB hz hk hS1 => kk ra H1 locs1 hB (rdP hP hk) hS1)
theorem pV2 {b : Addr} {As : List Value} {cy : Nat → ClassId} {wb : va_W} {A2 : Nat → Prop} {ci : Nat} {q : vw_C} {fs : List Value} {k : Nat} (hK : kA D cy s) (hPb : va_P D vwCl wb H) (hc : vwCl[ci]? = some q) (he : wb[k]? = some (b, .inr (ci, fs))) (hP : va_P D vwCl wc H) (hD : va_D A2 wc) : PreV s H q.1 b (va_Pc (.ref b :: As) (kPre D cy wc H.size)) As :=
  ⟨kPre.blind, va_recv hK.1 hPb hc he, fun U hU hW => ⟨rfl, by rw [hU], by rw [hU]; exact hP, hK.warm hW, hD.weaken (fun _ _ _ _ => trivial)⟩⟩
end Any2
theorem in_lt {x : Int32} {n : Nat} (h : vp_in x n) : x.toNatClampNeg < n := Nat.not_le.mp (fun q => h (Or.inr q))
theorem nle_max {k n : Nat} {N : Int32} (hN : N.toInt = n) (hn : n < 2147483647) (hk : k < 2147483648) (h : ¬ N < nI k) : k + 1 < 2147483648 := by
  rw [z_lt, nI_toInt (by omega)] at h
  omega
theorem z_upL {L y y' : Int32} {n : Nat} (h : ¬ L ≤ y) (hm : (2147483647 - y.toInt).toNat < n + 1) (e : y' = y + 1) : (2147483647 - y'.toInt).toNat < n := by
  rw [z_le] at h
  have y2 := y.le_toInt
  have L2 := L.toInt_lt
  have h1 : (1 : Int32).toInt = 1 := by decide
  rw [e, Int32.toInt_add, h1, Int.bmod_eq_of_le (by omega) (by omega)]
  omega
theorem z_nnL {L y : Int32} (h : ¬ L ≤ y) (h0 : 0 ≤ y) : 0 ≤ y + 1 := by
  rw [z_le] at h h0 ⊢
  have L2 := L.toInt_lt
  have h1 : (1 : Int32).toInt = 1 := by decide
  have h2 : (0 : Int32).toInt = 0 := by decide
  rw [Int32.toInt_add, h1, Int.bmod_eq_of_le (by omega) (by omega)]
  omega
theorem z_rem {q w x : Int32} (hw : ¬ w ≤ 0) (hx : x = q - q / w * w) : x.toInt < 2147483647 := by
  have h0 : (0 : Int32).toInt = 0 := by decide
  rw [z_le, h0] at hw
  have w1 := w.toInt_lt
  have q1 := q.toInt_lt
  have q2 := q.le_toInt
  have hd : (q / w).toInt = q.toInt.tdiv w.toInt := Int32.toInt_div_of_ne_right q w (by intro h; rw [h] at hw; exact hw (by decide))
  have e1 := Int.tmod_add_tdiv_mul q.toInt w.toInt
  have t1 := Int.tmod_lt_of_pos q.toInt (b := w.toInt) (by omega)
  have t2 := Int.lt_tmod_of_pos q.toInt (b := w.toInt) (by omega)
  have s1 : 0 ≤ q.toInt → 0 ≤ q.toInt.tmod w.toInt := fun h => Int.tmod_nonneg _ h
  have s2 : q.toInt ≤ 0 → q.toInt.tmod w.toInt ≤ 0 := by
    intro h
    have := Int.tmod_nonneg w.toInt (show 0 ≤ -q.toInt by omega)
    rw [Int.neg_tmod] at this
    omega
  have hm : (q / w * w).toInt = q.toInt.tdiv w.toInt * w.toInt := by
    rw [Int32.toInt_mul, hd]
    generalize q.toInt.tdiv w.toInt * w.toInt = z at e1
    exact Int.bmod_eq_of_le (by omega) (by omega)
  have hx2 : x.toInt = q.toInt.tmod w.toInt := by
    rw [hx, Int32.toInt_sub, hm]
    generalize q.toInt.tdiv w.toInt * w.toInt = z at e1
    rw [Int.bmod_eq_of_le (by omega) (by omega)]
    omega
  omega
theorem z_div {q w x : Int32} (h : 2 ≤ w) (hx : x = q / w) : x.toInt < 2147483647 := by
  have h2 : (2 : Int32).toInt = 2 := by decide
  rw [z_le, h2] at h
  have q1 := q.toInt_lt
  have hd : (q / w).toInt = q.toInt.tdiv w.toInt := Int32.toInt_div_of_ne_right q w (by intro h3; rw [h3] at h; exact absurd h (by decide))
  rw [hx, hd]
  by_cases h0 : 0 ≤ q.toInt
  · rw [Int.tdiv_eq_ediv_of_nonneg h0]
    exact Int.ediv_lt_of_lt_mul (by omega) (by omega)
  · have := Int.tdiv_nonneg (show 0 ≤ -q.toInt by omega) (show 0 ≤ w.toInt by omega)
    rw [Int.neg_tdiv] at this
    omega
theorem z_mx {a b x : Int32} (ha : a.toInt < 2147483647) (hb : b.toInt < 2147483647) (hx : x = if a < b then b else a) : x.toInt < 2147483647 := by
  rw [hx]
  split <;> assumption
theorem z_up {L y y' : Int32} {n : Nat} (h : ¬ L < y) (hL : L.toInt < 2147483647) (hm : (2147483647 - y.toInt).toNat < n + 1) (e : y' = y + 1) : (2147483647 - y'.toInt).toNat < n := by
  rw [z_lt] at h
  have y2 := y.le_toInt
  have h1 : (1 : Int32).toInt = 1 := by decide
  rw [e, Int32.toInt_add, h1, Int.bmod_eq_of_le (by omega) (by omega)]
  omega
