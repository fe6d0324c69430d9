theorem fa_or (a b : Nat) : nI a ||| nI b = nI (a ||| b) := by
  apply Int32.toBitVec_inj.1
  show BitVec.ofNat 32 a ||| BitVec.ofNat 32 b = BitVec.ofNat 32 (a ||| b)
  apply BitVec.eq_of_getLsbD_eq
  intro i hi
  simp [hi]
theorem sh1 : ∀ j : Nat, j < 5 → (1 : Int32) <<< (nI j &&& 31) = nI (2 ^ j) := by decide +kernel
theorem p32 : ∀ j : Nat, j < 5 → 2 ^ j < 32 := by decide +kernel
theorem or32 {a b : Nat} (ha : a < 32) (hb : b < 32) : a ||| b < 32 := Nat.or_lt_two_pow (n := 5) ha hb
theorem ne5 {P n : Nat} {x : Int32} (hx : x = nI n) (h : ¬ nI P = x) (hP : P ≤ n) : P < n := by
  rcases Nat.lt_or_ge P n with q | q
  · exact q
  · exact absurd (by rw [hx]; congr; omega) h
theorem spg {w h : Int32} {a b : Nat} (ea : w = nI a) (eb : h = nI b) (a2 : 2 ≤ a) (a6 : a ≤ 6) (b2 : 2 ≤ b) (b6 : b ≤ 6) : nI (a * b) = sp_garden w h := by
  subst ea eb
  have k : ∀ n : Nat, 2 ≤ n → n ≤ 6 → (2 ≤ nI n ∧ nI n ≤ 6) := fun n h1 h2 => ⟨nI_le (a := 2) h1 (by omega), nI_le (b := 6) h2 (by omega)⟩
  rw [sp_garden, if_pos (k a a2 a6), if_pos (k b b2 b6), pk_mul]
theorem z_w {q : Int32} (n : Int32) {K : Int64} (h : n.toInt64 = K) : (K ≤ q.toInt64 ↔ n ≤ q) ∧ (q.toInt64 ≤ K ↔ q ≤ n) := by
  subst h
  exact ⟨z_wle n q, z_wle q n⟩
theorem z_nw {q : Int32} (a b : Int32) {A B : Int64} (hA : a.toInt64 = A) (hB : b.toInt64 = B) (h : ¬ (A ≤ q.toInt64 ∧ q.toInt64 ≤ B)) : ¬ (a ≤ q ∧ q ≤ b) := fun z => h ⟨(z_w a hA).1.mpr z.1, (z_w b hB).2.mpr z.2⟩
theorem spg1 {w h : Int32} (q : ¬ ((2 : Int64) ≤ w.toInt64 ∧ w.toInt64 ≤ 6)) : -2 = sp_garden w h := by
  rw [sp_garden, if_neg (z_nw 2 6 (by decide) (by decide) q)]
theorem spg2 {w h : Int32} (q : ¬ ((2 : Int64) ≤ h.toInt64 ∧ h.toInt64 ≤ 6)) : -2 = sp_garden w h := by
  rw [sp_garden, if_neg (z_nw 2 6 (by decide) (by decide) q), ite_self]
def meI (f : Nat → Int32) : Prop := ∀ i, i < 36 → ∃ j : Nat, f i = nI j ∧ j < 32
theorem meI.put {f : Nat → Int32} (h : meI f) (k j : Nat) {x : Int32} (hx : x = nI j) (hj : j < 32) : meI (upd f k x) := by
  intro i hi
  by_cases q : i = k
  · subst q
    exact ⟨j, by rw [ur_eq]; exact hx, hj⟩
  · rw [ur_ne _ _ q]
    exact h i hi
