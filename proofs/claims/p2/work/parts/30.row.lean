/-! the reference's row -/
def mHi (k : Nat) : Nat := if k = 4 then 5 else if k < 20 then (if (k - 5) % 3 = 1 then 35 else 9) else if k < 92 then 1 else if k = 92 then 6 else if k < 105 then 4 else if k = 105 then 8 else 4
def mI (F : Nat → Int32) : Prop := ∀ k, 4 ≤ k → k < 122 → ∃ j : Nat, F k = nI j ∧ j ≤ mHi k
/-- a row: W by H, S squares, P people -/
def mV (F : Nat → Int32) (W H S P : Nat) : Prop := F 0 = nI W ∧ F 1 = nI H ∧ F 4 = nI P ∧ (2 ≤ W ∧ W ≤ 6 ∧ 2 ≤ H ∧ H ≤ 6 ∧ S = W * H ∧ 4 ≤ S ∧ S ≤ 36 ∧ P ≤ 5) ∧ mI F
def mN (F : Nat → Int32) : Prop := ∃ W H S P, mV F W H S P
theorem mV.rng {F : Nat → Int32} {W H S P : Nat} (h : mV F W H S P) : 2 ≤ W ∧ W ≤ 6 ∧ 2 ≤ H ∧ H ≤ 6 ∧ S = W * H ∧ 4 ≤ S ∧ S ≤ 36 ∧ P ≤ 5 := h.2.2.2.1
theorem mV.get {F : Nat → Int32} {W H S P : Nat} (h : mV F W H S P) (k B : Nat) (h4 : 4 ≤ k) (hk : k < 122) (hB : mHi k ≤ B) : ∃ j : Nat, F k = nI j ∧ j ≤ B := by
  obtain ⟨j, e, hj⟩ := h.2.2.2.2 k h4 hk
  exact ⟨j, e, Nat.le_trans hj hB⟩
theorem ur_eq (f : Nat → Int32) (k : Nat) (x : Int32) : upd f k x k = x := pk_us
theorem ur_ne (f : Nat → Int32) {k j : Nat} (x : Int32) (h : j ≠ k) : upd f k x j = f j := pk_un h
theorem mV.put {F : Nat → Int32} {W H S P : Nat} (h : mV F W H S P) (k j : Nat) {x : Int32} (hx : x = nI j) (hk : 5 ≤ k) (hj : j ≤ mHi k) : mV (upd F k x) W H S P := by
  obtain ⟨h0, h1, h4, hr, hI⟩ := h
  refine ⟨by rw [ur_ne _ _ (by omega)]; exact h0, by rw [ur_ne _ _ (by omega)]; exact h1, by rw [ur_ne _ _ (by omega)]; exact h4, hr, ?_⟩
  intro i h4 hi
  by_cases q : i = k
  · subst q
    exact ⟨j, by rw [ur_eq]; exact hx, hj⟩
  · rw [ur_ne _ _ q]
    exact hI i h4 hi
theorem mV.putB {F : Nat → Int32} {W H S P : Nat} (h : mV F W H S P) (k : Nat) {x : Int32} (hx : x = 1 ∨ x = 0) (hk : 5 ≤ k) (hj : 1 ≤ mHi k) : mV (upd F k x) W H S P := by
  rcases hx with hx | hx
  · exact h.put k 1 (by rw [hx]; rfl) hk hj
  · exact h.put k 0 (by rw [hx]; rfl) hk (by omega)
theorem mV.put23 {F : Nat → Int32} {W H S P : Nat} (h : mV F W H S P) (k : Nat) (x : Int32) (hk : k = 2 ∨ k = 3) : mV (upd F k x) W H S P := by
  obtain ⟨h0, h1, h4, hr, hI⟩ := h
  refine ⟨by rw [ur_ne _ _ (by omega)]; exact h0, by rw [ur_ne _ _ (by omega)]; exact h1, by rw [ur_ne _ _ (by omega)]; exact h4, hr, ?_⟩
  intro i h4 hi
  rw [ur_ne _ _ (by omega)]
  exact hI i h4 hi
theorem mV.putP {F : Nat → Int32} {W H S P : Nat} (h : mV F W H S P) {x : Int32} (hx : x = nI (P + 1)) (hP : P < 5) : mV (upd F 4 x) W H S (P + 1) := by
  obtain ⟨h0, h1, h4, hr, hI⟩ := h
  refine ⟨by rw [ur_ne _ _ (by omega)]; exact h0, by rw [ur_ne _ _ (by omega)]; exact h1, by rw [ur_eq]; exact hx, ⟨hr.1, hr.2.1, hr.2.2.1, hr.2.2.2.1, hr.2.2.2.2.1, hr.2.2.2.2.2.1, hr.2.2.2.2.2.2.1, by omega⟩, ?_⟩
  intro i h4 hi
  by_cases q : i = 4
  · subst q
    exact ⟨P + 1, by rw [ur_eq]; exact hx, by unfold mHi; rw [if_pos rfl]; omega⟩
  · rw [ur_ne _ _ q]
    exact hI i h4 hi
theorem mV.sq {F : Nat → Int32} {W H S P : Nat} (h : mV F W H S P) : F 0 * F 1 = nI S := by
  rw [h.1, h.2.1, pk_mul, ← h.rng.2.2.2.2.1]
theorem mV.p5 {F : Nat → Int32} {W H S P : Nat} (h : mV F W H S P) : (F 4).toInt ≤ 5 := by
  rw [h.2.2.1, nI_toInt (by have := h.rng; omega)]
  have := h.rng
  omega
theorem mV_new {F : Nat → Int32} {W H : Nat} (h0 : F 0 = nI W) (h1 : F 1 = nI H) (hz : ∀ k, 3 ≤ k → k < 122 → F k = 0) (hW : 2 ≤ W ∧ W ≤ 6) (hH : 2 ≤ H ∧ H ≤ 6) : mV F W H (W * H) 0 := by
  have a : 2 * 2 ≤ W * H := Nat.mul_le_mul hW.1 hH.1
  have b : W * H ≤ 6 * 6 := Nat.mul_le_mul hW.2 hH.2
  refine ⟨h0, h1, hz 4 (by decide) (by decide), ⟨hW.1, hW.2, hH.1, hH.2, rfl, by omega, by omega, by omega⟩, ?_⟩
  intro k h4 hk
  exact ⟨0, by rw [hz k (by omega) hk]; rfl, Nat.zero_le _⟩
theorem mV.copy {F G : Nat → Int32} {W H S P : Nat} (h : mV F W H S P) (e : ∀ k, k < 122 → G k = F k) : mV G W H S P := by
  obtain ⟨h0, h1, h4, hr, hI⟩ := h
  refine ⟨by rw [e 0 (by decide)]; exact h0, by rw [e 1 (by decide)]; exact h1, by rw [e 4 (by decide)]; exact h4, hr, ?_⟩
  intro k h4 hk
  rw [e k hk]
  exact hI k h4 hk
theorem ltN {k n : Nat} {x : Int32} (hx : x.toInt ≤ n) (hk : k < 2147483648) (h : ¬ x ≤ nI k) : k < n := by
  rw [z_le, nI_toInt (by omega)] at h
  omega
theorem ltM {k n : Nat} (hn : n < 2147483648) (hk : k < 2147483648) (h : ¬ nI n ≤ nI k) : k < n := ltN (x := nI n) (by rw [nI_toInt (by omega)]; omega) hk h
/-- a number within bounds, asked as a long -/
theorem z_rng {x : Int32} {a b : Int64} {lo hi : Nat} (ha : a.toInt = lo) (hb : b.toInt = hi) (h1 : a ≤ x.toInt64) (h2 : x.toInt64 ≤ b) : ∃ j : Nat, lo ≤ j ∧ j ≤ hi ∧ x = nI j := by
  rw [Int64.le_iff_toInt_le, Int32.toInt_toInt64] at h1 h2
  have := x.toInt_lt
  refine ⟨x.toInt.toNat, by omega, by omega, ?_⟩
  apply Int32.toInt_inj.mp
  rw [nI_toInt (by omega)]
  omega
theorem z_ex {x : Int32} {n : Nat} (hn : n < 1000) (h1 : (0 : Int64) ≤ x.toInt64) (h2 : x.toInt64 ≤ (nI n - 1).toInt64) : ∃ j : Nat, j < n ∧ x = nI j := by
  rw [Int64.le_iff_toInt_le, Int32.toInt_toInt64] at h1 h2
  rw [Int32.toInt_toInt64, Int32.toInt_sub, nI_toInt (by omega)] at h2
  have h0 : (0 : Int64).toInt = 0 := by decide
  have h3 : (1 : Int32).toInt = 1 := by decide
  rw [h3, Int.bmod_eq_of_le (by omega) (by omega)] at h2
  have := x.toInt_lt
  refine ⟨x.toInt.toNat, by omega, ?_⟩
  apply Int32.toInt_inj.mp
  rw [nI_toInt (by omega)]
  omega
theorem z_n0 {v : Int32} (h : -v = 0) : v = 0 := by
  have := congrArg (fun x : Int32 => -x) h
  simpa using this
theorem z_exB {r x : Int32} {n : Nat} {Q : Prop} (hn : n < 1000) (h : (r = 1 ∧ ((0 : Int64) ≤ x.toInt64 ∧ x.toInt64 ≤ (nI n - 1).toInt64)) ∨ (r = 0 ∧ Q)) : (r = 1 ∧ (∃ j : Nat, j < n ∧ x = nI j)) ∨ (r = 0 ∧ True) := by
  rcases h with ⟨q1, q2, q3⟩ | ⟨q1, q2⟩
  · exact Or.inl ⟨q1, z_ex hn q2 q3⟩
  · exact Or.inr ⟨q1, trivial⟩
