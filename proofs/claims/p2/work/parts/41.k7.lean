theorem nlt4 {t : Nat} (ht : t ≤ 250) (h : ¬ nI t < 4) : 4 ≤ t := by
  rcases Nat.lt_or_ge t 4 with q | q
  · exact absurd (nI_lt (a := t) (b := 4) q (by decide)) h
  · exact q
theorem z_tk {x ph : Int32} {pl : Nat} (hl : pl < 1000) (h1 : (nI pl).toInt64 ≤ x.toInt64) (h2 : x.toInt64 ≤ ph.toInt64) : ∃ v : Nat, x = nI v ∧ pl ≤ v ∧ (v : Int) ≤ ph.toInt := by
  rw [z_wle, z_le] at h1 h2
  rw [nI_toInt (by omega)] at h1
  have := x.toInt_lt
  refine ⟨x.toInt.toNat, ?_, by omega, by omega⟩
  apply Int32.toInt_inj.mp
  rw [nI_toInt (by omega)]
  omega
theorem z_bq {r : Int32} {A B C D E : Prop} (h : (r = 1 ∧ (A ∧ B ∧ C ∧ D ∧ E)) ∨ (r = 0 ∧ (A ∧ B ∧ C ∧ D))) : A ∧ B ∧ C ∧ D := by
  rcases h with ⟨-, h1, h2, h3, h4, -⟩ | ⟨-, h⟩
  · exact ⟨h1, h2, h3, h4⟩
  · exact h
theorem z_bj {r : Int32} {A B J : Prop} (h : (r = 1 ∧ A) ∨ (r = 0 ∧ B)) (j : J) : (r = 1 ∧ J) ∨ (r = 0 ∧ J) := by
  rcases h with h | h
  · exact Or.inl ⟨h.1, j⟩
  · exact Or.inr ⟨h.1, j⟩
theorem z_pm {n : Nat} (h : n < 1000) : (nI n - 1).toInt = (n : Int) - 1 := by
  have h3 : (1 : Int32).toInt = 1 := by decide
  rw [Int32.toInt_sub, nI_toInt (by omega), h3, Int.bmod_eq_of_le (by omega) (by omega)]
theorem z_pmle {n : Nat} (h : n ≤ 36) : (nI n - 1).toInt ≤ 35 := by
  rw [z_pm (by omega)]
  omega
theorem mN.copy {F G : Nat → Int32} (h : mN F) (e : ∀ k, k < 122 → G k = F k) : mN G := by
  obtain ⟨W, H, S, P, h⟩ := h
  exact ⟨W, H, S, P, h.copy e⟩
theorem z_t3 {t : Int32} {n : Nat} (h : t = 0 ∨ 1 ≤ n) (c : t = 3) : 1 ≤ n := by
  rcases h with h | h
  · exact absurd (h.symm.trans c) (by decide)
  · exact h
theorem z_tn {t : Int32} {n : Nat} (h : t = 0 ∨ 1 ≤ n) (c : ¬ t = 0) : 1 ≤ n := by
  rcases h with h | h
  · exact absurd h c
  · exact h
