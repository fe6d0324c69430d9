theorem z_nn250 {y : Int32} (h0 : 0 ≤ y) (h : y < 250) : 0 ≤ y + 1 := z_nnL (Int32.not_le.mpr h) h0
theorem z_or {r y : Int32} (h : r = -1 ∨ y < 250) (c : ¬ r = -1) : y < 250 := by
  rcases h with h | h
  · exact absurd h c
  · exact h
theorem z_m1 {y : Int32} (h : 0 ≤ y) : ¬ y = -1 := by
  intro q
  rw [q] at h
  exact absurd h (by decide)
