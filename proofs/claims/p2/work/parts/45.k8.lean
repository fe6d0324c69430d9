theorem z_dn {x y : Int32} (h : ¬ x < 0) (e : y = x + (-1)) : y.toInt = x.toInt - 1 := by
  have h0 : (0 : Int32).toInt = 0 := by decide
  rw [z_lt, h0] at h
  have h1 : (-1 : Int32).toInt = -1 := by decide
  have := x.toInt_lt
  rw [e, Int32.toInt_add, h1, Int.bmod_eq_of_le (by omega) (by omega)]
  omega
theorem tyb {ln : Nat} {n : Int32} (q : ¬ ((1 : Int64) ≤ n.toInt64 ∧ n.toInt64 ≤ 8)) : -2 = tyR ln n ∧ ln = tyN ln n := ty_bad (z_nw 1 8 (by decide) (by decide) q)
theorem n18 {n : Int32} {j : Nat} (e : n = nI j) (h1 : 1 ≤ j) (h2 : j ≤ 8) : 1 ≤ n ∧ n ≤ 8 := by
  subst e
  exact ⟨nI_le (a := 1) h1 (by omega), nI_le (b := 8) h2 (by omega)⟩
def kI (kf ik : Nat → Int32) : Prop := ∀ i, i < 2 → ik i = 0 ∨ mN (fun k => kf (122 * i + k))
/-- which images were kept, behind a call of image -/
def ikN (ik ik' : Nat → Int32) (x : Int32) : Prop := (x = 0 → ik' 0 = 1 ∧ ik' 1 = ik 1) ∧ (x = 1 → ik' 1 = 1 ∧ ik' 0 = ik 0) ∧ (¬ x = 0 → ¬ x = 1 → ik' 0 = ik 0 ∧ ik' 1 = ik 1)
def mR (ik : Nat → Int32) (x : Int32) : Int32 := if 0 ≤ x ∧ x ≤ 1 then (if x = 0 then (if ik 0 = 0 then -3 else 1) else (if ik 1 = 0 then -3 else 1)) else -2
theorem s01b {x : Int32} (q : ¬ ((0 : Int64) ≤ x.toInt64 ∧ x.toInt64 ≤ 1)) : -2 = sp_01 x 1 := by
  rw [sp_01, if_neg (z_nw 0 1 (by decide) (by decide) q)]
theorem mRb {ik : Nat → Int32} {x : Int32} (q : ¬ ((0 : Int64) ≤ x.toInt64 ∧ x.toInt64 ≤ 1)) : -2 = mR ik x := by
  rw [mR, if_neg (z_nw 0 1 (by decide) (by decide) q)]
theorem ikb {ik : Nat → Int32} {x : Int32} (q : ¬ ((0 : Int64) ≤ x.toInt64 ∧ x.toInt64 ≤ 1)) : ikN ik ik x := by
  have h := z_nw 0 1 (by decide) (by decide) q
  refine ⟨fun e => absurd (by rw [e]; decide) h, fun e => absurd (by rw [e]; decide) h, fun _ _ => ⟨rfl, rfl⟩⟩
theorem j01 {j : Nat} (h : j ≤ 1) : j = 0 ∨ j = 1 := by omega
theorem n01 {x : Int32} {j : Nat} (e : x = nI j) (h : j ≤ 1) : (j = 0 ∧ x = 0) ∨ (j = 1 ∧ x = 1) := by
  rcases j01 h with z | z
  · subst z
    exact Or.inl ⟨rfl, e⟩
  · subst z
    exact Or.inr ⟨rfl, e⟩
theorem imK {kf kf' ik F : Nat → Int32} {x v : Int32} {j : Nat} (e : x = nI j) (h : j ≤ 1) (hv : v = 1) (hk : kI kf ik) (hF : mN F) (h1 : ∀ m, m < 122 → kf' (122 * j + m) = F m) (h2 : ∀ n, (n < 122 * j ∨ 122 * j + 122 ≤ n) → kf' n = kf n) : 1 = sp_01 x 1 ∧ kI kf' (upd ik j v) ∧ ikN ik (upd ik j v) x := by
  subst hv
  rcases n01 e h with ⟨hj, hx⟩ | ⟨hj, hx⟩
  · subst hj hx
    refine ⟨by decide, fun i hi => ?_, ⟨fun _ => ⟨rfl, rfl⟩, fun q => absurd q (by decide), fun q => absurd rfl q⟩⟩
    rcases (show i = 0 ∨ i = 1 by omega) with rfl | rfl
    · exact Or.inr (hF.copy (fun k hk => h1 k hk))
    · rcases hk 1 (by decide) with z | z
      · exact Or.inl z
      · exact Or.inr (z.copy (fun k hk => h2 _ (by omega)))
  · subst hj hx
    refine ⟨by decide, fun i hi => ?_, ⟨fun q => absurd q (by decide), fun _ => ⟨rfl, rfl⟩, fun _ q => absurd rfl q⟩⟩
    rcases (show i = 0 ∨ i = 1 by omega) with rfl | rfl
    · rcases hk 0 (by decide) with z | z
      · exact Or.inl z
      · exact Or.inr (z.copy (fun k hk => h2 _ (by omega)))
    · exact Or.inr (hF.copy (fun k hk => h1 k hk))
theorem frN {ik : Nat → Int32} {x : Int32} {j : Nat} (e : x = nI j) (h : j ≤ 1) (c : ik j = 0) : -3 = mR ik x := by
  rcases n01 e h with ⟨hj, hx⟩ | ⟨hj, hx⟩
  · subst hj hx
    rw [mR, if_pos (by decide), if_pos rfl, if_pos c]
  · subst hj hx
    rw [mR, if_pos (by decide), if_neg (by decide), if_pos c]
theorem frY {ik : Nat → Int32} {x : Int32} {j : Nat} (e : x = nI j) (h : j ≤ 1) (c : ¬ ik j = 0) : 1 = mR ik x := by
  rcases n01 e h with ⟨hj, hx⟩ | ⟨hj, hx⟩
  · subst hj hx
    rw [mR, if_pos (by decide), if_pos rfl, if_neg c]
  · subst hj hx
    rw [mR, if_pos (by decide), if_neg (by decide), if_neg c]
