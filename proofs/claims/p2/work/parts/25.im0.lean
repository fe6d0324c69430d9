theorem sp01b {x : Int32} (h : ¬ (0 ≤ x ∧ x ≤ 1)) : -2 = sp_01 x 1 := by rw [sp_01, if_neg h]
def imN (a b a' b' : Option Nat) (x : Int32) : Prop := (x = 0 → a' ≠ none ∧ b' = b) ∧ (x = 1 → b' ≠ none ∧ a' = a) ∧ (¬ x = 0 → ¬ x = 1 → a' = a ∧ b' = b)
theorem imNb {a b : Option Nat} {x : Int32} (h : ¬ (0 ≤ x ∧ x ≤ 1)) : imN a b a b x := ⟨fun e => absurd (by rw [e]; decide) h, fun e => absurd (by rw [e]; decide) h, fun _ _ => ⟨rfl, rfl⟩⟩
theorem imN0 {a b a' : Option Nat} {x : Int32} (hz : x = 0) (h : a' ≠ none) : imN a b a' b x := ⟨fun _ => ⟨h, rfl⟩, fun q => absurd (hz.symm.trans q) (by decide), fun q => absurd hz q⟩
theorem imN1 {a b b' : Option Nat} {x : Int32} (hz : x = 1) (h : b' ≠ none) : imN a b a b' x := ⟨fun q => absurd (hz.symm.trans q) (by decide), fun _ => ⟨h, rfl⟩, fun _ q => absurd hz q⟩
theorem up00 (f : Nat → Option Nat) (v : Option Nat) : va_up f (0 : Int32).toNatClampNeg v 0 = v := rfl
theorem up01 (f : Nat → Option Nat) (v : Option Nat) : va_up f (0 : Int32).toNatClampNeg v 1 = f 1 := rfl
theorem up10 (f : Nat → Option Nat) (v : Option Nat) : va_up f (1 : Int32).toNatClampNeg v 0 = f 0 := rfl
theorem up11 (f : Nat → Option Nat) (v : Option Nat) : va_up f (1 : Int32).toNatClampNeg v 1 = v := rfl
theorem imR0 (o0 o1 : Option GT) : imR o0 o1 0 = imV o0 := by rw [imR, if_pos (by decide), if_pos rfl]
theorem imR1 (o0 o1 : Option GT) : imR o0 o1 1 = imV o1 := by rw [imR, if_pos (by decide), if_neg (by decide)]
theorem imRb {o0 o1 : Option GT} {x : Int32} (h : ¬ (0 ≤ x ∧ x ≤ 1)) : imR o0 o1 x = -2 := by rw [imR, if_neg h]
