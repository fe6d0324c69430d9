theorem up00 (f : Nat → Option Nat) (v : Option Nat) : va_up f (0 : Int32).toNatClampNeg v 0 = v := rfl
theorem up01 (f : Nat → Option Nat) (v : Option Nat) : va_up f (0 : Int32).toNatClampNeg v 1 = f 1 := rfl
theorem up10 (f : Nat → Option Nat) (v : Option Nat) : va_up f (1 : Int32).toNatClampNeg v 0 = f 0 := rfl
theorem up11 (f : Nat → Option Nat) (v : Option Nat) : va_up f (1 : Int32).toNatClampNeg v 1 = v := rfl
theorem imR0 (o0 o1 : Option GT) : imR o0 o1 0 = imV o0 := by rw [imR, if_pos (by decide), if_pos rfl]
theorem imR1 (o0 o1 : Option GT) : imR o0 o1 1 = imV o1 := by rw [imR, if_pos (by decide), if_neg (by decide)]
theorem imRb {o0 o1 : Option GT} {x : Int32} (h : ¬ (0 ≤ x ∧ x ≤ 1)) : imR o0 o1 x = -2 := by rw [imR, if_neg h]
