def sp_garden (w h : Int32) : Int32 := if 2 ≤ w ∧ w ≤ 6 then (if 2 ≤ h ∧ h ≤ 6 then w * h else -2) else -2
