theorem z_fb {z : Int32} (h : (0 : Int) ≤ z.toInt ∧ z.toInt ≤ (1 : Int)) : fits .boolean (.int z) = true := by
  rcases (show z.toInt = 0 ∨ z.toInt = 1 by omega) with e | e
  · rw [show z = 0 from z_eq' e]; rfl
  · rw [show z = 1 from z_eq' e]; rfl
