theorem z_absl {x z : Int64} (e : z = if 0 < x then x else -x) : x.toInt ≠ 0 → z.toInt ≠ 0 := by
  intro h q
  have hz : z = 0 := Int64.toInt_inj.mp q
  by_cases h0 : 0 < x
  · rw [if_pos h0] at e
    exact h (by rw [← e, hz]; rfl)
  · rw [if_neg h0] at e
    have h1 : x = 0 := by
      have h2 : -x = 0 := e.symm.trans hz
      exact Int64.neg_inj.mp (h2.trans Int64.neg_zero.symm)
    exact h (by rw [h1]; rfl)
theorem z_negne {x z : Int64} (e : z = -x) (h : x.toInt ≠ 0) : z.toInt ≠ 0 := by
  intro q
  have hz : z = 0 := Int64.toInt_inj.mp q
  have h2 : -x = 0 := e.symm.trans hz
  exact h (by rw [Int64.neg_inj.mp (h2.trans Int64.neg_zero.symm)]; rfl)
