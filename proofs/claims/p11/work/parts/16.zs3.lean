theorem z_lcmp {x y : Int64} {z : Int32} (e : z = lg_cmp x y) : (z.toInt = 1 ∧ x.toInt > y.toInt) ∨ (z.toInt = 0 ∧ x.toInt = y.toInt) ∨ (z.toInt = -1 ∧ x.toInt < y.toInt) := by
  unfold lg_cmp at e
  by_cases h : x > y
  · rw [if_pos h] at e
    subst e
    exact Or.inl ⟨by decide, Int64.lt_iff_toInt_lt.mp h⟩
  · rw [if_neg h] at e
    have h1 : x.toInt ≤ y.toInt := Int.not_lt.mp (fun q => h (Int64.lt_iff_toInt_lt.mpr q))
    by_cases h2 : x = y
    · rw [if_pos h2] at e
      subst e
      exact Or.inr (Or.inl ⟨by decide, by rw [h2]⟩)
    · rw [if_neg h2] at e
      subst e
      refine Or.inr (Or.inr ⟨by decide, ?_⟩)
      have : x.toInt ≠ y.toInt := fun q => h2 (Int64.toInt_inj.mp q)
      omega
