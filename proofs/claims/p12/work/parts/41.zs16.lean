def z_ddl : List Nat := [4, 3, 2, 1, 0, 5, 4, 3, 2, 1, 0, 5, 4, 3, 2, 1, 0, 6, 5, 4, 3, 2, 1, 0, 5, 4, 3, 2, 1, 0, 6, 5, 4, 3, 2, 1, 0, 5, 4, 3, 2, 1, 0, 2, 1, 0, 3, 2, 1, 0, 3, 2, 1, 0, 4, 3, 2, 1, 0, 4, 3, 2, 1, 0, 3, 2, 1, 0, 6, 5, 4, 3, 2, 1, 0, 4, 3, 2, 1, 0, 6, 5, 4, 3, 2, 1, 0, 4, 3, 2, 1, 0, 4, 3, 2, 1, 0, 5, 4, 3, 2, 1, 0, 6, 5, 4, 3, 2, 1, 0, 4, 3, 2, 1, 0, 0]
def z_dd (j : Nat) : Nat := z_ddl.getD j 0
def z_wd (f : Nat → Int32) : Prop := ∀ j : Nat, j < 115 → (f j).toInt ≠ 32 → j + 1 < 115 ∧ z_dd j = z_dd (j + 1) + 1
theorem z_dd_le (j : Nat) : z_dd j ≤ 6 := by
  by_cases h : j < 116
  · exact (show ∀ k : Nat, k < 116 → z_dd k ≤ 6 by decide) j h
  · have : z_dd j = 0 := by
      unfold z_dd
      rw [List.getD_eq_getElem?_getD, List.getElem?_eq_none (by show 116 ≤ j; omega)]
      rfl
    omega
theorem z_dd_s {f : Nat → Int32} (h : z_wd f) {i z : Int32} (e : z = f i.toNatClampNeg) (hz : z.toInt ≠ 32) (h0 : 0 ≤ i.toInt) (h1 : i.toInt < 115) {A n : Int} (hi : i.toInt = A + n) (hF : n + ((z_dd (A + n).toNat : Nat) : Int) ≤ 6) : i.toInt + 1 < 115 ∧ n + 1 ≤ 6 ∧ n + 1 + ((z_dd (A + (n + 1)).toNat : Nat) : Int) ≤ 6 := by
  have h4 : i.toNatClampNeg = i.toInt.toNat := rfl
  have h5 := h i.toNatClampNeg (by omega) (by rw [← e]; exact hz)
  have h6 : (A + n).toNat = i.toNatClampNeg := by omega
  have h7 : (A + (n + 1)).toNat = i.toNatClampNeg + 1 := by omega
  rw [h6] at hF
  rw [h7]
  omega
