theorem z_lmulpos {x y : Int64} (h1 : 1 ≤ x.toInt) (h2 : x.toInt ≤ 2147483648) (h3 : 1 ≤ y.toInt) (h4 : y.toInt ≤ 2147483648) : 1 ≤ (x * y).toInt := by
  rw [Int64.toInt_mul]
  have h5 : x.toInt * y.toInt ≤ 2147483648 * 2147483648 := Int.mul_le_mul h2 h4 (by omega) (by decide)
  have h6 : 1 * 1 ≤ x.toInt * y.toInt := Int.mul_le_mul h1 h3 (by decide) (by omega)
  rw [Int.bmod_eq_of_le (by omega) (by omega)]
  omega
theorem z_nc {x : Int32} (h : 0 ≤ x.toInt) : ((x.toNatClampNeg : Nat) : Int) = x.toInt := by
  have : x.toNatClampNeg = x.toInt.toNat := rfl
  omega
def z_fin (fk fl fr : Nat → Int32) (lo hi : Int) (a : Nat) : Prop := (fk a).toInt ≠ 0 → (fk a).toInt ≠ 15 → (lo ≤ (fl a).toInt ∧ (fl a).toInt ≤ hi ∧ ((fk a).toInt ≠ 14 → (fk a).toInt ≠ 11 → lo ≤ (fr a).toInt ∧ (fr a).toInt ≤ hi))
def z_low (fk fl fr fg cf cm : Nat → Int32) (kn ca : Int) : Prop := (∀ j : Nat, (j : Int) < kn → 0 ≤ (fg j).toInt ∧ (fg j).toInt ≤ 95 ∧ z_fin fk fl fr 0 95 (fg j).toNatClampNeg) ∧ (∀ c : Nat, (c : Int) < ca → 0 ≤ (cf c).toInt ∧ 0 ≤ (cm c).toInt ∧ (cf c).toInt + (cm c).toInt ≤ kn)
theorem z_low_c {fk fl fr fg cf cm : Nat → Int32} {kn ca : Int} (h : z_low fk fl fr fg cf cm kn ca) {c : Int32} (h0 : 0 ≤ c.toInt) (h1 : c.toInt < ca) : 0 ≤ (cf c.toNatClampNeg).toInt ∧ 0 ≤ (cm c.toNatClampNeg).toInt ∧ (cf c.toNatClampNeg).toInt + (cm c.toNatClampNeg).toInt ≤ kn := h.2 _ (by rw [z_nc h0]; exact h1)
theorem z_low_g {fk fl fr fg cf cm : Nat → Int32} {kn ca : Int} (h : z_low fk fl fr fg cf cm kn ca) {i z : Int32} (e : z = fg i.toNatClampNeg) (h0 : 0 ≤ i.toInt) (h1 : i.toInt < kn) : 0 ≤ z.toInt ∧ z.toInt ≤ 95 ∧ z_fin fk fl fr 0 95 z.toNatClampNeg := by
  rw [e]
  exact h.1 _ (by rw [z_nc h0]; exact h1)
theorem z_fin_k {fk fl fr : Nat → Int32} {lo hi : Int} {a : Nat} {k : Int32} (h : z_fin fk fl fr lo hi a) (e : k = fk a) : k.toInt ≠ 0 → k.toInt ≠ 15 → (lo ≤ (fl a).toInt ∧ (fl a).toInt ≤ hi ∧ (k.toInt ≠ 14 → k.toInt ≠ 11 → lo ≤ (fr a).toInt ∧ (fr a).toInt ≤ hi)) := by
  rw [e]
  exact h
