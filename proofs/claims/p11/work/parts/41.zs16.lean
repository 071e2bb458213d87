def z_wd (f : Nat → Int32) : Prop := ∃ dd : Nat → Nat, (∀ j : Nat, dd j ≤ 6) ∧ ∀ j : Nat, j < 115 → (f j).toInt ≠ 32 → j + 1 < 115 ∧ dd j = dd (j + 1) + 1
theorem z_dd_s {f : Nat → Int32} {dd : Nat → Nat} (h : ∀ j : Nat, j < 115 → (f j).toInt ≠ 32 → j + 1 < 115 ∧ dd j = dd (j + 1) + 1) {i z : Int32} (e : z = f i.toNatClampNeg) (hz : z.toInt ≠ 32) (h0 : 0 ≤ i.toInt) (h1 : i.toInt < 115) {A n : Int} (hi : i.toInt = A + n) (hF : n + ((dd (A + n).toNat : Nat) : Int) ≤ 6) : i.toInt + 1 < 115 ∧ n + 1 ≤ 6 ∧ n + 1 + ((dd (A + (n + 1)).toNat : Nat) : Int) ≤ 6 := by
  have h4 : i.toNatClampNeg = i.toInt.toNat := rfl
  have h5 := h i.toNatClampNeg (by omega) (by rw [← e]; exact hz)
  have h6 : (A + n).toNat = i.toNatClampNeg := by omega
  have h7 : (A + (n + 1)).toNat = i.toNatClampNeg + 1 := by omega
  rw [h6] at hF
  rw [h7]
  omega
def z_tk8 (kd nx pl : Int) : Prop := (kd = 1 ∨ kd = 2) → nx ≤ pl + 8
def z_tkw (wh kd : Int) : Prop := kd ≠ 0 → kd ≠ 2 → kd ≠ 5 → 0 ≤ wh
