theorem z_min {x y z : Int32} (e : z = if y < x then y else x) : (z.toInt = x.toInt ∨ z.toInt = y.toInt) ∧ z.toInt ≤ x.toInt ∧ z.toInt ≤ y.toInt := by
  by_cases h : y < x
  · rw [if_pos h] at e
    have := z_lt h
    subst e
    omega
  · rw [if_neg h] at e
    have := z_nlt h
    subst e
    omega
theorem z_max {x y z : Int32} (e : z = if x < y then y else x) : (z.toInt = x.toInt ∨ z.toInt = y.toInt) ∧ z.toInt ≥ x.toInt ∧ z.toInt ≥ y.toInt := by
  by_cases h : x < y
  · rw [if_pos h] at e
    have := z_lt h
    subst e
    omega
  · rw [if_neg h] at e
    have := z_nlt h
    subst e
    omega
theorem z_div {x : Int32} {c : Int32} (h0 : 0 ≤ x.toInt) (hc : 0 < c.toInt) : (x / c).toInt = x.toInt / c.toInt := by
  rw [Int32.toInt_div]
  rw [Int.tdiv_eq_ediv_of_nonneg h0]
  have h1 : 0 ≤ x.toInt / c.toInt := Int.ediv_nonneg h0 (Int.le_of_lt hc)
  have h2 : x.toInt / c.toInt ≤ x.toInt := Int.ediv_le_self _ h0
  have h3 := Int32.toInt_lt x
  exact Int.bmod_eq_of_le (by omega) (by omega)
theorem z_and (x : Int32) {m : Int32} (k : Nat) (hm : m.toBitVec.toNat = 2 ^ k - 1) (hk : k ≤ 30) : (0 : Int) ≤ (x &&& m).toInt ∧ (x &&& m).toInt ≤ ((2 ^ k - 1 : Nat) : Int) := by
  obtain ⟨j, hj, e⟩ := pk_andE x k hm
  have h30 : 2 ^ k ≤ 2 ^ 30 := Nat.pow_le_pow_right (by decide) hk
  rw [e, nI_toInt (by omega)]
  omega
theorem z_i2l (x : Int32) : (x.toInt64).toInt = x.toInt := Int32.toInt_toInt64 x
theorem z_rng (x : Int32) : -2147483648 ≤ x.toInt ∧ x.toInt < 2147483648 := by
  have h1 := Int32.le_toInt x
  have h2 := Int32.toInt_lt x
  omega
theorem z_gr {big : List Cond} (ws : List Cond) (ps : List Nat) (hp : ps.map (fun i => big[i]?) = ws.map some) (hg : ws.all goodWord = true) : GoodIn big ws := by
  intro w hw
  obtain ⟨k, hk⟩ := List.getElem?_of_mem hw
  have h1 : (ps.map (fun i => big[i]?))[k]? = some (some w) := by rw [hp, List.getElem?_map, hk]; rfl
  rw [List.getElem?_map] at h1
  cases hi : ps[k]? with
  | none => rw [hi] at h1; cases h1
  | some i => rw [hi] at h1; exact ⟨List.mem_of_getElem? (Option.some.inj h1), good_of_word (List.all_eq_true.mp hg w hw)⟩
