theorem z_min {x y z : Int32} (e : z = if y < x then y else x) : (z.toInt = x.toInt ∨ z.toInt = y.toInt) ∧ z.toInt ≤ x.toInt ∧ z.toInt ≤ y.toInt := by
  by_cases h : y < x
  · rw [if_pos h] at e
    have := z_lt h
    subst e
    omega
  · rw [if_neg h] at e
    have := z_nlt h
    subst e
    omega
theorem z_max {x y z : Int32} (e : z = if x < y then y else x) : (z.toInt = x.toInt ∨ z.toInt = y.toInt) ∧ z.toInt ≥ x.toInt ∧ z.toInt ≥ y.toInt := by
  by_cases h : x < y
  · rw [if_pos h] at e
    have := z_lt h
    subst e
    omega
  · rw [if_neg h] at e
    have := z_nlt h
    subst e
    omega
theorem z_div {x : Int32} {c : Int32} (h0 : 0 ≤ x.toInt) (hc : 0 < c.toInt) : (x / c).toInt = x.toInt / c.toInt := by
  rw [Int32.toInt_div]
  rw [Int.tdiv_eq_ediv_of_nonneg h0]
  have h1 : 0 ≤ x.toInt / c.toInt := Int.ediv_nonneg h0 (Int.le_of_lt hc)
  have h2 : x.toInt / c.toInt ≤ x.toInt := Int.ediv_le_self _ h0
  have h3 := Int32.toInt_lt x
  exact Int.bmod_eq_of_le (by omega) (by omega)
theorem z_and (x : Int32) {m : Int32} (k : Nat) (hm : m.toBitVec.toNat = 2 ^ k - 1) (hk : k ≤ 30) : (0 : Int) ≤ (x &&& m).toInt ∧ (x &&& m).toInt ≤ ((2 ^ k - 1 : Nat) : Int) := by
  obtain ⟨j, hj, e⟩ := pk_andE x k hm
  have h30 : 2 ^ k ≤ 2 ^ 30 := Nat.pow_le_pow_right (by decide) hk
  rw [e, nI_toInt (by omega)]
  omega
theorem z_i2l (x : Int32) : (x.toInt64).toInt = x.toInt := Int32.toInt_toInt64 x
theorem z_rng (x : Int32) : -2147483648 ≤ x.toInt ∧ x.toInt < 2147483648 := by
  have h1 := Int32.le_toInt x
  have h2 := Int32.toInt_lt x
  omega
theorem z_gr {big : List Cond} (ws : List Cond) (ps : List Nat) (hp : ps.map (fun i => big[i]?) = ws.map some) (hg : ws.all goodWord = true) : GoodIn big ws := by
  intro w hw
  obtain ⟨k, hk⟩ := List.getElem?_of_mem hw
  have h1 : (ps.map (fun i => big[i]?))[k]? = some (some w) := by rw [hp, List.getElem?_map, hk]; rfl
  rw [List.getElem?_map] at h1
  cases hi : ps[k]? with
  | none => rw [hi] at h1; cases h1
  | some i => rw [hi] at h1; exact ⟨List.mem_of_getElem? (Option.some.inj h1), good_of_word (List.all_eq_true.mp hg w hw)⟩
theorem z_mr {x : Cond} {a b : List Cond} (h : x ∈ b) : x ∈ a ++ b := List.mem_append.mpr (Or.inr h)
theorem z_ml {x : Cond} {a b : List Cond} (h : x ∈ a) : x ∈ a ++ b := List.mem_append.mpr (Or.inl h)
theorem z_mc {x c : Cond} {a : List Cond} (h : x ∈ a) : x ∈ c :: a := List.mem_cons.mpr (Or.inr h)
def z_gd (ws : List Cond) : Prop := ∀ w ∈ ws, ((w.onTables && w.keeps) = true ∨ ∃ ty, w = .arrayClass ty)
theorem z_gd0 : z_gd [] := fun _ h => absurd h List.not_mem_nil
theorem z_gdl {ws : List Cond} (h : ws.all goodWord = true) : z_gd ws := fun w hw => good_of_word (List.all_eq_true.mp h w hw)
theorem z_gda {a b : List Cond} (ha : z_gd a) (hb : z_gd b) : z_gd (a ++ b) := fun w h => (List.mem_append.mp h).elim (ha w) (hb w)
theorem z_gdc {a b : List Cond} {c : Cond} (h : (c :: a).all goodWord = true) (hb : z_gd b) : z_gd (c :: (a ++ b)) := fun w hw => (List.mem_cons.mp hw).elim (fun e => z_gdl h w (List.mem_cons.mpr (Or.inl e))) (fun h2 => (List.mem_append.mp h2).elim (fun h3 => z_gdl h w (List.mem_cons.mpr (Or.inr h3))) (hb w))
theorem z_gV {big ws : List Cond} {own C : String} {idx : Nat} {y : MethodName} (h1 : GoodIn big [.methodLink own idx y, .instanceMethod y, .selects C y y, .initialized C]) (h2 : GoodIn big ws) : GoodIn big (wsV own idx C y ws) := fun w h => (List.mem_append.mp (show w ∈ ([.methodLink own idx y, .instanceMethod y, .selects C y y, .initialized C] : List Cond) ++ ws from h)).elim (h1 w) (h2 w)
theorem z_gS {big ws : List Cond} {own : String} {idx : Nat} {y : MethodName} (h1 : GoodIn big [.methodLink own idx y, .static y, .initialized y.cls]) (h2 : GoodIn big ws) : GoodIn big (va_wsS own idx y ws) := fun w h => (List.mem_append.mp (show w ∈ ([.methodLink own idx y, .static y, .initialized y.cls] : List Cond) ++ ws from h)).elim (h1 w) (h2 w)
theorem gdX0 : z_gd wsX00 := z_gdl (by decide +kernel)
theorem gdX1 : z_gd wsX10 := z_gdl (by decide +kernel)
theorem gdX2 : z_gd wsX20 := z_gdl (by decide +kernel)
theorem gdX3 : z_gd wsX30 := z_gdl (by decide +kernel)
theorem gdX4 : z_gd wsX40 := z_gdl (by decide +kernel)
theorem gdX5 : z_gd wsX50 := z_gdl (by decide +kernel)
theorem gdX6 : z_gd wsX60 := z_gdl (by decide +kernel)
theorem gdX7 : z_gd wsX70 := z_gdl (by decide +kernel)
theorem gdX8 : z_gd wsX80 := z_gdl (by decide +kernel)
theorem gdX9 : z_gd wsX90 := z_gdl (by decide +kernel)
theorem gdX10 : z_gd wsX100 := z_gdl (by decide +kernel)
theorem gdX11 : z_gd wsX110 := z_gdl (by decide +kernel)
theorem gdX12 : z_gd wsX120 := z_gdl (by decide +kernel)
