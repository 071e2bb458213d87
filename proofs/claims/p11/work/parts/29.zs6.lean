theorem z_relm_upd2 {fs fa fb : Nat → Int32} {k : Nat} {s a : Int32} (h : ∀ j : Nat, z_relm (fs j) (fa j) (fb j)) (hx : ∀ b : Int32, z_relm s a b) : ∀ j : Nat, z_relm (upd fs k s j) (upd fa k a j) (fb j) := by
  intro j
  unfold upd
  by_cases e : j = k
  · rw [if_pos e, if_pos e]; exact hx _
  · rw [if_neg e, if_neg e]; exact h j
theorem z_topeq {p : Program} {l : Launch} {e : Env} {R : Room} {s : State} {m : MethodId} {args : Array Value} {below : List Frame} {meth : Method} {c : Code} {H : Heap} {locs : List Loc} {cells slots : Nat} {Q : State → Prop} {pc : Nat} {ls : Array Slot} {rest : List Value} {x y : Int32} (h : y = x) (k : W p l e R s m args below meth c H locs cells slots Q (F0 m pc ls (.int y :: rest))) : W p l e R s m args below meth c H locs cells slots Q (F0 m pc ls (.int x :: rest)) := h ▸ k
def z_sm (f : Nat → Int32) : Int := (f 0).toInt + (f 1).toInt + (f 2).toInt + (f 3).toInt + (f 4).toInt + (f 5).toInt + (f 6).toInt + (f 7).toInt + (f 8).toInt + (f 9).toInt + (f 10).toInt + (f 11).toInt
theorem z_sm_nn {f : Nat → Int32} (h : ∀ j : Nat, ((0 : Int) ≤ (f j).toInt ∧ (f j).toInt ≤ (11 : Int))) : (0 : Int) ≤ z_sm f := by
  have h0 := h 0; have h1 := h 1; have h2 := h 2; have h3 := h 3; have h4 := h 4; have h5 := h 5; have h6 := h 6; have h7 := h 7; have h8 := h 8; have h9 := h 9; have h10 := h 10; have h11 := h 11
  unfold z_sm
  omega
theorem z_sm_upd {f : Nat → Int32} {k : Nat} {x v : Int32} (hk : k < 12) (hv : f k = v) : z_sm (upd f k x) = z_sm f - v.toInt + x.toInt := by
  subst hv
  rcases (show k = 0 ∨ k = 1 ∨ k = 2 ∨ k = 3 ∨ k = 4 ∨ k = 5 ∨ k = 6 ∨ k = 7 ∨ k = 8 ∨ k = 9 ∨ k = 10 ∨ k = 11 by omega) with rfl | rfl | rfl | rfl | rfl | rfl | rfl | rfl | rfl | rfl | rfl | rfl <;> (first | (simp [z_sm, upd]; omega) | simp [z_sm, upd])
theorem z_upd_ne {f : Nat → Int32} {i j : Nat} {x a b : Int32} (ha : a = f i) (hb : b = f j) (h : a.toInt ≠ b.toInt) : upd f i x j = b := by
  unfold upd
  by_cases e : j = i
  · exact absurd (by rw [ha, hb, e]) h
  · rw [if_neg e, hb]
theorem z_cl {x : Int32} (h0 : 0 ≤ x.toInt) (h : x.toInt < 12) : x.toNatClampNeg < 12 := by
  have : x.toNatClampNeg = x.toInt.toNat := rfl
  omega
