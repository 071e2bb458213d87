def z_relm (s a b : Int32) : Prop := (0 ≤ a.toInt ∧ a.toInt ≤ 79) ∧ (s.toInt ≠ 9 → a.toInt ≤ 11) ∧ (s.toInt ≤ 2 → 0 ≤ b.toInt ∧ b.toInt ≤ 11)
theorem z_relm_upd {fs fa fb : Nat → Int32} {k : Nat} {s a b : Int32} (h : ∀ j : Nat, z_relm (fs j) (fa j) (fb j)) (hx : z_relm s a b) : ∀ j : Nat, z_relm (upd fs k s j) (upd fa k a j) (upd fb k b j) := by
  intro j
  unfold upd
  by_cases e : j = k
  · rw [if_pos e, if_pos e, if_pos e]; exact hx
  · rw [if_neg e, if_neg e, if_neg e]; exact h j
