theorem z_cellc {cA : ClassId} {n : Nat} {f g : Nat → Int32} (h : ∀ j : Nat, j < n → f j = g j) : vp_cell cA (n, .inl f) = vp_cell cA (n, .inl g) := by
  show arrV cA n (fun j => .int (f j)) = arrV cA n (fun j => .int (g j))
  unfold arrV
  have e : (fun (j : Fin n) => Value.int (f j.val)) = (fun (j : Fin n) => Value.int (g j.val)) := funext (fun j => by rw [h j.val j.isLt])
  rw [e]
theorem z_recell {D : va_G} {cl : List vw_C} {ws : va_W} {H : Heap} {a : Nat} {cA : ClassId} {n : Nat} {f : Nat → Int32} (g : Nat → Int32) (hP : va_P D cl ws H) (k : Nat) (hk : ws[k]? = some (a, .inl (cA, n, .inl f))) (h : ∀ j : Nat, j < n → f j = g j) : va_P D cl (ws.set k (a, .inl (cA, n, .inl g))) H := by
  intro i q hi
  by_cases e : k = i
  · subst e
    rw [List.getElem?_set_self (List.getElem?_eq_some_iff.mp hk).1] at hi
    cases hi
    have h1 : H[a]? = some (vp_cell cA (n, .inl f)) := hP k _ hk
    show H[a]? = some (vp_cell cA (n, .inl g))
    rw [h1, z_cellc h]
  · rw [List.getElem?_set_ne e] at hi
    exact hP i q hi
theorem z_redell {A : Nat → Prop} {ws : va_W} {a : Nat} {e0 : va_E} (e1 : va_E) (hD : va_D A ws) (k : Nat) (hk : ws[k]? = some (a, e0)) : va_D A (ws.set k (a, e1)) := by
  have key : ∀ (i : Nat) (q : Nat × va_E), (ws.set k (a, e1))[i]? = some q → ∃ q0 : Nat × va_E, ws[i]? = some q0 ∧ q0.1 = q.1 := by
    intro i q hi
    by_cases e : k = i
    · subst e
      rw [List.getElem?_set_self (List.getElem?_eq_some_iff.mp hk).1] at hi
      cases hi
      exact ⟨_, hk, rfl⟩
    · rw [List.getElem?_set_ne e] at hi
      exact ⟨q, hi, rfl⟩
  refine ⟨fun i j p q hi hj hpq => ?_, fun i q hi => ?_⟩
  · obtain ⟨p0, h1, h2⟩ := key i p hi
    obtain ⟨q0, h3, h4⟩ := key j q hj
    exact hD.1 i j p0 q0 h1 h3 (by rw [h2, h4]; exact hpq)
  · obtain ⟨q0, h1, h2⟩ := key i q hi
    rw [← h2]
    exact hD.2 i q0 h1
def z_words : Nat → Int32 := fun j => ([108, 101, 102, 116, 32, 114, 105, 103, 104, 116, 32, 119, 104, 111, 108, 101, 32, 98, 114, 111, 107, 101, 110, 32, 98, 117, 114, 110, 116, 32, 103, 110, 97, 119, 101, 100, 32, 99, 97, 117, 115, 101, 32, 111, 114, 32, 97, 110, 100, 32, 110, 111, 116, 32, 116, 104, 101, 110, 32, 115, 105, 122, 101, 32, 97, 103, 101, 32, 103, 114, 111, 119, 116, 104, 32, 100, 97, 121, 115, 32, 115, 101, 97, 115, 111, 110, 32, 114, 97, 110, 107, 32, 108, 111, 115, 116, 32, 104, 111, 108, 100, 115, 32, 110, 117, 109, 98, 101, 114, 32, 102, 111, 111, 100, 32] : List Int32).getD j 0
def z_wk (n : Nat) : Nat → Int32 := fun j => if j < n then z_words j else 0
theorem z_wk0 : (fun _ => 0) = z_wk 0 := funext fun j => (if_neg (Nat.not_lt_zero j)).symm
theorem z_wks {i c : Int32} {k : Nat} (hi : i.toNatClampNeg = k) (hc : c = z_words k) : upd (z_wk k) i.toNatClampNeg c = z_wk (k + 1) := by
  rw [hi]
  funext j
  by_cases h : j = k
  · subst h
    rw [z_us, hc]
    exact (if_pos (Nat.lt_succ_self j)).symm
  · show (if j = k then c else z_wk k j) = z_wk (k + 1) j
    rw [if_neg h]
    by_cases q : j < k
    · exact (if_pos q).trans (if_pos (Nat.lt_succ_of_lt q)).symm
    · exact (if_neg q).trans (if_neg (by omega)).symm
