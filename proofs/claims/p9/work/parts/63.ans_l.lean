theorem z_ii {x y : Int32} (h : x.toInt = y.toInt) : x = y := Int32.toInt_inj.mp h
def v_layA (x : Int32) : Int32 := if x.toInt < 12 then x else (-1)
def v_layN (x : Int32) : Int32 := if x.toInt < 12 then x + 1 else x
def v_kiA (k m v : Int32) : Int32 := if (0 ≤ m.toInt ∧ m.toInt ≤ 999 ∧ 1 ≤ v.toInt ∧ v.toInt ≤ 2 ∧ k.toInt < 6) then k else (-1)
def v_kiN (k m v : Int32) : Int32 := if (0 ≤ m.toInt ∧ m.toInt ≤ 999 ∧ 1 ≤ v.toInt ∧ v.toInt ≤ 2 ∧ k.toInt < 6) then k + 1 else k
theorem z_add1 {c : Int32} (h : (0 : Int) ≤ c.toInt ∧ c.toInt ≤ (1000 : Int)) : (c + 1).toInt = c.toInt + 1 := z_add (a := c.toInt) (b := (1 : Int)) rfl rfl (by omega) (by omega)
def f_run (P : Int → Prop) (B : Nat → Int32) (n a b : Int) : Prop := 0 ≤ a ∧ a ≤ b ∧ (∀ j : Nat, a ≤ (j : Int) → (j : Int) < b → (j : Int) < n ∧ P (B j).toInt) ∧ (b < n → ¬ P (B b.toNat).toInt)
theorem f_run_lt {P : Int → Prop} {B : Nat → Int32} {n a b b' : Int} (h : f_run P B n a b) (h' : f_run P B n a b') : ¬ b < b' := by
  intro q
  have h1 := h'.2.2.1 b.toNat (by have := h.1; have := h.2.1; omega) (by have := h.1; have := h.2.1; omega)
  have h2 : ((b.toNat : Nat) : Int) = b := Int.toNat_of_nonneg (by have := h.1; have := h.2.1; omega)
  exact h.2.2.2 (by omega) h1.2
theorem f_run_u {P : Int → Prop} {B : Nat → Int32} {n a b b' : Int} (h : f_run P B n a b) (h' : f_run P B n a b') : b = b' := by
  have h1 := f_run_lt h h'
  have h2 := f_run_lt h' h
  omega
def f_bl (c : Int) : Prop := c = 10 ∨ c = 32
def f_le (c : Int) : Prop := 97 ≤ c ∧ c ≤ 122
def f_di (c : Int) : Prop := 48 ≤ c ∧ c ≤ 57
def f_num (B : Nat → Int32) (s : Nat) : Nat → Int
  | 0 => 0
  | k + 1 => 10 * f_num B s k + (B (s + k)).toInt - 48
def f_nm (B : Nat → Int32) (a b : Int) : Int := f_num B a.toNat (b - a).toNat
theorem f_nm0 {B : Nat → Int32} {a : Int} : f_nm B a a = 0 := by
  unfold f_nm
  rw [show (a - a).toNat = 0 by omega]
  rfl
theorem f_nm1 {B : Nat → Int32} {a b c : Int} (h0 : 0 ≤ a) (h : a ≤ b) (hc : c = b + 1) : f_nm B a c = 10 * f_nm B a b + (B b.toNat).toInt - 48 := by
  unfold f_nm
  rw [show (c - a).toNat = (b - a).toNat + 1 by omega]
  rw [show f_num B a.toNat ((b - a).toNat + 1) = 10 * f_num B a.toNat (b - a).toNat + (B (a.toNat + (b - a).toNat)).toInt - 48 from rfl, show a.toNat + (b - a).toNat = b.toNat by omega]
def f_v (x : Int) : Int := if x ≤ 100000 then x else 100000
def f_W : List (List Int) := [[108, 101, 102, 116], [114, 105, 103, 104, 116], [119, 104, 111, 108, 101], [98, 114, 111, 107, 101, 110], [98, 117, 114, 110, 116], [103, 110, 97, 119, 101, 100]]
def f_ma (B : Nat → Int32) (s m : Int) (w : Nat) : Prop := m - s = ((f_W.getD w []).length : Int) ∧ ∀ j : Nat, j < (f_W.getD w []).length → (B (s.toNat + j)).toInt = (f_W.getD w []).getD j 0
theorem f_W_pos (w : Nat) (h : w < 6) : 0 < (f_W.getD w []).length := (show ∀ w : Nat, w < 6 → 0 < (f_W.getD w []).length by decide) w h
theorem f_W_u (w w' : Nat) (h : w < 6) (h' : w' < 6) (hl : (f_W.getD w []).length = (f_W.getD w' []).length) (h0 : (f_W.getD w []).getD 0 0 = (f_W.getD w' []).getD 0 0) : w = w' := (show ∀ w : Nat, w < 6 → ∀ w' : Nat, w' < 6 → (f_W.getD w []).length = (f_W.getD w' []).length → (f_W.getD w []).getD 0 0 = (f_W.getD w' []).getD 0 0 → w = w' by decide) w h w' h' hl h0
theorem f_ma_u {B : Nat → Int32} {s m : Int} {w w' : Nat} (hw : w < 6) (hw' : w' < 6) (h : f_ma B s m w) (h' : f_ma B s m w') : w = w' := by
  have e1 := h.2 0 (f_W_pos w hw)
  have e2 := h'.2 0 (f_W_pos w' hw')
  refine f_W_u w w' hw hw' ?_ (e1.symm.trans e2)
  have a1 := h.1
  have a2 := h'.1
  omega
def f_wo (B : Nat → Int32) (s m b k v : Int) : Prop :=
  (m < b ∧ m = s + 1 ∧ (B s.toNat).toInt = 107 ∧ k = 1 ∧ v = f_v (f_nm B m b)) ∨
  (m < b ∧ m = s + 1 ∧ (B s.toNat).toInt = 115 ∧ k = 2 ∧ v = f_v (f_nm B m b)) ∨
  (m < b ∧ ¬ (m = s + 1 ∧ ((B s.toNat).toInt = 107 ∨ (B s.toNat).toInt = 115)) ∧ k = 8) ∨
  (m = b ∧ (∃ w : Nat, w < 6 ∧ f_ma B s m w ∧ v = (w : Int)) ∧ k = 3) ∨
  (m = b ∧ (∀ w : Nat, w < 6 → ¬ f_ma B s m w) ∧ k = 8)
def f_sg (c s k b : Int) : Prop := (c = 58 ∧ k = 5 ∧ b = s + 1) ∨ (c = 59 ∧ k = 6 ∧ b = s + 1) ∨ (c = 44 ∧ k = 7 ∧ b = s + 1) ∨ (c ≠ 58 ∧ c ≠ 59 ∧ c ≠ 44 ∧ k = 8)
def f_at (B : Nat → Int32) (n s k v b : Int) : Prop :=
  (n ≤ s ∧ k = 0 ∧ b = s) ∨
  (s < n ∧ f_le (B s.toNat).toInt ∧ (∃ m : Int, f_run f_le B n s m ∧ f_run f_di B n m b ∧ f_wo B s m b k v)) ∨
  (s < n ∧ f_di (B s.toNat).toInt ∧ f_run f_di B n s b ∧ k = 4 ∧ v = f_v (f_nm B s b)) ∨
  (s < n ∧ ¬ f_le (B s.toNat).toInt ∧ ¬ f_di (B s.toNat).toInt ∧ f_sg (B s.toNat).toInt s k b)
def f_tk (B : Nat → Int32) (n a k v b : Int) : Prop := ∃ s : Int, f_run f_bl B n a s ∧ f_at B n s k v b
def f_sm (k v b k' v' b' : Int) : Prop := k = k' ∧ (k ≠ 8 → b = b') ∧ ((k = 1 ∨ k = 2 ∨ k = 3 ∨ k = 4) → v = v')
theorem f_wo_u {B : Nat → Int32} {s m b k v k' v' : Int} (h : f_wo B s m b k v) (h' : f_wo B s m b k' v') : f_sm k v b k' v' b := by
  unfold f_sm
  rcases h with ⟨h1, h2, h3, h4, h5⟩ | ⟨h1, h2, h3, h4, h5⟩ | ⟨h1, h2, h3⟩ | ⟨h1, ⟨w, hw, hm, hv⟩, h3⟩ | ⟨h1, h2, h3⟩ <;> rcases h' with ⟨g1, g2, g3, g4, g5⟩ | ⟨g1, g2, g3, g4, g5⟩ | ⟨g1, g2, g3⟩ | ⟨g1, ⟨w', gw, gm, gv⟩, g3⟩ | ⟨g1, g2, g3⟩
  all_goals first
    | (refine ⟨by omega, fun _ => rfl, fun _ => by omega⟩)
    | (exfalso; omega)
    | (exfalso; exact h2 _ gw gm)
    | (exfalso; exact g2 _ hw hm)
    | (have e := f_ma_u hw gw hm gm; subst e; exact ⟨by omega, fun _ => rfl, fun _ => by omega⟩)
theorem f_sg_u {c s k b k' b' v v' : Int} (h : f_sg c s k b) (h' : f_sg c s k' b') : f_sm k v b k' v' b' := by
  unfold f_sg at h h'
  unfold f_sm
  refine ⟨by omega, fun _ => by omega, fun _ => by omega⟩
theorem f_at_u {B : Nat → Int32} {n s k v b k' v' b' : Int} (h : f_at B n s k v b) (h' : f_at B n s k' v' b') : f_sm k v b k' v' b' := by
  rcases h with ⟨h1, h2, h3⟩ | ⟨h1, h2, m, hm, hd, hw⟩ | ⟨h1, h2, h3, h4, h5⟩ | ⟨h1, h2, h3, h4⟩ <;> rcases h' with ⟨g1, g2, g3⟩ | ⟨g1, g2, m', gm, gd, gw⟩ | ⟨g1, g2, g3, g4, g5⟩ | ⟨g1, g2, g3, g4⟩
  · exact ⟨by omega, fun _ => by omega, fun _ => by omega⟩
  · exfalso; omega
  · exfalso; omega
  · exfalso; omega
  · exfalso; omega
  · have e := f_run_u hm gm
    subst e
    have e2 := f_run_u hd gd
    subst e2
    exact f_wo_u hw gw
  · exfalso; unfold f_le at h2; unfold f_di at g2; omega
  · exact absurd h2 g2
  · exfalso; omega
  · exfalso; unfold f_le at g2; unfold f_di at h2; omega
  · have e := f_run_u h3 g3
    subst e
    exact ⟨by omega, fun _ => rfl, fun _ => by omega⟩
  · exact absurd h2 g3
  · exfalso; omega
  · exact absurd g2 h2
  · exact absurd g2 h3
  · exact f_sg_u h4 g4
theorem f_tk_u {B : Nat → Int32} {n a k v b k' v' b' : Int} (h : f_tk B n a k v b) (h' : f_tk B n a k' v' b') : f_sm k v b k' v' b' := by
  obtain ⟨s, hs, ha⟩ := h
  obtain ⟨s', hs', ha'⟩ := h'
  have e := f_run_u hs hs'
  subst e
  exact f_at_u ha ha'
def f_bit (t p : Int32) : Prop := ((t >>> (p &&& 31)) &&& 1).toInt ≠ 0
def f_set (t p : Int32) : Int32 := t ||| ((1 : Int32) <<< (p &&& 31))
def f_ok (B : Nat → Int32) (n kn : Int) : Nat → Int → Int32 → Int → Prop
  | 0, _, _, _ => False
  | f + 1, q, t, a => ∃ k v b : Int, f_tk B n a k v b ∧ (
      ((q = 0 ∨ q = 6) ∧ k = 1 ∧ v < kn ∧ f_ok B n kn f 1 0 b) ∨
      (q = 1 ∧ k = 2 ∧ v < 4 ∧ f_ok B n kn f 2 0 b) ∨
      (q = 2 ∧ k = 5 ∧ f_ok B n kn f 3 0 b) ∨
      (q = 3 ∧ k = 3 ∧ ¬ f_bit t (Int32.ofInt v) ∧ f_ok B n kn f 4 (f_set t (Int32.ofInt v)) b) ∨
      (q = 4 ∧ k = 4 ∧ v ≤ 999 ∧ f_ok B n kn f 5 t b) ∨
      (q = 5 ∧ k = 7 ∧ f_ok B n kn f 3 t b) ∨
      (q = 5 ∧ k = 6 ∧ f_ok B n kn f 6 0 b) ∨
      ((q = 5 ∨ q = 6) ∧ k = 0))
def f_E (B : Nat → Int32) (n kn q : Int) (t : Int32) (a : Int) : Prop := ∃ f : Nat, f_ok B n kn f q t a
theorem f_E_un {B : Nat → Int32} {n kn q a : Int} {t : Int32} (h : f_E B n kn q t a) : ∃ k v b : Int, f_tk B n a k v b ∧ (
      ((q = 0 ∨ q = 6) ∧ k = 1 ∧ v < kn ∧ f_E B n kn 1 0 b) ∨
      (q = 1 ∧ k = 2 ∧ v < 4 ∧ f_E B n kn 2 0 b) ∨
      (q = 2 ∧ k = 5 ∧ f_E B n kn 3 0 b) ∨
      (q = 3 ∧ k = 3 ∧ ¬ f_bit t (Int32.ofInt v) ∧ f_E B n kn 4 (f_set t (Int32.ofInt v)) b) ∨
      (q = 4 ∧ k = 4 ∧ v ≤ 999 ∧ f_E B n kn 5 t b) ∨
      (q = 5 ∧ k = 7 ∧ f_E B n kn 3 t b) ∨
      (q = 5 ∧ k = 6 ∧ f_E B n kn 6 0 b) ∨
      ((q = 5 ∨ q = 6) ∧ k = 0)) := by
  obtain ⟨f, h⟩ := h
  cases f with
  | zero => exact absurd h (by unfold f_ok; exact id)
  | succ f =>
    unfold f_ok at h
    obtain ⟨k, v, b, ht, h⟩ := h
    refine ⟨k, v, b, ht, ?_⟩
    rcases h with ⟨h1, h2, h3, h4⟩ | ⟨h1, h2, h3, h4⟩ | ⟨h1, h2, h4⟩ | ⟨h1, h2, h3, h4⟩ | ⟨h1, h2, h3, h4⟩ | ⟨h1, h2, h4⟩ | ⟨h1, h2, h4⟩ | h
    · exact Or.inl ⟨h1, h2, h3, f, h4⟩
    · exact Or.inr (Or.inl ⟨h1, h2, h3, f, h4⟩)
    · exact Or.inr (Or.inr (Or.inl ⟨h1, h2, f, h4⟩))
    · exact Or.inr (Or.inr (Or.inr (Or.inl ⟨h1, h2, h3, f, h4⟩)))
    · exact Or.inr (Or.inr (Or.inr (Or.inr (Or.inl ⟨h1, h2, h3, f, h4⟩))))
    · exact Or.inr (Or.inr (Or.inr (Or.inr (Or.inr (Or.inl ⟨h1, h2, f, h4⟩)))))
    · exact Or.inr (Or.inr (Or.inr (Or.inr (Or.inr (Or.inr (Or.inl ⟨h1, h2, f, h4⟩))))))
    · exact Or.inr (Or.inr (Or.inr (Or.inr (Or.inr (Or.inr (Or.inr h))))))
theorem f_E_mk {B : Nat → Int32} {n kn q a k v b : Int} {t : Int32} (ht : f_tk B n a k v b) (h : ((q = 0 ∨ q = 6) ∧ k = 1 ∧ v < kn ∧ f_E B n kn 1 0 b) ∨ (q = 1 ∧ k = 2 ∧ v < 4 ∧ f_E B n kn 2 0 b) ∨ (q = 2 ∧ k = 5 ∧ f_E B n kn 3 0 b) ∨ (q = 3 ∧ k = 3 ∧ ¬ f_bit t (Int32.ofInt v) ∧ f_E B n kn 4 (f_set t (Int32.ofInt v)) b) ∨ (q = 4 ∧ k = 4 ∧ v ≤ 999 ∧ f_E B n kn 5 t b) ∨ (q = 5 ∧ k = 7 ∧ f_E B n kn 3 t b) ∨ (q = 5 ∧ k = 6 ∧ f_E B n kn 6 0 b) ∨ ((q = 5 ∨ q = 6) ∧ k = 0)) : f_E B n kn q t a := by
  rcases h with ⟨h1, h2, h3, f, h4⟩ | ⟨h1, h2, h3, f, h4⟩ | ⟨h1, h2, f, h4⟩ | ⟨h1, h2, h3, f, h4⟩ | ⟨h1, h2, h3, f, h4⟩ | ⟨h1, h2, f, h4⟩ | ⟨h1, h2, f, h4⟩ | h
  · exact ⟨f + 1, by unfold f_ok; exact ⟨k, v, b, ht, Or.inl ⟨h1, h2, h3, h4⟩⟩⟩
  · exact ⟨f + 1, by unfold f_ok; exact ⟨k, v, b, ht, Or.inr (Or.inl ⟨h1, h2, h3, h4⟩)⟩⟩
  · exact ⟨f + 1, by unfold f_ok; exact ⟨k, v, b, ht, Or.inr (Or.inr (Or.inl ⟨h1, h2, h4⟩))⟩⟩
  · exact ⟨f + 1, by unfold f_ok; exact ⟨k, v, b, ht, Or.inr (Or.inr (Or.inr (Or.inl ⟨h1, h2, h3, h4⟩)))⟩⟩
  · exact ⟨f + 1, by unfold f_ok; exact ⟨k, v, b, ht, Or.inr (Or.inr (Or.inr (Or.inr (Or.inl ⟨h1, h2, h3, h4⟩))))⟩⟩
  · exact ⟨f + 1, by unfold f_ok; exact ⟨k, v, b, ht, Or.inr (Or.inr (Or.inr (Or.inr (Or.inr (Or.inl ⟨h1, h2, h4⟩)))))⟩⟩
  · exact ⟨f + 1, by unfold f_ok; exact ⟨k, v, b, ht, Or.inr (Or.inr (Or.inr (Or.inr (Or.inr (Or.inr (Or.inl ⟨h1, h2, h4⟩))))))⟩⟩
  · exact ⟨1, by unfold f_ok; exact ⟨k, v, b, ht, Or.inr (Or.inr (Or.inr (Or.inr (Or.inr (Or.inr (Or.inr (h)))))))⟩⟩
theorem f_E_iff {B : Nat → Int32} {n kn q a k v b : Int} {t : Int32} (ht : f_tk B n a k v b) : f_E B n kn q t a ↔ (((q = 0 ∨ q = 6) ∧ k = 1 ∧ v < kn ∧ f_E B n kn 1 0 b) ∨ (q = 1 ∧ k = 2 ∧ v < 4 ∧ f_E B n kn 2 0 b) ∨ (q = 2 ∧ k = 5 ∧ f_E B n kn 3 0 b) ∨ (q = 3 ∧ k = 3 ∧ ¬ f_bit t (Int32.ofInt v) ∧ f_E B n kn 4 (f_set t (Int32.ofInt v)) b) ∨ (q = 4 ∧ k = 4 ∧ v ≤ 999 ∧ f_E B n kn 5 t b) ∨ (q = 5 ∧ k = 7 ∧ f_E B n kn 3 t b) ∨ (q = 5 ∧ k = 6 ∧ f_E B n kn 6 0 b) ∨ ((q = 5 ∨ q = 6) ∧ k = 0)) := by
  refine ⟨fun h => ?_, fun h => f_E_mk ht h⟩
  obtain ⟨k', v', b', ht', h⟩ := f_E_un h
  obtain ⟨e1, e2, e3⟩ := f_tk_u ht ht'
  subst e1
  by_cases hk : k = 8
  · exfalso; subst hk; rcases h with ⟨h1, h2, h3⟩ | ⟨h1, h2, h3⟩ | ⟨h1, h2, h3⟩ | ⟨h1, h2, h3⟩ | ⟨h1, h2, h3⟩ | ⟨h1, h2, h3⟩ | ⟨h1, h2, h3⟩ | ⟨h1, h2⟩ <;> omega
  · have e2 := e2 hk
    subst e2
    by_cases hv : k = 1 ∨ k = 2 ∨ k = 3 ∨ k = 4
    · have e3 := e3 hv
      subst e3
      exact h
    · rcases h with ⟨h1, h2, h3⟩ | ⟨h1, h2, h3⟩ | ⟨h1, h2, h3⟩ | ⟨h1, h2, h3⟩ | ⟨h1, h2, h3⟩ | ⟨h1, h2, h3⟩ | ⟨h1, h2, h3⟩ | ⟨h1, h2⟩
      · (exfalso; omega)
      · (exfalso; omega)
      · exact Or.inr (Or.inr (Or.inl ⟨h1, h2, h3⟩))
      · (exfalso; omega)
      · (exfalso; omega)
      · exact Or.inr (Or.inr (Or.inr (Or.inr (Or.inr (Or.inl ⟨h1, h2, h3⟩)))))
      · exact Or.inr (Or.inr (Or.inr (Or.inr (Or.inr (Or.inr (Or.inl ⟨h1, h2, h3⟩))))))
      · exact Or.inr (Or.inr (Or.inr (Or.inr (Or.inr (Or.inr (Or.inr ⟨h1, h2⟩))))))
theorem f_E0 {B : Nat → Int32} {n kn a k v b : Int} {t : Int32} (ht : f_tk B n a k v b) (hk : k = 1) (hv : v < kn) : f_E B n kn 0 t a ↔ f_E B n kn 1 0 b := by
  rw [f_E_iff ht]
  refine ⟨fun g => ?_, fun g => Or.inl ⟨Or.inl rfl, hk, hv, g⟩⟩
  rcases g with ⟨h1, h2, h3⟩ | ⟨h1, h2, h3⟩ | ⟨h1, h2, h3⟩ | ⟨h1, h2, h3⟩ | ⟨h1, h2, h3⟩ | ⟨h1, h2, h3⟩ | ⟨h1, h2, h3⟩ | ⟨h1, h2⟩ <;> first | (exfalso; omega) | exact h3 | exact h3.2
theorem f_E0n {B : Nat → Int32} {n kn a k v b : Int} {t : Int32} (ht : f_tk B n a k v b) (h : ¬ (k = 1 ∧ v < kn)) : ¬ f_E B n kn 0 t a := by
  rw [f_E_iff ht]
  intro g
  rcases g with ⟨h1, h2, h3⟩ | ⟨h1, h2, h3⟩ | ⟨h1, h2, h3⟩ | ⟨h1, h2, h3⟩ | ⟨h1, h2, h3⟩ | ⟨h1, h2, h3⟩ | ⟨h1, h2, h3⟩ | ⟨h1, h2⟩ <;> first | omega | exact h ⟨h2, h3.1⟩
theorem f_E1 {B : Nat → Int32} {n kn a k v b : Int} {t : Int32} (ht : f_tk B n a k v b) (hk : k = 2) (hv : v < 4) : f_E B n kn 1 t a ↔ f_E B n kn 2 0 b := by
  rw [f_E_iff ht]
  refine ⟨fun g => ?_, fun g => Or.inr (Or.inl ⟨rfl, hk, hv, g⟩)⟩
  rcases g with ⟨h1, h2, h3⟩ | ⟨h1, h2, h3⟩ | ⟨h1, h2, h3⟩ | ⟨h1, h2, h3⟩ | ⟨h1, h2, h3⟩ | ⟨h1, h2, h3⟩ | ⟨h1, h2, h3⟩ | ⟨h1, h2⟩ <;> first | (exfalso; omega) | exact h3 | exact h3.2
theorem f_E1n {B : Nat → Int32} {n kn a k v b : Int} {t : Int32} (ht : f_tk B n a k v b) (h : ¬ (k = 2 ∧ v < 4)) : ¬ f_E B n kn 1 t a := by
  rw [f_E_iff ht]
  intro g
  rcases g with ⟨h1, h2, h3⟩ | ⟨h1, h2, h3⟩ | ⟨h1, h2, h3⟩ | ⟨h1, h2, h3⟩ | ⟨h1, h2, h3⟩ | ⟨h1, h2, h3⟩ | ⟨h1, h2, h3⟩ | ⟨h1, h2⟩ <;> first | omega | exact h ⟨h2, h3.1⟩
theorem f_E2 {B : Nat → Int32} {n kn a k v b : Int} {t : Int32} (ht : f_tk B n a k v b) (hk : k = 5) : f_E B n kn 2 t a ↔ f_E B n kn 3 0 b := by
  rw [f_E_iff ht]
  refine ⟨fun g => ?_, fun g => Or.inr (Or.inr (Or.inl ⟨rfl, hk, g⟩))⟩
  rcases g with ⟨h1, h2, h3⟩ | ⟨h1, h2, h3⟩ | ⟨h1, h2, h3⟩ | ⟨h1, h2, h3⟩ | ⟨h1, h2, h3⟩ | ⟨h1, h2, h3⟩ | ⟨h1, h2, h3⟩ | ⟨h1, h2⟩ <;> first | (exfalso; omega) | exact h3 | exact h3.2
theorem f_E3 {B : Nat → Int32} {n kn a k v b : Int} {t : Int32} (ht : f_tk B n a k v b) (hk : k = 3) (hv : ¬ f_bit t (Int32.ofInt v)) : f_E B n kn 3 t a ↔ f_E B n kn 4 (f_set t (Int32.ofInt v)) b := by
  rw [f_E_iff ht]
  refine ⟨fun g => ?_, fun g => Or.inr (Or.inr (Or.inr (Or.inl ⟨rfl, hk, hv, g⟩)))⟩
  rcases g with ⟨h1, h2, h3⟩ | ⟨h1, h2, h3⟩ | ⟨h1, h2, h3⟩ | ⟨h1, h2, h3⟩ | ⟨h1, h2, h3⟩ | ⟨h1, h2, h3⟩ | ⟨h1, h2, h3⟩ | ⟨h1, h2⟩ <;> first | (exfalso; omega) | exact h3 | exact h3.2
theorem f_E3n {B : Nat → Int32} {n kn a k v b : Int} {t : Int32} (ht : f_tk B n a k v b) (h : ¬ (k = 3 ∧ ¬ f_bit t (Int32.ofInt v))) : ¬ f_E B n kn 3 t a := by
  rw [f_E_iff ht]
  intro g
  rcases g with ⟨h1, h2, h3⟩ | ⟨h1, h2, h3⟩ | ⟨h1, h2, h3⟩ | ⟨h1, h2, h3⟩ | ⟨h1, h2, h3⟩ | ⟨h1, h2, h3⟩ | ⟨h1, h2, h3⟩ | ⟨h1, h2⟩ <;> first | omega | exact h ⟨h2, h3.1⟩
theorem f_E4 {B : Nat → Int32} {n kn a k v b : Int} {t : Int32} (ht : f_tk B n a k v b) (hk : k = 4) (hv : v ≤ 999) : f_E B n kn 4 t a ↔ f_E B n kn 5 t b := by
  rw [f_E_iff ht]
  refine ⟨fun g => ?_, fun g => Or.inr (Or.inr (Or.inr (Or.inr (Or.inl ⟨rfl, hk, hv, g⟩))))⟩
  rcases g with ⟨h1, h2, h3⟩ | ⟨h1, h2, h3⟩ | ⟨h1, h2, h3⟩ | ⟨h1, h2, h3⟩ | ⟨h1, h2, h3⟩ | ⟨h1, h2, h3⟩ | ⟨h1, h2, h3⟩ | ⟨h1, h2⟩ <;> first | (exfalso; omega) | exact h3 | exact h3.2
theorem f_E4n {B : Nat → Int32} {n kn a k v b : Int} {t : Int32} (ht : f_tk B n a k v b) (h : ¬ (k = 4 ∧ v ≤ 999)) : ¬ f_E B n kn 4 t a := by
  rw [f_E_iff ht]
  intro g
  rcases g with ⟨h1, h2, h3⟩ | ⟨h1, h2, h3⟩ | ⟨h1, h2, h3⟩ | ⟨h1, h2, h3⟩ | ⟨h1, h2, h3⟩ | ⟨h1, h2, h3⟩ | ⟨h1, h2, h3⟩ | ⟨h1, h2⟩ <;> first | omega | exact h ⟨h2, h3.1⟩
theorem f_E5c {B : Nat → Int32} {n kn a k v b : Int} {t : Int32} (ht : f_tk B n a k v b) (hk : k = 7) : f_E B n kn 5 t a ↔ f_E B n kn 3 t b := by
  rw [f_E_iff ht]
  refine ⟨fun g => ?_, fun g => Or.inr (Or.inr (Or.inr (Or.inr (Or.inr (Or.inl ⟨rfl, hk, g⟩)))))⟩
  rcases g with ⟨h1, h2, h3⟩ | ⟨h1, h2, h3⟩ | ⟨h1, h2, h3⟩ | ⟨h1, h2, h3⟩ | ⟨h1, h2, h3⟩ | ⟨h1, h2, h3⟩ | ⟨h1, h2, h3⟩ | ⟨h1, h2⟩ <;> first | (exfalso; omega) | exact h3 | exact h3.2
theorem f_E5s {B : Nat → Int32} {n kn a k v b : Int} {t : Int32} (ht : f_tk B n a k v b) (hk : k = 6) : f_E B n kn 5 t a ↔ f_E B n kn 6 0 b := by
  rw [f_E_iff ht]
  refine ⟨fun g => ?_, fun g => Or.inr (Or.inr (Or.inr (Or.inr (Or.inr (Or.inr (Or.inl ⟨rfl, hk, g⟩))))))⟩
  rcases g with ⟨h1, h2, h3⟩ | ⟨h1, h2, h3⟩ | ⟨h1, h2, h3⟩ | ⟨h1, h2, h3⟩ | ⟨h1, h2, h3⟩ | ⟨h1, h2, h3⟩ | ⟨h1, h2, h3⟩ | ⟨h1, h2⟩ <;> first | (exfalso; omega) | exact h3 | exact h3.2
theorem f_E5e {B : Nat → Int32} {n kn a k v b : Int} {t : Int32} (ht : f_tk B n a k v b) (hk : k = 0) : f_E B n kn 5 t a := f_E_mk ht (Or.inr (Or.inr (Or.inr (Or.inr (Or.inr (Or.inr (Or.inr ⟨Or.inl rfl, hk⟩)))))))
theorem f_E6e {B : Nat → Int32} {n kn a k v b : Int} {t : Int32} (ht : f_tk B n a k v b) (hk : k = 0) : f_E B n kn 6 t a := f_E_mk ht (Or.inr (Or.inr (Or.inr (Or.inr (Or.inr (Or.inr (Or.inr ⟨Or.inr rfl, hk⟩)))))))
def f_pre (P : Int → Prop) (B : Nat → Int32) (n a b : Int) : Prop := 0 ≤ a ∧ a ≤ b ∧ (∀ j : Nat, a ≤ (j : Int) → (j : Int) < b → (j : Int) < n ∧ P (B j).toInt)
theorem f_pre0 {P : Int → Prop} {B : Nat → Int32} {n a : Int} (h : 0 ≤ a) : f_pre P B n a a := ⟨h, Int.le_refl _, fun j h1 h2 => absurd h2 (by omega)⟩
theorem f_pre1 {P : Int → Prop} {B : Nat → Int32} {n a c : Int} {i : Int32} (h : f_pre P B n a i.toInt) (h0 : 0 ≤ i.toInt) (hn : i.toInt < n) (hp : P (B i.toNatClampNeg).toInt) (hc : c = i.toInt + 1) : f_pre P B n a c := by
  refine ⟨h.1, by have := h.2.1; omega, fun j h1 h2 => ?_⟩
  by_cases q : (j : Int) < i.toInt
  · exact h.2.2 j h1 q
  · have h4 : i.toNatClampNeg = i.toInt.toNat := rfl
    have e : j = i.toNatClampNeg := by omega
    rw [e]
    exact ⟨by omega, hp⟩
theorem f_run_of {P : Int → Prop} {B : Nat → Int32} {n a b : Int} (h : f_pre P B n a b) (q : b < n → ¬ P (B b.toNat).toInt) : f_run P B n a b := ⟨h.1, h.2.1, h.2.2, q⟩
theorem f_atb {P : Int → Prop} {r x : Int32} (e : r = x) (h : P r.toInt) : P x.toInt := e ▸ h
theorem f_atn {P : Int → Prop} {r x : Int32} (e : r = x) (h : ¬ P r.toInt) : ¬ P x.toInt := e ▸ h
theorem f_run_self {P : Int → Prop} {B : Nat → Int32} {n a b : Int} (h : f_run P B n a b) : f_run P B n b b := ⟨by have := h.1; have := h.2.1; omega, Int.le_refl _, fun j h1 h2 => absurd h2 (by omega), h.2.2.2⟩
theorem f_run_skip {P : Int → Prop} {B : Nat → Int32} {n a b s : Int} (h : f_run P B n a b) (h' : f_run P B n b s) : s = b := f_run_u h' (f_run_self h)
theorem f_tk_skip {B : Nat → Int32} {n a s k v b : Int} (h : f_run f_bl B n a s) : f_tk B n a k v b ↔ f_tk B n s k v b := by
  refine ⟨fun q => ?_, fun q => ?_⟩
  · obtain ⟨s', h1, h2⟩ := q
    have e := f_run_u h h1
    subst e
    exact ⟨s, f_run_self h, h2⟩
  · obtain ⟨s', h1, h2⟩ := q
    have e := f_run_skip h h1
    subst e
    exact ⟨s', h, h2⟩
theorem f_ok_skip {B : Nat → Int32} {n kn a s : Int} (h : f_run f_bl B n a s) {f : Nat} {q : Int} {t : Int32} : f_ok B n kn f q t a ↔ f_ok B n kn f q t s := by
  cases f with
  | zero => exact Iff.rfl
  | succ f =>
    unfold f_ok
    refine ⟨fun g => ?_, fun g => ?_⟩
    · obtain ⟨k, v, b, h1, h2⟩ := g
      exact ⟨k, v, b, (f_tk_skip h).mp h1, h2⟩
    · obtain ⟨k, v, b, h1, h2⟩ := g
      exact ⟨k, v, b, (f_tk_skip h).mpr h1, h2⟩
theorem f_E_skip {B : Nat → Int32} {n kn a s : Int} (h : f_run f_bl B n a s) {q : Int} {t : Int32} : f_E B n kn q t a ↔ f_E B n kn q t s := ⟨fun ⟨f, g⟩ => ⟨f, (f_ok_skip h).mp g⟩, fun ⟨f, g⟩ => ⟨f, (f_ok_skip h).mpr g⟩⟩
def f_sC (c sg a b : Int) : Prop := (c ≠ 60 → c ≠ 62 → sg = c ∧ b = a + 1) ∧ ((c = 60 ∨ c = 62) → sg ≠ 58 ∧ sg ≠ 59 ∧ sg ≠ 44 ∧ sg ≠ 40 ∧ sg ≠ 41)
def f_C (B : Nat → Int32) (n so sg st en : Int) : Prop := f_run f_bl B n st st ∧ (
  (n ≤ st ∧ so = 0 ∧ sg = -1 ∧ en = st) ∨
  (st < n ∧ f_le (B st.toNat).toInt ∧ so = 1 ∧ sg = -1 ∧ (∃ m : Int, f_run f_le B n st m ∧ f_run f_di B n m en)) ∨
  (st < n ∧ f_di (B st.toNat).toInt ∧ so = 2 ∧ sg = -1 ∧ f_run f_di B n st en) ∨
  (st < n ∧ ¬ f_le (B st.toNat).toInt ∧ ¬ f_di (B st.toNat).toInt ∧ so = 3 ∧ f_sC (B st.toNat).toInt sg st en))
theorem f_C_e {B : Nat → Int32} {n so sg st en a : Int} (h : f_run f_bl B n a st) (h1 : n ≤ st) (h2 : so = 0) (h3 : sg = -1) (h4 : en = st) : f_C B n so sg st en := ⟨f_run_self h, Or.inl ⟨h1, h2, h3, h4⟩⟩
theorem f_C_w {B : Nat → Int32} {n so sg st en a m : Int} (h : f_run f_bl B n a st) (h1 : st < n) (hl : f_le (B st.toNat).toInt) (h2 : so = 1) (h3 : sg = -1) (hm : f_run f_le B n st m) (hd : f_run f_di B n m en) : f_C B n so sg st en := ⟨f_run_self h, Or.inr (Or.inl ⟨h1, hl, h2, h3, m, hm, hd⟩)⟩
theorem f_C_n {B : Nat → Int32} {n so sg st en a : Int} (h : f_run f_bl B n a st) (h1 : st < n) (hl : f_di (B st.toNat).toInt) (h2 : so = 2) (h3 : sg = -1) (hd : f_run f_di B n st en) : f_C B n so sg st en := ⟨f_run_self h, Or.inr (Or.inr (Or.inl ⟨h1, hl, h2, h3, hd⟩))⟩
theorem f_C_s {B : Nat → Int32} {n so sg st en a : Int} (h : f_run f_bl B n a st) (h1 : st < n) (hl : ¬ f_le (B st.toNat).toInt) (hd : ¬ f_di (B st.toNat).toInt) (h2 : so = 3) (h3 : f_sC (B st.toNat).toInt sg st en) : f_C B n so sg st en := ⟨f_run_self h, Or.inr (Or.inr (Or.inr ⟨h1, hl, hd, h2, h3⟩))⟩
theorem f_nm_nn {B : Nat → Int32} {n a b : Int} (h : f_pre f_di B n a b) : 0 ≤ f_nm B a b := by
  have hk : ∀ k : Nat, a + (k : Int) ≤ b → 0 ≤ f_num B a.toNat k := by
    intro k
    induction k with
    | zero => intro _; exact Int.le_refl _
    | succ k ih =>
      intro hb
      have h1 := ih (by omega)
      have h2 := (h.2.2 (a.toNat + k) (by have := h.1; omega) (by have := h.1; omega)).2
      unfold f_di at h2
      unfold f_num
      omega
  exact hk _ (by have := h.2.1; omega)
theorem f_sC_e {r x : Int32} {sg a b : Int} (e : r = x) (h : f_sC r.toInt sg a b) : f_sC x.toInt sg a b := e ▸ h
theorem f_bl_n {r1 r2 x : Int32} (e1 : r1 = x) (e2 : r2 = x) (h1 : r1.toInt ≠ 10) (h2 : r2.toInt ≠ 32) : ¬ f_bl x.toInt := by
  subst e1
  subst e2
  unfold f_bl
  omega
def f_pg (so st en : Int) : Prop := so ≠ 0 → st < en
theorem f_run_pos {P : Int → Prop} {B : Nat → Int32} {n a b : Int} (h : f_run P B n a b) (hn : a < n) (hp : P (B a.toNat).toInt) : a < b := by
  have h1 := h.2.1
  by_cases e : b = a
  · subst e
    exact absurd hp (h.2.2.2 hn)
  · omega
theorem f_C_word {B : Nat → Int32} {n so sg st en : Int} (hC : f_C B n so sg st en) (hl : f_le (B st.toNat).toInt) (hn : st < n) : so = 1 ∧ sg = -1 ∧ (∃ m : Int, f_run f_le B n st m ∧ f_run f_di B n m en) := by
  obtain ⟨hs, h⟩ := hC
  rcases h with ⟨h1, _⟩ | ⟨_, _, h3, h4, h5⟩ | ⟨_, h2, _⟩ | ⟨_, h2, _⟩
  · omega
  · exact ⟨h3, h4, h5⟩
  · exfalso; unfold f_le at hl; unfold f_di at h2; omega
  · exact absurd hl h2
theorem f_C_1 {B : Nat → Int32} {n so sg st en : Int} (hC : f_C B n so sg st en) (h : so = 1) : st < n ∧ f_le (B st.toNat).toInt ∧ (∃ m : Int, f_run f_le B n st m ∧ f_run f_di B n m en) := by
  obtain ⟨hs, g⟩ := hC
  rcases g with ⟨_, h2, _⟩ | ⟨h1, h2, _, _, h5⟩ | ⟨_, _, h3, _⟩ | ⟨_, _, _, h4, _⟩
  · omega
  · exact ⟨h1, h2, h5⟩
  · omega
  · omega
theorem f_nb {B : Nat → Int32} {n so sg st en c kk : Int} (hck : (c = 107 ∧ kk = 1) ∨ (c = 115 ∧ kk = 2)) (hC : f_C B n so sg st en) (h1 : so = 1) (h2 : 2 ≤ en - st) (h3 : (B st.toNat).toInt = c) (h4 : f_di (B (st + 1).toNat).toInt) : f_run f_di B n (st + 1) en ∧ f_tk B n st kk (f_v (f_nm B (st + 1) en)) en := by
  obtain ⟨hn, hl, m, hm, hd⟩ := f_C_1 hC h1
  have p1 := f_run_pos hm hn hl
  have p0 := hm.1
  have e : m = st + 1 := by
    by_cases q : st + 1 < m
    · have g := (hm.2.2.1 (st + 1).toNat (by omega) (by omega)).2
      exfalso; unfold f_le at g; unfold f_di at h4; omega
    · omega
  subst e
  refine ⟨hd, st, hC.1, Or.inr (Or.inl ⟨hn, hl, st + 1, hm, hd, ?_⟩)⟩
  rcases hck with ⟨c1, c2⟩ | ⟨c1, c2⟩
  · exact Or.inl ⟨by omega, rfl, by omega, c2, rfl⟩
  · exact Or.inr (Or.inl ⟨by omega, rfl, by omega, c2, rfl⟩)
theorem f_nbn {B : Nat → Int32} {n so sg st en c kk : Int} (hck : (c = 107 ∧ kk = 1) ∨ (c = 115 ∧ kk = 2)) (hC : f_C B n so sg st en) (h : so ≠ 1 ∨ en - st < 2 ∨ (B st.toNat).toInt ≠ c ∨ ¬ f_di (B (st + 1).toNat).toInt) {k v b : Int} (ht : f_tk B n st k v b) : k ≠ kk := by
  intro hk
  obtain ⟨s', hs, ha⟩ := ht
  have e := f_run_u hs hC.1
  subst e
  have p0 := hs.1
  rcases ha with ⟨_, a2, _⟩ | ⟨a1, a2, m, hm, hd, hw⟩ | ⟨_, _, _, a4, _⟩ | ⟨_, _, _, a4⟩
  · omega
  · obtain ⟨c1, _, m', hm', hd'⟩ := f_C_word hC a2 a1
    have e1 := f_run_u hm hm'
    subst e1
    have e2 := f_run_u hd hd'
    subst e2
    have hq : m < b ∧ m = s' + 1 ∧ (B s'.toNat).toInt = c := by
      rcases hw with ⟨w1, w2, w3, w4, _⟩ | ⟨w1, w2, w3, w4, _⟩ | ⟨_, _, w3⟩ | ⟨_, _, w3⟩ | ⟨_, _, w3⟩ <;> omega
    obtain ⟨q1, q2, q3⟩ := hq
    have q4 := (hd.2.2.1 m.toNat (by omega) (by omega)).2
    rw [q2] at q4
    rcases h with h | h | h | h
    · omega
    · omega
    · exact h q3
    · exact h q4
  · omega
  · unfold f_sg at a4; omega
theorem f_tk_num {B : Nat → Int32} {n so sg st en : Int} (hC : f_C B n so sg st en) (h : so = 2) : f_run f_di B n st en ∧ f_tk B n st 4 (f_v (f_nm B st en)) en := by
  obtain ⟨hs, g⟩ := hC
  rcases g with ⟨_, h2, _⟩ | ⟨_, _, h3, _⟩ | ⟨h1, h2, _, _, h5⟩ | ⟨_, _, _, h4, _⟩
  · omega
  · omega
  · exact ⟨h5, st, hs, Or.inr (Or.inr (Or.inl ⟨h1, h2, h5, rfl, rfl⟩))⟩
  · omega
theorem f_tk_numn {B : Nat → Int32} {n so sg st en k v b : Int} (hC : f_C B n so sg st en) (h : so ≠ 2) (ht : f_tk B n st k v b) : k ≠ 4 := by
  intro hk
  obtain ⟨s', hs, ha⟩ := ht
  have e := f_run_u hs hC.1
  subst e
  obtain ⟨_, g⟩ := hC
  rcases ha with ⟨_, a2, _⟩ | ⟨a1, a2, m, hm, hd, hw⟩ | ⟨a1, a2, _, a4, _⟩ | ⟨_, _, _, a4⟩
  · omega
  · rcases hw with ⟨_, _, _, w4, _⟩ | ⟨_, _, _, w4, _⟩ | ⟨_, _, w3⟩ | ⟨_, _, w3⟩ | ⟨_, _, w3⟩ <;> omega
  · rcases g with ⟨g1, _⟩ | ⟨_, g2, _⟩ | ⟨_, _, g3, _⟩ | ⟨_, _, g3, _⟩
    · omega
    · unfold f_le at g2; unfold f_di at a2; omega
    · exact h g3
    · exact g3 a2
  · unfold f_sg at a4; omega
theorem f_tk_end {B : Nat → Int32} {n so sg st en : Int} (hC : f_C B n so sg st en) (h : so = 0) : f_tk B n st 0 0 en := by
  obtain ⟨hs, g⟩ := hC
  rcases g with ⟨h1, _, _, h4⟩ | ⟨_, _, h3, _⟩ | ⟨_, _, h3, _⟩ | ⟨_, _, _, h4, _⟩
  · exact ⟨st, hs, Or.inl ⟨h1, rfl, h4⟩⟩
  · omega
  · omega
  · omega
theorem f_tk_endn {B : Nat → Int32} {n so sg st en k v b : Int} (hC : f_C B n so sg st en) (h : so ≠ 0) (ht : f_tk B n st k v b) : k ≠ 0 := by
  intro hk
  obtain ⟨s', hs, ha⟩ := ht
  have e := f_run_u hs hC.1
  subst e
  obtain ⟨_, g⟩ := hC
  rcases ha with ⟨a1, _, _⟩ | ⟨a1, a2, m, hm, hd, hw⟩ | ⟨a1, a2, _, a4, _⟩ | ⟨_, _, _, a4⟩
  · rcases g with ⟨_, g2, _⟩ | ⟨g1, _⟩ | ⟨g1, _⟩ | ⟨g1, _⟩
    · exact h g2
    · omega
    · omega
    · omega
  · rcases hw with ⟨_, _, _, w4, _⟩ | ⟨_, _, _, w4, _⟩ | ⟨_, _, w3⟩ | ⟨_, _, w3⟩ | ⟨_, _, w3⟩ <;> omega
  · omega
  · unfold f_sg at a4; omega
theorem f_tk_sig {B : Nat → Int32} {n so sg st en kk : Int} (hC : f_C B n so sg st en) (h : (sg = 58 ∧ kk = 5) ∨ (sg = 59 ∧ kk = 6) ∨ (sg = 44 ∧ kk = 7)) : f_tk B n st kk 0 en := by
  obtain ⟨hs, g⟩ := hC
  rcases g with ⟨_, _, h3, _⟩ | ⟨_, _, _, h4, _⟩ | ⟨_, _, _, h4, _⟩ | ⟨h1, h2, h3, h4, h5⟩
  · omega
  · omega
  · omega
  · refine ⟨st, hs, Or.inr (Or.inr (Or.inr ⟨h1, h2, h3, ?_⟩))⟩
    obtain ⟨q1, q2⟩ := h5
    unfold f_sg
    by_cases e : (B st.toNat).toInt = 60 ∨ (B st.toNat).toInt = 62
    · have := q2 e
      omega
    · have := q1 (by omega) (by omega)
      omega
theorem f_tk_sign {B : Nat → Int32} {n so sg st en kk k v b : Int} (hC : f_C B n so sg st en) (h : (sg ≠ 58 ∧ kk = 5) ∨ (sg ≠ 59 ∧ kk = 6) ∨ (sg ≠ 44 ∧ kk = 7)) (ht : f_tk B n st k v b) : k ≠ kk := by
  intro hk
  obtain ⟨s', hs, ha⟩ := ht
  have e := f_run_u hs hC.1
  subst e
  obtain ⟨_, g⟩ := hC
  rcases ha with ⟨a1, _, _⟩ | ⟨a1, a2, m, hm, hd, hw⟩ | ⟨a1, a2, _, a4, _⟩ | ⟨a1, a2, a3, a4⟩
  · omega
  · rcases hw with ⟨_, _, _, w4, _⟩ | ⟨_, _, _, w4, _⟩ | ⟨_, _, w3⟩ | ⟨_, _, w3⟩ | ⟨_, _, w3⟩ <;> omega
  · omega
  · rcases g with ⟨g1, _⟩ | ⟨_, g2, _⟩ | ⟨_, g2, _⟩ | ⟨_, _, _, _, q1, q2⟩
    · omega
    · exact a2 g2
    · exact a3 g2
    · unfold f_sg at a4
      have := q1 (by omega) (by omega)
      omega
theorem f_dig {B : Nat → Int32} {n a b : Int} {i r : Int32} (h : f_pre f_di B n a b) (h0 : 0 ≤ i.toInt) (h1 : a ≤ i.toInt) (h2 : i.toInt < b) (e : r = B i.toNatClampNeg) : 48 ≤ r.toInt ∧ r.toInt ≤ 57 := by
  have h4 : i.toNatClampNeg = i.toInt.toNat := rfl
  have h3 := (h.2.2 i.toNatClampNeg (by omega) (by omega)).2
  rw [← e] at h3
  exact h3
theorem f_pre_cut {P : Int → Prop} {B : Nat → Int32} {n a b c : Int} (h : f_pre P B n a b) (h1 : a ≤ c) (h2 : c ≤ b) : f_pre P B n a c := ⟨h.1, h1, fun j q1 q2 => h.2.2 j q1 (by omega)⟩
theorem f_v_s {B : Nat → Int32} {n a b c x y : Int} {i r : Int32} (hdg : f_pre f_di B n a b) (h : f_v x = f_v (f_nm B a i.toInt)) (hx : 0 ≤ x) (h0 : a ≤ i.toInt) (h1 : i.toInt < b) (e : r = B i.toNatClampNeg) (hc : c = i.toInt + 1) (hy : (y = 10 * x + r.toInt - 48 ∨ y = 1000000) ∧ y ≤ 10 * x + r.toInt - 48 ∧ y ≤ 1000000) : f_v y = f_v (f_nm B a c) := by
  have ha := hdg.1
  have hd := f_dig hdg (by omega) h0 h1 e
  have hN := f_nm_nn (f_pre_cut hdg h0 (by omega))
  have h4 : i.toNatClampNeg = i.toInt.toNat := rfl
  rw [f_nm1 ha h0 hc, ← h4, ← e]
  generalize f_nm B a i.toInt = N at h hN ⊢
  unfold f_v at h ⊢
  split at h <;> split at h <;> split <;> split <;> omega
def f_nbA (B : Nat → Int32) (n st en kk r : Int) : Prop := (r = -1 ∧ ∀ k v b : Int, f_tk B n st k v b → k ≠ kk) ∨ (0 ≤ r ∧ f_tk B n st kk (f_v r) en)
theorem f_run_pre {P : Int → Prop} {B : Nat → Int32} {n a b : Int} (h : f_run P B n a b) : f_pre P B n a b := ⟨h.1, h.2.1, h.2.2.1⟩
def f_wiT : List Nat := [0, 0, 0, 0, 0, 1, 1, 1, 1, 1, 1, 2, 2, 2, 2, 2, 2, 3, 3, 3, 3, 3, 3, 3, 4, 4, 4, 4, 4, 4, 5, 5, 5, 5, 5, 5, 5, 6]
def f_woT : List Nat := [0, 1, 2, 3, 4, 0, 1, 2, 3, 4, 5, 0, 1, 2, 3, 4, 5, 0, 1, 2, 3, 4, 5, 6, 0, 1, 2, 3, 4, 5, 0, 1, 2, 3, 4, 5, 6, 0]
def f_wI (B : Nat → Int32) (st en : Int) (i : Nat) (w pl sm : Int) : Prop :=
  w = ((f_wiT.getD i 0 : Nat) : Int) ∧ pl = st + ((f_woT.getD i 0 : Nat) : Int) ∧
  (∀ v : Nat, v < f_wiT.getD i 0 → ¬ f_ma B st en v) ∧
  (sm = 1 → ∀ j : Nat, j < f_woT.getD i 0 → st + (j : Int) < en ∧ (B (st.toNat + j)).toInt = (f_W.getD (f_wiT.getD i 0) []).getD j 0) ∧
  (sm = 0 → ∃ j : Nat, j < f_woT.getD i 0 ∧ ¬ (st + (j : Int) < en ∧ (B (st.toNat + j)).toInt = (f_W.getD (f_wiT.getD i 0) []).getD j 0))
theorem f_wI_0 {B : Nat → Int32} {st en : Int} : f_wI B st en 0 0 st 1 := by
  refine ⟨rfl, ?_, ?_, ?_, ?_⟩
  · show st = st + ((0 : Nat) : Int)
    omega
  · intro v hv
    exact absurd hv (Nat.not_lt_zero _)
  · intro _ j hj
    exact absurd hj (Nat.not_lt_zero _)
  · intro h
    exact absurd h (by decide)
theorem f_T1 (i : Nat) (h : i < 37) (hc : i = 36 ∨ (z_chr 0 i).toInt = 32) : f_woT.getD i 0 = (f_W.getD (f_wiT.getD i 0) []).length ∧ f_wiT.getD (i + 1) 0 = f_wiT.getD i 0 + 1 ∧ f_woT.getD (i + 1) 0 = 0 := (show ∀ i : Nat, i < 37 → (i = 36 ∨ (z_chr 0 i).toInt = 32) → f_woT.getD i 0 = (f_W.getD (f_wiT.getD i 0) []).length ∧ f_wiT.getD (i + 1) 0 = f_wiT.getD i 0 + 1 ∧ f_woT.getD (i + 1) 0 = 0 by decide +kernel) i h hc
theorem f_T2 (i : Nat) (h : i < 36) (hc : (z_chr 0 i).toInt ≠ 32) : f_woT.getD i 0 < (f_W.getD (f_wiT.getD i 0) []).length ∧ (f_W.getD (f_wiT.getD i 0) []).getD (f_woT.getD i 0) 0 = (z_chr 0 i).toInt ∧ f_wiT.getD (i + 1) 0 = f_wiT.getD i 0 ∧ f_woT.getD (i + 1) 0 = f_woT.getD i 0 + 1 := (show ∀ i : Nat, i < 36 → (z_chr 0 i).toInt ≠ 32 → f_woT.getD i 0 < (f_W.getD (f_wiT.getD i 0) []).length ∧ (f_W.getD (f_wiT.getD i 0) []).getD (f_woT.getD i 0) 0 = (z_chr 0 i).toInt ∧ f_wiT.getD (i + 1) 0 = f_wiT.getD i 0 ∧ f_woT.getD (i + 1) 0 = f_woT.getD i 0 + 1 by decide +kernel) i h hc
theorem f_T3 (i : Nat) (h : i < 37) : f_wiT.getD i 0 < 6 := (show ∀ i : Nat, i < 37 → f_wiT.getD i 0 < 6 by decide +kernel) i h
theorem f_wI_y {B : Nat → Int32} {st en w q sm : Int} {sx : Nat} {i i' c r pl : Int32} (hs : sx = 0) (e : i' = i + 1) (h0 : 0 ≤ i.toInt) (hn : i.toInt < ((z_len.getD sx 0 : Nat) : Int)) (hc : c = z_chr sx i.toNatClampNeg) (hc32 : c.toInt ≠ 32) (h : f_wI B st en i.toNatClampNeg w pl.toInt sm) (hsm : sm = 1) (hst : 0 ≤ st) (hpe : pl.toInt < en) (hr : r = B pl.toNatClampNeg) (hrc : r.toInt = c.toInt) (hq : q = pl.toInt + 1) : f_wI B st en i'.toNatClampNeg w q 1 := by
  subst hs
  have hl : i.toNatClampNeg < 36 := z_ncl h0 hn
  rw [z_nc1 e h0 (by have : z_len.getD 0 0 = 36 := rfl; omega)]
  generalize i.toNatClampNeg = k at hc h hl ⊢
  subst hc
  obtain ⟨t1, t2, t3, t4⟩ := f_T2 k hl hc32
  obtain ⟨h1, h2, h3, h4, h5⟩ := h
  unfold f_wI
  rw [t3, t4]
  refine ⟨h1, by omega, h3, fun _ j hj => ?_, fun h9 => absurd h9 (by decide)⟩
  by_cases g : j < f_woT.getD k 0
  · exact h4 hsm j g
  · have ej : j = f_woT.getD k 0 := by omega
    subst ej
    refine ⟨by omega, ?_⟩
    have hpn : pl.toNatClampNeg = st.toNat + f_woT.getD k 0 := by
      have h7 : pl.toNatClampNeg = pl.toInt.toNat := rfl
      omega
    rw [← hpn, ← hr, hrc, t2]
theorem f_wI_n {B : Nat → Int32} {st en w q sm : Int} {sx : Nat} {i i' c pl : Int32} (hs : sx = 0) (e : i' = i + 1) (h0 : 0 ≤ i.toInt) (hn : i.toInt < ((z_len.getD sx 0 : Nat) : Int)) (hc : c = z_chr sx i.toNatClampNeg) (hc32 : c.toInt ≠ 32) (h : f_wI B st en i.toNatClampNeg w pl.toInt sm) (hst : 0 ≤ st) (hq : q = pl.toInt + 1) (hw : sm = 0 ∨ en ≤ pl.toInt ∨ ∃ r : Int32, r = B pl.toNatClampNeg ∧ r.toInt ≠ c.toInt) : f_wI B st en i'.toNatClampNeg w q 0 := by
  subst hs
  have hl : i.toNatClampNeg < 36 := z_ncl h0 hn
  rw [z_nc1 e h0 (by have : z_len.getD 0 0 = 36 := rfl; omega)]
  generalize i.toNatClampNeg = k at hc h hl ⊢
  subst hc
  obtain ⟨t1, t2, t3, t4⟩ := f_T2 k hl hc32
  obtain ⟨h1, h2, h3, h4, h5⟩ := h
  unfold f_wI
  rw [t3, t4]
  refine ⟨h1, by omega, h3, fun h9 => absurd h9 (by decide), fun _ => ?_⟩
  rcases hw with hw | hw | ⟨r, hr, hw⟩
  · obtain ⟨j, g1, g2⟩ := h5 hw
    exact ⟨j, by omega, g2⟩
  · exact ⟨f_woT.getD k 0, by omega, fun g => by have := g.1; omega⟩
  · refine ⟨f_woT.getD k 0, by omega, fun g => hw ?_⟩
    have hpn : pl.toNatClampNeg = st.toNat + f_woT.getD k 0 := by
      have h7 : pl.toNatClampNeg = pl.toInt.toNat := rfl
      omega
    rw [hr, hpn, g.2, t2]
theorem f_wI_hit {B : Nat → Int32} {st en w sm pl : Int} {sx : Nat} {i : Int32} (hs : sx = 0) (h0 : 0 ≤ i.toInt) (hn : i.toInt ≤ ((z_len.getD sx 0 : Nat) : Int)) (hc : i.toNatClampNeg = z_len.getD sx 0 ∨ (z_chr sx i.toNatClampNeg).toInt = 32) (h : f_wI B st en i.toNatClampNeg w pl sm) (hsm : sm = 1) (hpe : pl = en) : ∃ v : Nat, v < 6 ∧ f_ma B st en v ∧ w = (v : Int) := by
  subst hs
  have hl : i.toNatClampNeg ≤ 36 := z_ncle hn
  generalize i.toNatClampNeg = k at hc h hl
  obtain ⟨t1, t2, t3⟩ := f_T1 k (by omega) hc
  obtain ⟨h1, h2, h3, h4, h5⟩ := h
  refine ⟨f_wiT.getD k 0, f_T3 k (by omega), ⟨by omega, fun j hj => ?_⟩, h1⟩
  exact (h4 hsm j (by omega)).2
theorem f_wI_b {B : Nat → Int32} {st en w w' sm pl : Int} {sx : Nat} {i i' : Int32} (hs : sx = 0) (e : i' = i + 1) (h0 : 0 ≤ i.toInt) (hn : i.toInt ≤ ((z_len.getD sx 0 : Nat) : Int)) (hc : i.toNatClampNeg = z_len.getD sx 0 ∨ (z_chr sx i.toNatClampNeg).toInt = 32) (h : f_wI B st en i.toNatClampNeg w pl sm) (hw' : w' = w + 1) (hm : sm = 0 ∨ pl ≠ en) : f_wI B st en i'.toNatClampNeg w' st 1 := by
  subst hs
  have hl : i.toNatClampNeg ≤ 36 := z_ncle hn
  rw [z_nc1 e h0 (by have : z_len.getD 0 0 = 36 := rfl; omega)]
  generalize i.toNatClampNeg = k at hc h hl ⊢
  obtain ⟨t1, t2, t3⟩ := f_T1 k (by omega) hc
  obtain ⟨h1, h2, h3, h4, h5⟩ := h
  unfold f_wI
  rw [t2, t3]
  refine ⟨by omega, by omega, fun v hv => ?_, fun _ j hj => absurd hj (Nat.not_lt_zero _), fun h9 => absurd h9 (by decide)⟩
  by_cases g : v < f_wiT.getD k 0
  · exact h3 v g
  · have ev : v = f_wiT.getD k 0 := by omega
    subst ev
    rintro ⟨m1, m2⟩
    rcases hm with hm | hm
    · obtain ⟨j, g1, g2⟩ := h5 hm
      exact g2 ⟨by omega, m2 j (by omega)⟩
    · exact hm (by omega)
theorem f_wI_end {B : Nat → Int32} {st en w sm pl : Int} {sx : Nat} {i : Int32} (hs : sx = 0) (hn : ((z_len.getD sx 0 : Nat) : Int) < i.toInt) (hn2 : i.toInt ≤ ((z_len.getD sx 0 : Nat) : Int) + 1) (h : f_wI B st en i.toNatClampNeg w pl sm) : ∀ v : Nat, v < 6 → ¬ f_ma B st en v := by
  subst hs
  have hk : i.toNatClampNeg = 37 := z_ncn (by have : z_len.getD 0 0 = 36 := rfl; omega)
  rw [hk] at h
  exact fun v hv => h.2.2.1 v hv
def f_wiA (B : Nat → Int32) (n st en r : Int) : Prop := (r = -1 ∧ ∀ k v b : Int, f_tk B n st k v b → k ≠ 3) ∨ (0 ≤ r ∧ r ≤ 5 ∧ f_tk B n st 3 r en)
theorem f_ma_le {B : Nat → Int32} {s m : Int} {w : Nat} (hw : w < 6) (h : f_ma B s m w) (j : Nat) (hj : s + (j : Int) < m) : f_le (B (s.toNat + j)).toInt := by
  have hj2 : j < (f_W.getD w []).length := by have := h.1; omega
  rw [h.2 j hj2]
  exact (show ∀ w : Nat, w < 6 → ∀ j : Nat, j < (f_W.getD w []).length → (97 ≤ (f_W.getD w []).getD j 0 ∧ (f_W.getD w []).getD j 0 ≤ 122) by decide +kernel) w hw j hj2
theorem f_wi_y {B : Nat → Int32} {n so sg st en r : Int} {v : Nat} (hC : f_C B n so sg st en) (h1 : so = 1) (hv : v < 6) (hm : f_ma B st en v) (hr : r = (v : Int)) : f_wiA B n st en r := by
  obtain ⟨hn, hl, m, hmm, hd⟩ := f_C_1 hC h1
  have p0 := hmm.1
  have p1 := hmm.2.1
  have p2 := hd.2.1
  have e : m = en := by
    by_cases q : m < en
    · exfalso
      have g := (hd.2.2.1 m.toNat (by omega) (by omega)).2
      have g2 := f_ma_le hv hm (m - st).toNat (by omega)
      rw [show st.toNat + (m - st).toNat = m.toNat by omega] at g2
      unfold f_le at g2
      unfold f_di at g
      omega
    · omega
  subst e
  exact Or.inr ⟨by omega, by omega, st, hC.1, Or.inr (Or.inl ⟨hn, hl, m, hmm, hd, Or.inr (Or.inr (Or.inr (Or.inl ⟨rfl, ⟨v, hv, hm, hr⟩, rfl⟩)))⟩)⟩
theorem f_wi_n {B : Nat → Int32} {n so sg st en r : Int} (hC : f_C B n so sg st en) (h : so ≠ 1 ∨ ∀ v : Nat, v < 6 → ¬ f_ma B st en v) (hr : r = -1) : f_wiA B n st en r := by
  refine Or.inl ⟨hr, fun k v b ht hk => ?_⟩
  obtain ⟨s', hs, ha⟩ := ht
  have e := f_run_u hs hC.1
  subst e
  rcases ha with ⟨_, a2, _⟩ | ⟨a1, a2, m, hm, hd, hw⟩ | ⟨_, _, _, a4, _⟩ | ⟨_, _, _, a4⟩
  · omega
  · obtain ⟨c1, _, m', hm', hd'⟩ := f_C_word hC a2 a1
    have e1 := f_run_u hm hm'
    subst e1
    have e2 := f_run_u hd hd'
    subst e2
    rcases hw with ⟨_, _, _, w4, _⟩ | ⟨_, _, _, w4, _⟩ | ⟨_, _, w3⟩ | ⟨w1, ⟨v', w2, w3, w5⟩, w4⟩ | ⟨_, _, w3⟩
    · omega
    · omega
    · omega
    · subst w1
      rcases h with h | h
      · exact h c1
      · exact h v' w2 w3
    · omega
  · omega
  · unfold f_sg at a4; omega
theorem f_Ex {B : Nat → Int32} {n kn q a : Int} {t : Int32} (h : ∀ k v b : Int, f_tk B n a k v b → ((q = 0 ∨ q = 6) → k ≠ 1) ∧ (q = 1 → k ≠ 2) ∧ (q = 2 → k ≠ 5) ∧ (q = 3 → k ≠ 3) ∧ (q = 4 → k ≠ 4) ∧ (q = 5 → k ≠ 7 ∧ k ≠ 6) ∧ ((q = 5 ∨ q = 6) → k ≠ 0)) : ¬ f_E B n kn q t a := by
  intro g
  obtain ⟨k, v, b, ht, hd⟩ := f_E_un g
  obtain ⟨a1, a2, a3, a4, a5, a6, a7⟩ := h k v b ht
  rcases hd with ⟨h1, h2, _⟩ | ⟨h1, h2, _⟩ | ⟨h1, h2, _⟩ | ⟨h1, h2, _⟩ | ⟨h1, h2, _⟩ | ⟨h1, h2, _⟩ | ⟨h1, h2, _⟩ | ⟨h1, h2⟩
  · exact a1 h1 h2
  · exact a2 h1 h2
  · exact a3 h1 h2
  · exact a4 h1 h2
  · exact a5 h1 h2
  · exact (a6 h1).1 h2
  · exact (a6 h1).2 h2
  · exact a7 h1 h2
theorem f_E0x {B : Nat → Int32} {n kn a : Int} {t : Int32} (h : ∀ k v b : Int, f_tk B n a k v b → k ≠ 1) : ¬ f_E B n kn 0 t a := f_Ex fun k v b ht => by
  have := h k v b ht
  refine ⟨fun _ => this, ?_, ?_, ?_, ?_, ?_, ?_⟩ <;> omega
theorem f_E1x {B : Nat → Int32} {n kn a : Int} {t : Int32} (h : ∀ k v b : Int, f_tk B n a k v b → k ≠ 2) : ¬ f_E B n kn 1 t a := f_Ex fun k v b ht => by
  have := h k v b ht
  refine ⟨?_, fun _ => this, ?_, ?_, ?_, ?_, ?_⟩ <;> omega
theorem f_E2x {B : Nat → Int32} {n kn a : Int} {t : Int32} (h : ∀ k v b : Int, f_tk B n a k v b → k ≠ 5) : ¬ f_E B n kn 2 t a := f_Ex fun k v b ht => by
  have := h k v b ht
  refine ⟨?_, ?_, fun _ => this, ?_, ?_, ?_, ?_⟩ <;> omega
theorem f_E3x {B : Nat → Int32} {n kn a : Int} {t : Int32} (h : ∀ k v b : Int, f_tk B n a k v b → k ≠ 3) : ¬ f_E B n kn 3 t a := f_Ex fun k v b ht => by
  have := h k v b ht
  refine ⟨?_, ?_, ?_, fun _ => this, ?_, ?_, ?_⟩ <;> omega
theorem f_E4x {B : Nat → Int32} {n kn a : Int} {t : Int32} (h : ∀ k v b : Int, f_tk B n a k v b → k ≠ 4) : ¬ f_E B n kn 4 t a := f_Ex fun k v b ht => by
  have := h k v b ht
  refine ⟨?_, ?_, ?_, ?_, fun _ => this, ?_, ?_⟩ <;> omega
theorem f_E5x {B : Nat → Int32} {n kn a : Int} {t : Int32} (h : ∀ k v b : Int, f_tk B n a k v b → k ≠ 0 ∧ k ≠ 6 ∧ k ≠ 7) : ¬ f_E B n kn 5 t a := f_Ex fun k v b ht => by
  have := h k v b ht
  refine ⟨?_, ?_, ?_, ?_, ?_, fun _ => ⟨this.2.2, this.2.1⟩, fun _ => this.1⟩ <;> omega
theorem f_E6x {B : Nat → Int32} {n kn a : Int} {t t' : Int32} (h : ∀ k v b : Int, f_tk B n a k v b → k ≠ 0) : f_E B n kn 6 t a ↔ f_E B n kn 0 t' a := by
  refine ⟨fun g => ?_, fun g => ?_⟩
  · obtain ⟨k, v, b, ht, hd⟩ := f_E_un g
    have hk := h k v b ht
    rcases hd with ⟨h1, h2, h3⟩ | ⟨h1, h2, _⟩ | ⟨h1, h2, _⟩ | ⟨h1, h2, _⟩ | ⟨h1, h2, _⟩ | ⟨h1, h2, _⟩ | ⟨h1, h2, _⟩ | ⟨h1, h2⟩
    · exact f_E_mk ht (Or.inl ⟨Or.inl rfl, h2, h3⟩)
    all_goals (exfalso; omega)
  · obtain ⟨k, v, b, ht, hd⟩ := f_E_un g
    have hk := h k v b ht
    rcases hd with ⟨h1, h2, h3⟩ | ⟨h1, h2, _⟩ | ⟨h1, h2, _⟩ | ⟨h1, h2, _⟩ | ⟨h1, h2, _⟩ | ⟨h1, h2, _⟩ | ⟨h1, h2, _⟩ | ⟨h1, h2⟩
    · exact f_E_mk ht (Or.inl ⟨Or.inr rfl, h2, h3⟩)
    all_goals (exfalso; omega)
theorem f_E_sk {B : Nat → Int32} {n kn a b s q : Int} {t : Int32} (h : f_run f_bl B n a s) (e : b = a) : f_E B n kn q t b ↔ f_E B n kn q t s := by
  subst e
  exact f_E_skip h
theorem f_tk_lt {B : Nat → Int32} {n so sg st en k v b : Int} (hC : f_C B n so sg st en) (hpg : f_pg so st en) (ht : f_tk B n st k v b) (hk : k ≠ 0) : st < en := hpg fun h0 => hk (f_tk_u (f_tk_end hC h0) ht).1.symm
theorem f_v_lt {r c : Int} (h : r < c) (hc : c ≤ 1000) : f_v r < c := by
  unfold f_v
  split <;> omega
theorem f_v_ge {r c : Int} (h : c ≤ r) (hc : c ≤ 1000) : ¬ f_v r < c := by
  unfold f_v
  split <;> omega
theorem f_nbA_y {B : Nat → Int32} {n st en kk r : Int} (h : f_nbA B n st en kk r) (hr : r ≠ -1) : 0 ≤ r ∧ f_tk B n st kk (f_v r) en := by
  rcases h with h | h
  · exact absurd h.1 hr
  · exact h
theorem f_nbA_n {B : Nat → Int32} {n st en kk r : Int} (h : f_nbA B n st en kk r) (hr : r = -1) : ∀ k v b : Int, f_tk B n st k v b → k ≠ kk := by
  rcases h with h | h
  · exact h.2
  · exact absurd h.1 (by omega)
theorem f_wiA_y {B : Nat → Int32} {n st en r : Int} (h : f_wiA B n st en r) (hr : r ≠ -1) : 0 ≤ r ∧ r ≤ 5 ∧ f_tk B n st 3 r en := by
  rcases h with h | h
  · exact absurd h.1 hr
  · exact h
theorem f_wiA_n {B : Nat → Int32} {n st en r : Int} (h : f_wiA B n st en r) (hr : r = -1) : ∀ k v b : Int, f_tk B n st k v b → k ≠ 3 := by
  rcases h with h | h
  · exact h.2
  · exact absurd h.1 (by omega)
theorem f_not {P Q : Prop} (h : P ↔ Q) (n : ¬ Q) : ¬ P := fun p => n (h.mp p)
theorem f_bit_of {t p z : Int32} {v : Int} (hv : v = p.toInt) (e : z = (t >>> (p &&& 31)) &&& 1) (h : z.toInt ≠ 0) : f_bit t (Int32.ofInt v) := by
  subst hv
  unfold f_bit
  rw [Int32.ofInt_toInt, ← e]
  exact h
theorem f_bit_no {t p z : Int32} {v : Int} (hv : v = p.toInt) (e : z = (t >>> (p &&& 31)) &&& 1) (h : z.toInt = 0) : ¬ f_bit t (Int32.ofInt v) := by
  subst hv
  unfold f_bit
  rw [Int32.ofInt_toInt, ← e]
  exact fun g => g h
theorem f_set_of {t p t' : Int32} {v : Int} (hv : v = p.toInt) (e : t' = t ||| ((1 : Int32) <<< (p &&& 31))) : f_set t (Int32.ofInt v) = t' := by
  subst hv
  unfold f_set
  rw [Int32.ofInt_toInt, ← e]
theorem f_v4y {r N : Int} (e : f_v r = f_v N) (h : r ≤ 999) : f_v N ≤ 999 := by
  rw [← e]
  unfold f_v
  split <;> omega
theorem f_v4n {r N : Int} (e : f_v r = f_v N) (h : 999 < r) : ¬ f_v N ≤ 999 := by
  rw [← e]
  unfold f_v
  split <;> omega
def f_oT : List Nat := [0, 5, 11, 17, 24, 30, 37, 43, 46, 50, 54, 59, 64, 68, 75, 80, 87, 92, 97, 103, 110, 115]
def f_lT : List Nat := [4, 5, 5, 6, 5, 6, 5, 2, 3, 3, 4, 4, 3, 6, 4, 6, 4, 4, 5, 6, 4]
theorem f_O1 (k : Nat) (h : k < 21) : f_oT.getD k 0 + f_lT.getD k 0 < 115 ∧ f_lT.getD k 0 ≤ 6 ∧ (z_words (f_oT.getD k 0 + f_lT.getD k 0)).toInt = 32 ∧ f_oT.getD (k + 1) 0 = f_oT.getD k 0 + f_lT.getD k 0 + 1 := (show ∀ k : Nat, k < 21 → f_oT.getD k 0 + f_lT.getD k 0 < 115 ∧ f_lT.getD k 0 ≤ 6 ∧ (z_words (f_oT.getD k 0 + f_lT.getD k 0)).toInt = 32 ∧ f_oT.getD (k + 1) 0 = f_oT.getD k 0 + f_lT.getD k 0 + 1 by decide +kernel) k h
theorem f_O2 (k : Nat) (h : k < 21) (j : Nat) (hj : j < f_lT.getD k 0) : (z_words (f_oT.getD k 0 + j)).toInt ≠ 32 := (show ∀ k : Nat, k < 21 → ∀ j : Nat, j < f_lT.getD k 0 → (z_words (f_oT.getD k 0 + j)).toInt ≠ 32 by decide +kernel) k h j hj
theorem f_O3 (k : Nat) (h : k < 6) : f_lT.getD k 0 = (f_W.getD k []).length ∧ ∀ j : Nat, j < f_lT.getD k 0 → (z_words (f_oT.getD k 0 + j)).toInt = (f_W.getD k []).getD j 0 := (show ∀ k : Nat, k < 6 → f_lT.getD k 0 = (f_W.getD k []).length ∧ ∀ j : Nat, j < f_lT.getD k 0 → (z_words (f_oT.getD k 0 + j)).toInt = (f_W.getD k []).getD j 0 by decide +kernel) k h
theorem f_O4 (k : Nat) (h : k < 21) : f_oT.getD k 0 < 115 := by
  have := (f_O1 k h).1
  omega
def f_wA (B : Nat → Int32) (s m r : Int) : Prop := (0 ≤ r ∧ r ≤ 5 ∧ f_ma B s m r.toNat) ∨ ((r < 0 ∨ 5 < r) ∧ ∀ w : Nat, w < 6 → ¬ f_ma B s m w)
def f_wO (B : Nat → Int32) (s m k at' : Int) : Prop := 0 ≤ k ∧ k ≤ 21 ∧ at' = ((f_oT.getD k.toNat 0 : Nat) : Int) ∧ ∀ w : Nat, w < 6 → (w : Int) < k → ¬ f_ma B s m w
def f_wN (k n : Int) : Prop := 0 ≤ n ∧ n ≤ ((f_lT.getD k.toNat 0 : Nat) : Int)
def f_wS (B V : Nat → Int32) (s m at' n i sm : Int) : Prop := (sm = 1 → n = m - s ∧ ∀ j : Nat, (j : Int) < i → (V (at'.toNat + j)).toInt = (B (s.toNat + j)).toInt) ∧ (sm = 0 → ¬ (n = m - s ∧ ∀ j : Nat, (j : Int) < n → (V (at'.toNat + j)).toInt = (B (s.toNat + j)).toInt))
theorem f_wO_0 {B : Nat → Int32} {s m : Int} : f_wO B s m 0 0 := ⟨by omega, by omega, rfl, fun w _ h => absurd h (by omega)⟩
theorem f_wO_lt {B : Nat → Int32} {s m k a : Int} (h : f_wO B s m k a) (ha : a < 115) : k < 21 ∧ a + 6 < 121 := by
  obtain ⟨h1, h2, h3, h4⟩ := h
  refine ⟨?_, by omega⟩
  by_cases e : k = 21
  · subst e
    exfalso
    have : f_oT.getD (Int.toNat 21) 0 = 115 := rfl
    omega
  · omega
theorem f_wO_end {B : Nat → Int32} {s m k a : Int} (h : f_wO B s m k a) (ha : 115 ≤ a) : f_wA B s m (-1) := by
  obtain ⟨h1, h2, h3, h4⟩ := h
  have hk : k = 21 := by
    by_cases e : k < 21
    · exfalso
      have := f_O4 k.toNat (by omega)
      omega
    · omega
  exact Or.inr ⟨Or.inl (by omega), fun w hw => h4 w hw (by omega)⟩
theorem f_wN_0 {k : Int} : f_wN k 0 := ⟨by omega, by omega⟩
theorem f_wN_s {B V : Nat → Int32} {s m k a n n' : Int} {i z : Int32} (hV : ∀ j : Nat, j < 115 → V j = z_words j) (h : f_wO B s m k a) (hk : k < 21) (hn : f_wN k n) (hi : i.toInt = a + n) (e : z = V i.toNatClampNeg) (hz : z.toInt ≠ 32) (hn' : n' = n + 1) : f_wN k n' := by
  obtain ⟨h1, h2, h3, h4⟩ := h
  obtain ⟨g1, g2⟩ := hn
  have o1 := f_O1 k.toNat (by omega)
  refine ⟨by omega, ?_⟩
  by_cases q : n = ((f_lT.getD k.toNat 0 : Nat) : Int)
  · exfalso
    have h5 : i.toNatClampNeg = i.toInt.toNat := rfl
    have h6 : i.toNatClampNeg = f_oT.getD k.toNat 0 + f_lT.getD k.toNat 0 := by omega
    rw [e, hV _ (by omega), h6] at hz
    exact hz o1.2.2.1
  · omega
theorem f_wN_b {B : Nat → Int32} {s m k a n : Int} (h : f_wO B s m k a) (hk : k < 21) (hn : f_wN k n) : 0 ≤ n ∧ n ≤ 6 ∧ a + n < 115 ∧ 0 ≤ a := by
  obtain ⟨h1, h2, h3, h4⟩ := h
  obtain ⟨g1, g2⟩ := hn
  have o1 := f_O1 k.toNat (by omega)
  refine ⟨g1, by omega, by omega, by omega⟩
theorem f_wN_e {B V : Nat → Int32} {s m k a n : Int} {i z : Int32} (hV : ∀ j : Nat, j < 115 → V j = z_words j) (h : f_wO B s m k a) (hk : k < 21) (hn : f_wN k n) (hi : i.toInt = a + n) (e : z = V i.toNatClampNeg) (hz : z.toInt = 32) : n = ((f_lT.getD k.toNat 0 : Nat) : Int) := by
  obtain ⟨h1, h2, h3, h4⟩ := h
  obtain ⟨g1, g2⟩ := hn
  have o1 := f_O1 k.toNat (by omega)
  by_cases q : n < ((f_lT.getD k.toNat 0 : Nat) : Int)
  · exfalso
    have h5 : i.toNatClampNeg = i.toInt.toNat := rfl
    have h6 : i.toNatClampNeg = f_oT.getD k.toNat 0 + n.toNat := by omega
    rw [e, hV _ (by omega), h6] at hz
    exact f_O2 k.toNat (by omega) n.toNat (by omega) hz
  · omega
theorem f_wS_0 {B V : Nat → Int32} {s m a n sm : Int} (h1 : sm = 1 → n = m - s) (h0 : sm = 0 → n ≠ m - s) : f_wS B V s m a n 0 sm := ⟨fun q => ⟨h1 q, fun j hj => absurd hj (by omega)⟩, fun q g => h0 q g.1⟩
theorem f_wS_y {B V : Nat → Int32} {s m a n i' sm : Int} {i ia ib x y : Int32} (h : f_wS B V s m a n i.toInt sm) (hsm : sm = 1) (h0 : 0 ≤ i.toInt) (ha : 0 ≤ a) (hs : 0 ≤ s) (hia : ia.toInt = a + i.toInt) (hib : ib.toInt = s + i.toInt) (ex : x = V ia.toNatClampNeg) (ey : y = B ib.toNatClampNeg) (hxy : x.toInt = y.toInt) (hi : i' = i.toInt + 1) : f_wS B V s m a n i' 1 := by
  refine ⟨fun _ => ⟨(h.1 hsm).1, fun j hj => ?_⟩, fun q => absurd q (by decide)⟩
  by_cases g : (j : Int) < i.toInt
  · exact (h.1 hsm).2 j g
  · have e1 : ia.toNatClampNeg = ia.toInt.toNat := rfl
    have e2 : ib.toNatClampNeg = ib.toInt.toNat := rfl
    rw [show a.toNat + j = ia.toNatClampNeg by omega, show s.toNat + j = ib.toNatClampNeg by omega, ← ex, ← ey]
    exact hxy
theorem f_wS_n {B V : Nat → Int32} {s m a n i' sm : Int} {i ia ib x y : Int32} (h : f_wS B V s m a n i.toInt sm) (h0 : 0 ≤ i.toInt) (hn : i.toInt < n) (ha : 0 ≤ a) (hs : 0 ≤ s) (hia : ia.toInt = a + i.toInt) (hib : ib.toInt = s + i.toInt) (ex : x = V ia.toNatClampNeg) (ey : y = B ib.toNatClampNeg) (hxy : x.toInt ≠ y.toInt) : f_wS B V s m a n i' 0 := by
  refine ⟨fun q => absurd q (by decide), fun _ g => hxy ?_⟩
  have h9 := g.2 i.toInt.toNat (by omega)
  have e1 : ia.toNatClampNeg = ia.toInt.toNat := rfl
  have e2 : ib.toNatClampNeg = ib.toInt.toNat := rfl
  rw [show a.toNat + i.toInt.toNat = ia.toNatClampNeg by omega, show s.toNat + i.toInt.toNat = ib.toNatClampNeg by omega, ← ex, ← ey] at h9
  exact h9
theorem f_wS_ma {B V : Nat → Int32} {s m k a n i : Int} (hV : ∀ j : Nat, j < 115 → V j = z_words j) (h : f_wO B s m k a) (hk : k < 6) (hn : n = ((f_lT.getD k.toNat 0 : Nat) : Int)) : (n = m - s ∧ ∀ j : Nat, (j : Int) < n → (V (a.toNat + j)).toInt = (B (s.toNat + j)).toInt) ↔ f_ma B s m k.toNat := by
  obtain ⟨h1, h2, h3, h4⟩ := h
  have o1 := f_O1 k.toNat (by omega)
  obtain ⟨o3, o4⟩ := f_O3 k.toNat (by omega)
  have hV2 : ∀ j : Nat, (j : Int) < n → (V (a.toNat + j)).toInt = (f_W.getD k.toNat []).getD j 0 := fun j hj => by
    rw [hV _ (by omega), show a.toNat + j = f_oT.getD k.toNat 0 + j by omega]
    exact o4 j (by omega)
  refine ⟨fun g => ⟨by omega, fun j hj => ?_⟩, fun g => ⟨by have := g.1; omega, fun j hj => ?_⟩⟩
  · rw [← g.2 j (by omega)]
    exact hV2 j (by omega)
  · rw [hV2 j hj]
    exact (g.2 j (by omega)).symm
theorem f_wS_hit {B V : Nat → Int32} {s m k a n i sm : Int} (hV : ∀ j : Nat, j < 115 → V j = z_words j) (h : f_wO B s m k a) (hk : k < 21) (hn : n = ((f_lT.getD k.toNat 0 : Nat) : Int)) (hS : f_wS B V s m a n i sm) (hsm : sm = 1) (hi : n ≤ i) : f_wA B s m k := by
  have hq := hS.1 hsm
  by_cases q : k < 6
  · exact Or.inl ⟨h.1, by omega, (f_wS_ma (i := i) hV h q hn).mp ⟨hq.1, fun j hj => hq.2 j (by omega)⟩⟩
  · exact Or.inr ⟨Or.inr (by omega), fun w hw => h.2.2.2 w hw (by omega)⟩
theorem f_wS_no {B V : Nat → Int32} {s m k k' a a' n i sm : Int} (hV : ∀ j : Nat, j < 115 → V j = z_words j) (h : f_wO B s m k a) (hk : k < 21) (hn : n = ((f_lT.getD k.toNat 0 : Nat) : Int)) (hS : f_wS B V s m a n i sm) (hsm : sm = 0) (hk' : k' = k + 1) (ha' : a' = a + (n + 1)) : f_wO B s m k' a' := by
  have hq := hS.2 hsm
  have o1 := f_O1 k.toNat (by have := h.1; omega)
  refine ⟨by have := h.1; omega, by omega, ?_, fun w hw hwk => ?_⟩
  · have h3 := h.2.2.1
    rw [show k'.toNat = k.toNat + 1 by have := h.1; omega, o1.2.2.2]
    omega
  · by_cases q : (w : Int) < k
    · exact h.2.2.2 w hw q
    · have e : w = k.toNat := by omega
      subst e
      exact fun g => hq ((f_wS_ma (i := i) hV h (by have := h.1; omega) hn).mpr g)
def f_so (c r : Int) : Prop := (c = 58 → r = 58) ∧ (c = 59 → r = 59) ∧ (c = 44 → r = 44) ∧ (r = 58 → c = 58) ∧ (r = 59 → c = 59) ∧ (r = 44 → c = 44)
theorem f_v_s2 {B : Nat → Int32} {n a c x y : Int} {i r : Int32} (hdg : f_pre f_di B n a i.toInt) (h : f_v x = f_v (f_nm B a i.toInt)) (hx : 0 ≤ x) (hd : f_di (B i.toNatClampNeg).toInt) (e : r = B i.toNatClampNeg) (hc : c = i.toInt + 1) (hy : (99999 < x ∧ y = x) ∨ (x ≤ 99999 ∧ y = 10 * x + r.toInt - 48)) : f_v y = f_v (f_nm B a c) := by
  have ha := hdg.1
  have hai := hdg.2.1
  have hN := f_nm_nn hdg
  have h4 : i.toNatClampNeg = i.toInt.toNat := rfl
  rw [f_nm1 ha hai hc, ← h4, ← e]
  rw [← e] at hd
  unfold f_di at hd
  generalize f_nm B a i.toInt = N at h hN ⊢
  unfold f_v at h ⊢
  rcases hy with ⟨y1, y2⟩ | ⟨y1, y2⟩ <;> (subst y2; split at h <;> split at h <;> split <;> split <;> omega)
def f_M (B : Nat → Int32) (n a kd wh nx : Int) : Prop := ∃ k v b : Int, f_tk B n a k v b ∧ (kd = 6 ↔ k = 1) ∧ (kd = 7 ↔ k = 2) ∧ ((kd = 1 ∧ wh ≤ 5) ↔ k = 3) ∧ (kd = 3 ↔ k = 4) ∧ ((kd = 4 ∧ wh = 58) ↔ k = 5) ∧ ((kd = 4 ∧ wh = 59) ↔ k = 6) ∧ ((kd = 4 ∧ wh = 44) ↔ k = 7) ∧ (kd = 0 ↔ k = 0) ∧ (k ≠ 8 → b = nx) ∧ ((k = 1 ∨ k = 2 ∨ k = 4) → v = f_v wh ∧ 0 ≤ wh) ∧ (k = 3 → v = wh ∧ 0 ≤ wh)
theorem f_M_e {B : Nat → Int32} {n a s wh : Int} (hs : f_run f_bl B n a s) (hn : n ≤ s) : f_M B n a 0 wh s := ⟨0, 0, s, ⟨s, hs, Or.inl ⟨hn, rfl, rfl⟩⟩, by omega, by omega, by omega, by omega, by omega, by omega, by omega, by omega, fun _ => rfl, by omega, by omega⟩
theorem f_M_w {B : Nat → Int32} {n a s m kd wh : Int} (hs : f_run f_bl B n a s) (hn : s < n) (hl : f_le (B s.toNat).toInt) (hm : f_run f_le B n s m) (hd : m < n → ¬ f_di (B m.toNat).toInt) (hw : f_wA B s m wh) (hk : (kd = 1 ∧ 0 ≤ wh) ∨ ((kd = 2 ∨ kd = 5) ∧ wh < 0)) : f_M B n a kd wh m := by
  have hr : f_run f_di B n m m := ⟨by have := hm.1; have := hm.2.1; omega, Int.le_refl _, fun j h1 h2 => absurd h2 (by omega), hd⟩
  rcases hw with ⟨w1, w2, w3⟩ | ⟨w1, w2⟩
  · refine ⟨3, wh, m, ⟨s, hs, Or.inr (Or.inl ⟨hn, hl, m, hm, hr, Or.inr (Or.inr (Or.inr (Or.inl ⟨rfl, ⟨wh.toNat, by omega, w3, by omega⟩, rfl⟩)))⟩)⟩, by omega, by omega, by omega, by omega, by omega, by omega, by omega, by omega, fun _ => rfl, by omega, by omega⟩
  · refine ⟨8, 0, m, ⟨s, hs, Or.inr (Or.inl ⟨hn, hl, m, hm, hr, Or.inr (Or.inr (Or.inr (Or.inr ⟨rfl, w2, rfl⟩)))⟩)⟩, by omega, by omega, by omega, by omega, by omega, by omega, by omega, by omega, fun _ => rfl, by omega, by omega⟩
theorem f_M_k {B : Nat → Int32} {n a s m b kd wh : Int} (hs : f_run f_bl B n a s) (hn : s < n) (hl : f_le (B s.toNat).toInt) (hm : f_run f_le B n s m) (hd : f_run f_di B n m b) (hmb : m < b) (hv : f_v wh = f_v (f_nm B m b)) (h0 : 0 ≤ wh) (hk : (m = s + 1 ∧ (B s.toNat).toInt = 107 ∧ kd = 6) ∨ (m = s + 1 ∧ (B s.toNat).toInt = 115 ∧ kd = 7) ∨ (¬ (m = s + 1 ∧ ((B s.toNat).toInt = 107 ∨ (B s.toNat).toInt = 115)) ∧ kd = 5)) : f_M B n a kd wh b := by
  rcases hk with ⟨k1, k2, k3⟩ | ⟨k1, k2, k3⟩ | ⟨k1, k3⟩
  · exact ⟨1, f_v (f_nm B m b), b, ⟨s, hs, Or.inr (Or.inl ⟨hn, hl, m, hm, hd, Or.inl ⟨hmb, k1, k2, rfl, rfl⟩⟩)⟩, by omega, by omega, by omega, by omega, by omega, by omega, by omega, by omega, fun _ => rfl, fun _ => ⟨hv.symm, h0⟩, by omega⟩
  · exact ⟨2, f_v (f_nm B m b), b, ⟨s, hs, Or.inr (Or.inl ⟨hn, hl, m, hm, hd, Or.inr (Or.inl ⟨hmb, k1, k2, rfl, rfl⟩)⟩)⟩, by omega, by omega, by omega, by omega, by omega, by omega, by omega, by omega, fun _ => rfl, fun _ => ⟨hv.symm, h0⟩, by omega⟩
  · exact ⟨8, 0, b, ⟨s, hs, Or.inr (Or.inl ⟨hn, hl, m, hm, hd, Or.inr (Or.inr (Or.inl ⟨hmb, k1, rfl⟩))⟩)⟩, by omega, by omega, by omega, by omega, by omega, by omega, by omega, by omega, fun _ => rfl, by omega, by omega⟩
theorem f_M_n {B : Nat → Int32} {n a s b wh : Int} (hs : f_run f_bl B n a s) (hn : s < n) (hl : f_di (B s.toNat).toInt) (hd : f_run f_di B n s b) (hv : f_v wh = f_v (f_nm B s b)) (h0 : 0 ≤ wh) : f_M B n a 3 wh b := ⟨4, f_v (f_nm B s b), b, ⟨s, hs, Or.inr (Or.inr (Or.inl ⟨hn, hl, hd, rfl, rfl⟩))⟩, by omega, by omega, by omega, by omega, by omega, by omega, by omega, by omega, fun _ => rfl, fun _ => ⟨hv.symm, h0⟩, by omega⟩
theorem f_M_s {B : Nat → Int32} {n a s c kd wh nx : Int} (hs : f_run f_bl B n a s) (hn : s < n) (hl : ¬ f_le (B s.toNat).toInt) (hd : ¬ f_di (B s.toNat).toInt) (hc : (B s.toNat).toInt = c) (hso : f_so c wh) (hk : (kd = 4 ∧ 0 ≤ wh) ∨ (kd = 5 ∧ wh < 0)) (hnx : wh ≠ 2 → wh ≠ 4 → wh ≠ 5 → nx = s + 1) : f_M B n a kd wh nx := by
  obtain ⟨s1, s2, s3, s4, s5, s6⟩ := hso
  by_cases c1 : c = 58
  · exact ⟨5, 0, s + 1, ⟨s, hs, Or.inr (Or.inr (Or.inr ⟨hn, hl, hd, Or.inl ⟨by omega, rfl, rfl⟩⟩))⟩, by omega, by omega, by omega, by omega, by omega, by omega, by omega, by omega, by omega, by omega, by omega⟩
  · by_cases c2 : c = 59
    · exact ⟨6, 0, s + 1, ⟨s, hs, Or.inr (Or.inr (Or.inr ⟨hn, hl, hd, Or.inr (Or.inl ⟨by omega, rfl, rfl⟩)⟩))⟩, by omega, by omega, by omega, by omega, by omega, by omega, by omega, by omega, by omega, by omega, by omega⟩
    · by_cases c3 : c = 44
      · exact ⟨7, 0, s + 1, ⟨s, hs, Or.inr (Or.inr (Or.inr ⟨hn, hl, hd, Or.inr (Or.inr (Or.inl ⟨by omega, rfl, rfl⟩))⟩))⟩, by omega, by omega, by omega, by omega, by omega, by omega, by omega, by omega, by omega, by omega, by omega⟩
      · exact ⟨8, 0, s + 1, ⟨s, hs, Or.inr (Or.inr (Or.inr ⟨hn, hl, hd, Or.inr (Or.inr (Or.inr ⟨by omega, by omega, by omega, rfl⟩))⟩))⟩, by omega, by omega, by omega, by omega, by omega, by omega, by omega, by omega, by omega, by omega, by omega⟩
theorem f_M_x1 {B : Nat → Int32} {n a kd wh nx : Int} (h : f_M B n a kd wh nx) (hk : ¬ (kd = 6)) : ∀ k v b : Int, f_tk B n a k v b → k ≠ 1 := by
  intro k v b ht e
  obtain ⟨k2, v2, b2, ht2, m1, m2, m3, m4, m5, m6, m7, m0, _⟩ := h
  have hu := (f_tk_u ht ht2).1
  exact hk (m1.mpr (by omega))
theorem f_M_y1 {B : Nat → Int32} {n a kd wh nx : Int} (h : f_M B n a kd wh nx) (hk : kd = 6) : 0 ≤ wh ∧ f_tk B n a 1 (f_v wh) nx := by
  obtain ⟨k2, v2, b2, ht2, m1, m2, m3, m4, m5, m6, m7, m0, m8, m9, m10⟩ := h
  have e : k2 = 1 := m1.mp hk
  subst e
  have e2 : b2 = nx := m8 (by decide)
  subst e2
  obtain ⟨e3, e4⟩ := m9 (by decide)
  subst e3
  exact ⟨e4, ht2⟩
theorem f_M_x2 {B : Nat → Int32} {n a kd wh nx : Int} (h : f_M B n a kd wh nx) (hk : ¬ (kd = 7)) : ∀ k v b : Int, f_tk B n a k v b → k ≠ 2 := by
  intro k v b ht e
  obtain ⟨k2, v2, b2, ht2, m1, m2, m3, m4, m5, m6, m7, m0, _⟩ := h
  have hu := (f_tk_u ht ht2).1
  exact hk (m2.mpr (by omega))
theorem f_M_y2 {B : Nat → Int32} {n a kd wh nx : Int} (h : f_M B n a kd wh nx) (hk : kd = 7) : 0 ≤ wh ∧ f_tk B n a 2 (f_v wh) nx := by
  obtain ⟨k2, v2, b2, ht2, m1, m2, m3, m4, m5, m6, m7, m0, m8, m9, m10⟩ := h
  have e : k2 = 2 := m2.mp hk
  subst e
  have e2 : b2 = nx := m8 (by decide)
  subst e2
  obtain ⟨e3, e4⟩ := m9 (by decide)
  subst e3
  exact ⟨e4, ht2⟩
theorem f_M_x3 {B : Nat → Int32} {n a kd wh nx : Int} (h : f_M B n a kd wh nx) (hk : ¬ (kd = 1 ∧ wh ≤ 5)) : ∀ k v b : Int, f_tk B n a k v b → k ≠ 3 := by
  intro k v b ht e
  obtain ⟨k2, v2, b2, ht2, m1, m2, m3, m4, m5, m6, m7, m0, _⟩ := h
  have hu := (f_tk_u ht ht2).1
  exact hk (m3.mpr (by omega))
theorem f_M_y3 {B : Nat → Int32} {n a kd wh nx : Int} (h : f_M B n a kd wh nx) (hk : kd = 1 ∧ wh ≤ 5) : 0 ≤ wh ∧ f_tk B n a 3 wh nx := by
  obtain ⟨k2, v2, b2, ht2, m1, m2, m3, m4, m5, m6, m7, m0, m8, m9, m10⟩ := h
  have e : k2 = 3 := m3.mp hk
  subst e
  have e2 : b2 = nx := m8 (by decide)
  subst e2
  obtain ⟨e3, e4⟩ := m10 rfl
  subst e3
  exact ⟨e4, ht2⟩
theorem f_M_x4 {B : Nat → Int32} {n a kd wh nx : Int} (h : f_M B n a kd wh nx) (hk : ¬ (kd = 3)) : ∀ k v b : Int, f_tk B n a k v b → k ≠ 4 := by
  intro k v b ht e
  obtain ⟨k2, v2, b2, ht2, m1, m2, m3, m4, m5, m6, m7, m0, _⟩ := h
  have hu := (f_tk_u ht ht2).1
  exact hk (m4.mpr (by omega))
theorem f_M_y4 {B : Nat → Int32} {n a kd wh nx : Int} (h : f_M B n a kd wh nx) (hk : kd = 3) : 0 ≤ wh ∧ f_tk B n a 4 (f_v wh) nx := by
  obtain ⟨k2, v2, b2, ht2, m1, m2, m3, m4, m5, m6, m7, m0, m8, m9, m10⟩ := h
  have e : k2 = 4 := m4.mp hk
  subst e
  have e2 : b2 = nx := m8 (by decide)
  subst e2
  obtain ⟨e3, e4⟩ := m9 (by decide)
  subst e3
  exact ⟨e4, ht2⟩
theorem f_M_x5 {B : Nat → Int32} {n a kd wh nx : Int} (h : f_M B n a kd wh nx) (hk : ¬ (kd = 4 ∧ wh = 58)) : ∀ k v b : Int, f_tk B n a k v b → k ≠ 5 := by
  intro k v b ht e
  obtain ⟨k2, v2, b2, ht2, m1, m2, m3, m4, m5, m6, m7, m0, _⟩ := h
  have hu := (f_tk_u ht ht2).1
  exact hk (m5.mpr (by omega))
theorem f_M_y5 {B : Nat → Int32} {n a kd wh nx : Int} (h : f_M B n a kd wh nx) (hk : kd = 4 ∧ wh = 58) : ∃ v : Int, f_tk B n a 5 v nx := by
  obtain ⟨k2, v2, b2, ht2, m1, m2, m3, m4, m5, m6, m7, m0, m8, m9, m10⟩ := h
  have e : k2 = 5 := m5.mp hk
  subst e
  have e2 : b2 = nx := m8 (by decide)
  subst e2
  exact ⟨v2, ht2⟩
theorem f_M_x6 {B : Nat → Int32} {n a kd wh nx : Int} (h : f_M B n a kd wh nx) (hk : ¬ (kd = 4 ∧ wh = 59)) : ∀ k v b : Int, f_tk B n a k v b → k ≠ 6 := by
  intro k v b ht e
  obtain ⟨k2, v2, b2, ht2, m1, m2, m3, m4, m5, m6, m7, m0, _⟩ := h
  have hu := (f_tk_u ht ht2).1
  exact hk (m6.mpr (by omega))
theorem f_M_y6 {B : Nat → Int32} {n a kd wh nx : Int} (h : f_M B n a kd wh nx) (hk : kd = 4 ∧ wh = 59) : ∃ v : Int, f_tk B n a 6 v nx := by
  obtain ⟨k2, v2, b2, ht2, m1, m2, m3, m4, m5, m6, m7, m0, m8, m9, m10⟩ := h
  have e : k2 = 6 := m6.mp hk
  subst e
  have e2 : b2 = nx := m8 (by decide)
  subst e2
  exact ⟨v2, ht2⟩
theorem f_M_x7 {B : Nat → Int32} {n a kd wh nx : Int} (h : f_M B n a kd wh nx) (hk : ¬ (kd = 4 ∧ wh = 44)) : ∀ k v b : Int, f_tk B n a k v b → k ≠ 7 := by
  intro k v b ht e
  obtain ⟨k2, v2, b2, ht2, m1, m2, m3, m4, m5, m6, m7, m0, _⟩ := h
  have hu := (f_tk_u ht ht2).1
  exact hk (m7.mpr (by omega))
theorem f_M_y7 {B : Nat → Int32} {n a kd wh nx : Int} (h : f_M B n a kd wh nx) (hk : kd = 4 ∧ wh = 44) : ∃ v : Int, f_tk B n a 7 v nx := by
  obtain ⟨k2, v2, b2, ht2, m1, m2, m3, m4, m5, m6, m7, m0, m8, m9, m10⟩ := h
  have e : k2 = 7 := m7.mp hk
  subst e
  have e2 : b2 = nx := m8 (by decide)
  subst e2
  exact ⟨v2, ht2⟩
theorem f_M_x0 {B : Nat → Int32} {n a kd wh nx : Int} (h : f_M B n a kd wh nx) (hk : ¬ (kd = 0)) : ∀ k v b : Int, f_tk B n a k v b → k ≠ 0 := by
  intro k v b ht e
  obtain ⟨k2, v2, b2, ht2, m1, m2, m3, m4, m5, m6, m7, m0, _⟩ := h
  have hu := (f_tk_u ht ht2).1
  exact hk (m0.mpr (by omega))
theorem f_M_y0 {B : Nat → Int32} {n a kd wh nx : Int} (h : f_M B n a kd wh nx) (hk : kd = 0) : ∃ v : Int, f_tk B n a 0 v nx := by
  obtain ⟨k2, v2, b2, ht2, m1, m2, m3, m4, m5, m6, m7, m0, m8, m9, m10⟩ := h
  have e : k2 = 0 := m0.mp hk
  subst e
  have e2 : b2 = nx := m8 (by decide)
  subst e2
  exact ⟨v2, ht2⟩
def f_L (B : Nat → Int32) (n kn pa : Int) (t : Int32) (mo kd wh nx : Int) : Prop := (mo = 1 → (f_E B n kn 0 0 pa ↔ f_E B n kn 3 t nx)) ∧ (mo = 0 → ∃ a : Int, f_M B n a kd wh nx ∧ (f_E B n kn 0 0 pa ↔ f_E B n kn 5 t a) ∧ ¬ (kd = 4 ∧ wh = 44))
theorem f_L_1 {B : Nat → Int32} {n kn pa mo kd wh nx : Int} {t : Int32} (hm : mo = 1) (h : f_E B n kn 0 0 pa ↔ f_E B n kn 3 t nx) : f_L B n kn pa t mo kd wh nx := ⟨fun _ => h, fun g => by exfalso; omega⟩
theorem f_L_0 {B : Nat → Int32} {n kn pa mo kd wh nx a : Int} {t : Int32} (hm : mo = 0) (hM : f_M B n a kd wh nx) (h : f_E B n kn 0 0 pa ↔ f_E B n kn 5 t a) (hn : ¬ (kd = 4 ∧ wh = 44)) : f_L B n kn pa t mo kd wh nx := ⟨fun g => by exfalso; omega, fun _ => ⟨a, hM, h, hn⟩⟩
theorem f_L_7 {B : Nat → Int32} {n kn pa mo kd wh nx a : Int} {t : Int32} (hm : mo = 1) (hM : f_M B n a kd wh nx) (h : f_E B n kn 0 0 pa ↔ f_E B n kn 5 t a) (hk : kd = 4 ∧ wh = 44) : f_L B n kn pa t mo kd wh nx := by
  obtain ⟨v, ht⟩ := f_M_y7 hM hk
  exact f_L_1 hm (h.trans (f_E5c ht rfl))
def f_L2 (B : Nat → Int32) (n kn pa kd wh nx : Int) : Prop := ∃ a : Int, f_M B n a kd wh nx ∧ (f_E B n kn 0 0 pa ↔ f_E B n kn 0 0 a)
theorem f_M5e {B : Nat → Int32} {n kn a kd wh nx : Int} {t : Int32} (hM : f_M B n a kd wh nx) (hk : kd = 0) : f_E B n kn 5 t a := by
  obtain ⟨v, ht⟩ := f_M_y0 hM hk
  exact f_E5e ht rfl
theorem f_M6e {B : Nat → Int32} {n kn a kd wh nx : Int} {t : Int32} (hM : f_M B n a kd wh nx) (hk : kd = 0) : f_E B n kn 6 t a := by
  obtain ⟨v, ht⟩ := f_M_y0 hM hk
  exact f_E6e ht rfl
theorem f_M5n {B : Nat → Int32} {n kn a kd wh nx : Int} {t : Int32} (hM : f_M B n a kd wh nx) (h0 : kd ≠ 0) (h6 : ¬ (kd = 4 ∧ wh = 59)) (h7 : ¬ (kd = 4 ∧ wh = 44)) : ¬ f_E B n kn 5 t a := f_E5x fun k v b ht => ⟨f_M_x0 hM h0 k v b ht, f_M_x6 hM h6 k v b ht, f_M_x7 hM h7 k v b ht⟩
theorem f_M5s {B : Nat → Int32} {n kn a kd wh nx : Int} {t : Int32} (hM : f_M B n a kd wh nx) (hk : kd = 4 ∧ wh = 59) : f_E B n kn 5 t a ↔ f_E B n kn 6 0 nx := by
  obtain ⟨v, ht⟩ := f_M_y6 hM hk
  exact f_E5s ht rfl
theorem f_M2 {B : Nat → Int32} {n kn a kd wh nx : Int} {t : Int32} (hM : f_M B n a kd wh nx) (hk : kd = 4 ∧ wh = 58) : f_E B n kn 2 t a ↔ f_E B n kn 3 0 nx := by
  obtain ⟨v, ht⟩ := f_M_y5 hM hk
  exact f_E2 ht rfl
theorem f_M6 {B : Nat → Int32} {n kn a kd wh nx : Int} {t t' : Int32} (hM : f_M B n a kd wh nx) (h0 : kd ≠ 0) : f_E B n kn 6 t a ↔ f_E B n kn 0 t' a := f_E6x (fun k v b ht => f_M_x0 hM h0 k v b ht)
theorem f_m8 : ∀ i : Nat, i < 32 → 8 ≤ i → (255#32).getLsbD i = false := by decide
theorem f_bv (x : BitVec 32) (s : Nat) (hs : s ≤ 24) : (x >>> s) &&& 255#32 = (x.sshiftRight s) &&& 255#32 := by
  apply BitVec.eq_of_getLsbD_eq
  intro i hi
  rw [BitVec.getLsbD_and, BitVec.getLsbD_and]
  by_cases h : i < 8
  · rw [BitVec.getLsbD_ushiftRight, BitVec.getLsbD_sshiftRight]
    rw [if_pos (show s + i < 32 by omega)]
    simp [show ¬ (32 ≤ i) by omega]
  · rw [f_m8 i hi (by omega), Bool.and_false, Bool.and_false]
def f_shT : List Int32 := [24, 16, 8, 0]
def f_b4 (x : Int32) (k : Nat) : Int32 := (x >>> (f_shT.getD k 0 &&& 31)) &&& 255
theorem f_us0 (x : Int32) : (x.toUInt32 >>> ((24 : Int32).toUInt32 &&& Int32.toUInt32 31)).toInt32 &&& 255 = f_b4 x 0 := Int32.toBitVec_inj.mp (f_bv x.toBitVec 24 (by decide))
theorem f_us1 (x : Int32) : (x.toUInt32 >>> ((16 : Int32).toUInt32 &&& Int32.toUInt32 31)).toInt32 &&& 255 = f_b4 x 1 := Int32.toBitVec_inj.mp (f_bv x.toBitVec 16 (by decide))
theorem f_us2 (x : Int32) : (x.toUInt32 >>> ((8 : Int32).toUInt32 &&& Int32.toUInt32 31)).toInt32 &&& 255 = f_b4 x 2 := Int32.toBitVec_inj.mp (f_bv x.toBitVec 8 (by decide))
theorem f_us3 (x : Int32) : (x.toUInt32 >>> ((0 : Int32).toUInt32 &&& Int32.toUInt32 31)).toInt32 &&& 255 = f_b4 x 3 := Int32.toBitVec_inj.mp (f_bv x.toBitVec 0 (by decide))
def f_by (a b c d e : Int32) (k : Nat) : Int32 := f_b4 (([a, b, c, d, e] : List Int32).getD (k / 4) 0) (k % 4)
def f_fe (B : Nat → Int32) (s : Nat) (w : Nat → Int32) : Nat → Nat → Int32
  | 0 => B
  | k + 1 => upd (f_fe B s w k) (s + k) (w k)
theorem f_fe_s {B C : Nat → Int32} {s k i : Nat} {w : Nat → Int32} {v : Int32} (h : C = f_fe B s w k) (hi : i = s + k) (hv : v = w k) : upd C i v = f_fe B s w (k + 1) := by
  subst h
  subst hi
  subst hv
  rfl
theorem f_fe_a {B : Nat → Int32} {s k : Nat} {w w' : Nat → Int32} : ∀ m : Nat, (∀ j : Nat, j < m → w' j = w (k + j)) → f_fe (f_fe B s w k) (s + k) w' m = f_fe B s w (k + m) := by
  intro m
  induction m with
  | zero => intro _; rfl
  | succ m ih =>
    intro h
    show upd (f_fe (f_fe B s w k) (s + k) w' m) (s + k + m) (w' m) = upd (f_fe B s w (k + m)) (s + (k + m)) (w (k + m))
    rw [ih (fun j hj => h j (by omega)), h m (by omega), Nat.add_assoc]
theorem f_fe_j {B C D : Nat → Int32} {s t k : Nat} {w w' : Nat → Int32} (hC : C = f_fe B s w k) (hD : D = f_fe C t w' 4) (ht : t = s + k) (hw : ∀ j : Nat, j < 4 → w' j = w (k + j)) : D = f_fe B s w (k + 4) := by
  subst hC
  subst ht
  rw [hD]
  exact f_fe_a 4 hw
theorem f_by4_0 (a b c d e : Int32) : ∀ j : Nat, j < 4 → f_b4 a j = f_by a b c d e (0 + j)
  | 0, _ => rfl
  | 1, _ => rfl
  | 2, _ => rfl
  | 3, _ => rfl
  | j + 4, h => absurd h (by omega)
theorem f_by4_1 (a b c d e : Int32) : ∀ j : Nat, j < 4 → f_b4 b j = f_by a b c d e (4 + j)
  | 0, _ => rfl
  | 1, _ => rfl
  | 2, _ => rfl
  | 3, _ => rfl
  | j + 4, h => absurd h (by omega)
theorem f_by4_2 (a b c d e : Int32) : ∀ j : Nat, j < 4 → f_b4 c j = f_by a b c d e (8 + j)
  | 0, _ => rfl
  | 1, _ => rfl
  | 2, _ => rfl
  | 3, _ => rfl
  | j + 4, h => absurd h (by omega)
theorem f_by4_3 (a b c d e : Int32) : ∀ j : Nat, j < 4 → f_b4 d j = f_by a b c d e (12 + j)
  | 0, _ => rfl
  | 1, _ => rfl
  | 2, _ => rfl
  | 3, _ => rfl
  | j + 4, h => absurd h (by omega)
theorem f_by4_4 (a b c d e : Int32) : ∀ j : Nat, j < 4 → f_b4 e j = f_by a b c d e (16 + j)
  | 0, _ => rfl
  | 1, _ => rfl
  | 2, _ => rfl
  | 3, _ => rfl
  | j + 4, h => absurd h (by omega)
def v_feA (f : Int32) : Int32 := if f.toInt ≤ 680 then f + 20 else (-1)
def v_feN (f : Int32) : Int32 := if f.toInt ≤ 680 then f + 20 else f
def v_feB (B : Nat → Int32) (f a b c d e : Int32) : Nat → Int32 := if f.toInt ≤ 680 then f_fe B f.toNatClampNeg (f_by a b c d e) 20 else B
def v_ruT (f n : Int32) : Int32 := if (0 ≤ n.toInt ∧ n.toInt ≤ f.toInt) then 0 else f
def v_wrA (n : Int32) : Int32 := if n.toInt < 80 then n else (-1)
def v_wrN (n : Int32) : Int32 := if n.toInt < 80 then n + 1 else n
theorem v_ite {P Q : Prop} [Decidable P] [Decidable Q] {α : Type} {a b : α} (h : P ↔ Q) : (if P then a else b) = (if Q then a else b) := by
  by_cases p : P
  · rw [if_pos p, if_pos (h.mp p)]
  · rw [if_neg p, if_neg (fun q => p (h.mpr q))]
def v_nok (l n s a b c : Int32) : Prop := 0 ≤ a.toInt ∧ a.toInt < l.toInt ∧ n.toInt < 80 ∧ ((s.toInt = 3 ∧ 0 ≤ b.toInt ∧ b.toInt ≤ c.toInt ∧ c.toInt ≤ 9999) ∨ (0 ≤ s.toInt ∧ s.toInt ≤ 2 ∧ 0 ≤ b.toInt ∧ b.toInt < l.toInt ∧ a.toInt ≠ b.toInt))
noncomputable def v_noA (l n s a b c : Int32) : Int32 := @ite _ (v_nok l n s a b c) (Classical.propDecidable _) n (-1)
noncomputable def v_noN (l n s a b c : Int32) : Int32 := @ite _ (v_nok l n s a b c) (Classical.propDecidable _) (n + 1) n
theorem v_noA_y {l n s a b c : Int32} (h : v_nok l n s a b c) : v_noA l n s a b c = n := if_pos h
theorem v_noA_n {l n s a b c : Int32} (h : ¬ v_nok l n s a b c) : v_noA l n s a b c = (-1) := if_neg h
theorem v_noN_y {l n s a b c : Int32} (h : v_nok l n s a b c) : v_noN l n s a b c = n + 1 := if_pos h
theorem v_noN_n {l n s a b c : Int32} (h : ¬ v_nok l n s a b c) : v_noN l n s a b c = n := if_neg h
theorem v_noA_w {l n s a b c r : Int32} (e : r = v_wrA n) (h : n.toInt < 80 ↔ v_nok l n s a b c) : r = v_noA l n s a b c := by
  rw [e]
  unfold v_wrA
  by_cases q : n.toInt < 80
  · rw [if_pos q, v_noA_y (h.mp q)]
  · rw [if_neg q, v_noA_n (fun g => q (h.mpr g))]
theorem v_noN_w {l n s a b c r : Int32} (e : r = v_wrN n) (h : n.toInt < 80 ↔ v_nok l n s a b c) : r = v_noN l n s a b c := by
  rw [e]
  unfold v_wrN
  by_cases q : n.toInt < 80
  · rw [if_pos q, v_noN_y (h.mp q)]
  · rw [if_neg q, v_noN_n (fun g => q (h.mpr g))]
def v_stA (n k : Int32) : Int32 := if (0 ≤ k.toInt ∧ k.toInt < n.toInt ∧ n.toInt < 80) then n else (-1)
def v_stN (n k : Int32) : Int32 := if (0 ≤ k.toInt ∧ k.toInt < n.toInt ∧ n.toInt < 80) then n + 1 else n
def v_fok (f n l k a : Int32) : Prop := 0 ≤ k.toInt ∧ k.toInt ≤ f.toInt ∧ 0 ≤ a.toInt ∧ a.toInt < l.toInt ∧ n.toInt < 80
noncomputable def v_fiA (B : Nat → Int32) (f n l q k a : Int32) : Int32 := @ite _ (v_fok f n l k a) (Classical.propDecidable _) (@ite _ (f_E B k.toInt q.toInt 0 0 0) (Classical.propDecidable _) n (-1)) (-2)
noncomputable def v_fiN (B : Nat → Int32) (f n l q k a : Int32) : Int32 := @ite _ (v_fok f n l k a) (Classical.propDecidable _) (@ite _ (f_E B k.toInt q.toInt 0 0 0) (Classical.propDecidable _) (n + 1) n) n
noncomputable def v_fiT (f n l k a : Int32) : Int32 := @ite _ (v_fok f n l k a) (Classical.propDecidable _) 0 f
theorem v_fiA_r {B : Nat → Int32} {f n l q k a : Int32} (h : ¬ v_fok f n l k a) : v_fiA B f n l q k a = (-2) := if_neg h
theorem v_fiA_n {B : Nat → Int32} {f n l q k a : Int32} (h : v_fok f n l k a) (g : ¬ f_E B k.toInt q.toInt 0 0 0) : v_fiA B f n l q k a = (-1) := (if_pos h).trans (if_neg g)
theorem v_fiA_y {B : Nat → Int32} {f n l q k a : Int32} (h : v_fok f n l k a) (g : f_E B k.toInt q.toInt 0 0 0) : v_fiA B f n l q k a = n := (if_pos h).trans (if_pos g)
theorem v_fiN_r {B : Nat → Int32} {f n l q k a : Int32} (h : ¬ v_fok f n l k a) : v_fiN B f n l q k a = n := if_neg h
theorem v_fiN_n {B : Nat → Int32} {f n l q k a : Int32} (h : v_fok f n l k a) (g : ¬ f_E B k.toInt q.toInt 0 0 0) : v_fiN B f n l q k a = n := (if_pos h).trans (if_neg g)
theorem v_fiN_y {B : Nat → Int32} {f n l q k a : Int32} (h : v_fok f n l k a) (g : f_E B k.toInt q.toInt 0 0 0) : v_fiN B f n l q k a = n + 1 := (if_pos h).trans (if_pos g)
theorem v_fiT_r {f n l k a : Int32} (h : ¬ v_fok f n l k a) : v_fiT f n l k a = f := if_neg h
theorem v_fiT_y {f n l k a : Int32} (h : v_fok f n l k a) : v_fiT f n l k a = 0 := if_pos h
def k_cnt (K A : Nat → Int) (n : Int) (c : Nat → Prop) : Prop := ∀ k : Nat, c k ↔ ((k : Int) < n ∧ ¬ ∃ i : Nat, k < i ∧ (i : Int) < n ∧ K i = 5 ∧ A i = (k : Int) ∧ c i)
theorem k_cnt_u {K A : Nat → Int} {n : Int} {c c' : Nat → Prop} (h : k_cnt K A n c) (h' : k_cnt K A n c') : ∀ k : Nat, c k ↔ c' k := by
  have hd : ∀ d k : Nat, n - (k : Int) ≤ (d : Int) → (c k ↔ c' k) := by
    intro d
    induction d with
    | zero =>
      intro k hk
      refine ⟨fun g => absurd ((h k).mp g).1 (by omega), fun g => absurd ((h' k).mp g).1 (by omega)⟩
    | succ d ih =>
      intro k hk
      rw [h k, h' k]
      refine ⟨fun g => ⟨g.1, fun q => g.2 ?_⟩, fun g => ⟨g.1, fun q => g.2 ?_⟩⟩
      · obtain ⟨i, q1, q2, q3, q4, q5⟩ := q
        exact ⟨i, q1, q2, q3, q4, (ih i (by omega)).mpr q5⟩
      · obtain ⟨i, q1, q2, q3, q4, q5⟩ := q
        exact ⟨i, q1, q2, q3, q4, (ih i (by omega)).mp q5⟩
  intro k
  exact hd (n - (k : Int)).toNat k (by omega)
def k_conn (K A B : Nat → Int) (c : Nat → Prop) (n l m : Int) : Prop := ∀ P : Int → Prop, (∀ k : Nat, (k : Int) < n → c k → K k = 2 → (P (A k) ↔ P (B k))) → P l → P m
theorem k_conn_r {K A B : Nat → Int} {c : Nat → Prop} {n l : Int} : k_conn K A B c n l l := fun _ _ h => h
theorem k_conn_t {K A B : Nat → Int} {c : Nat → Prop} {n l m o : Int} (h : k_conn K A B c n l m) (g : k_conn K A B c n m o) : k_conn K A B c n l o := fun P hP hl => g P hP (h P hP hl)
theorem k_conn_s {K A B : Nat → Int} {c : Nat → Prop} {n l m : Int} (h : k_conn K A B c n l m) : k_conn K A B c n m l := fun P hP hm => Classical.byContradiction fun hl => h (fun x => ¬ P x) (fun k h1 h2 h3 => not_congr (hP k h1 h2 h3)) hl hm
theorem k_conn_1 {K A B : Nat → Int} {c : Nat → Prop} {n : Int} {k : Nat} (h1 : (k : Int) < n) (h2 : c k) (h3 : K k = 2) : k_conn K A B c n (A k) (B k) := fun _ hP h => (hP k h1 h2 h3).mp h
def k_bed (K A B : Nat → Int) (c : Nat → Prop) (n : Int) (b : Nat → Int) (L : Int) : Prop := ∀ l : Nat, (l : Int) < L → k_conn K A B c n (l : Int) (b l) ∧ ∀ m : Int, k_conn K A B c n (l : Int) m → b l ≤ m
theorem k_bed_u {K A B : Nat → Int} {c : Nat → Prop} {n L : Int} {b b' : Nat → Int} (h : k_bed K A B c n b L) (h' : k_bed K A B c n b' L) (l : Nat) (hl : (l : Int) < L) : b l = b' l := by
  have h1 := (h l hl).2 _ (h' l hl).1
  have h2 := (h' l hl).2 _ (h l hl).1
  omega
theorem k_bed_of {K A B : Nat → Int} {c : Nat → Prop} {n L : Int} {b : Nat → Int} (hr : ∀ k : Nat, (k : Int) < n → c k → K k = 2 → 0 ≤ A k ∧ A k < L ∧ 0 ≤ B k ∧ B k < L) (h1 : ∀ k : Nat, (k : Int) < n → c k → K k = 2 → b (A k).toNat = b (B k).toNat) (h2 : ∀ l : Nat, (l : Int) < L → k_conn K A B c n (l : Int) (b l)) (h3 : ∀ l : Nat, (l : Int) < L → b l ≤ (l : Int)) : k_bed K A B c n b L := by
  intro l hl
  refine ⟨h2 l hl, fun m hm => ?_⟩
  have q := hm (fun x => 0 ≤ x ∧ x < L ∧ b x.toNat = b l) (fun k g1 g2 g3 => by
    have r := hr k g1 g2 g3
    have e := h1 k g1 g2 g3
    refine ⟨fun g => ⟨by omega, by omega, ?_⟩, fun g => ⟨by omega, by omega, ?_⟩⟩
    · rw [← e]; exact g.2.2
    · rw [e]; exact g.2.2) ⟨by omega, hl, rfl⟩
  obtain ⟨q1, q2, q3⟩ := q
  have q4 := h3 m.toNat (by omega)
  rw [q3] at q4
  omega
def k_T (E : Int → Int → Prop) (x y : Int) : Prop := ∀ R : Int → Int → Prop, (∀ x y : Int, E x y → R x y) → (∀ x y z : Int, R x y → R y z → R x z) → R x y
theorem k_T_1 {E : Int → Int → Prop} {x y : Int} (h : E x y) : k_T E x y := fun _ h1 _ => h1 _ _ h
theorem k_T_t {E : Int → Int → Prop} {x y z : Int} (h : k_T E x y) (g : k_T E y z) : k_T E x z := fun R h1 h2 => h2 _ _ _ (h R h1 h2) (g R h1 h2)
theorem k_T_in {E : Int → Int → Prop} {L x y : Int} (hE : ∀ x y : Int, E x y → (0 ≤ x ∧ x < L) ∧ (0 ≤ y ∧ y < L)) (h : k_T E x y) : (0 ≤ x ∧ x < L) ∧ (0 ≤ y ∧ y < L) := h (fun x y => (0 ≤ x ∧ x < L) ∧ (0 ≤ y ∧ y < L)) hE (fun _ _ _ a b => ⟨a.1, b.2⟩)
theorem k_T_iff {E E' : Int → Int → Prop} (h : ∀ x y : Int, E x y ↔ E' x y) (x y : Int) : k_T E x y ↔ k_T E' x y := ⟨fun g R h1 h2 => g R (fun x y e => h1 x y ((h x y).mp e)) h2, fun g R h1 h2 => g R (fun x y e => h1 x y ((h x y).mpr e)) h2⟩
def k_E (K A B : Nat → Int) (c : Nat → Prop) (n : Int) (b : Nat → Int) (x y : Int) : Prop := ∃ k : Nat, (k : Int) < n ∧ c k ∧ (K k = 0 ∨ K k = 1) ∧ x = b (A k).toNat ∧ y = b (B k).toNat
theorem k_warshall {E : Int → Int → Prop} {L : Int} {M : Int → Int → Prop} (hE : ∀ x y : Int, E x y → M x y) (hM : ∀ x y : Int, M x y → k_T E x y) (hin : ∀ x y : Int, E x y → (0 ≤ x ∧ x < L) ∧ (0 ≤ y ∧ y < L)) (hc : ∀ x y z : Int, 0 ≤ y → y < L → M x y → M y z → M x z) (x y : Int) : M x y ↔ k_T E x y := by
  refine ⟨hM x y, fun h => h M hE (fun x y z h1 h2 => ?_)⟩
  have r := (k_T_in hin (hM _ _ h1)).2
  exact hc x y z r.1 r.2 h1 h2
def k_ch (T : Int → Int → Prop) : Nat → Int → Prop
  | 0, _ => True
  | m + 1, a => ∃ b : Int, T a b ∧ k_ch T m b
def k_rank (T : Int → Int → Prop) (a r : Int) : Prop := 0 ≤ r ∧ k_ch T r.toNat a ∧ ∀ m : Nat, k_ch T m a → (m : Int) ≤ r
theorem k_rank_u {T : Int → Int → Prop} {a r r' : Int} (h : k_rank T a r) (h' : k_rank T a r') : r = r' := by
  have h1 := h.2.2 _ h'.2.1
  have h2 := h'.2.2 _ h.2.1
  have h3 := h.1
  have h4 := h'.1
  omega
def k_max (T : Int → Int → Prop) (D : Int → Int → Prop) (a v : Int) : Prop := 0 ≤ v ∧ (v = 0 ∨ ∃ x : Int, (x = a ∨ T a x) ∧ D x v) ∧ ∀ x w : Int, (x = a ∨ T a x) → D x w → w ≤ v
theorem k_max_u {T D : Int → Int → Prop} {a v v' : Int} (h : k_max T D a v) (h' : k_max T D a v') : v = v' := by
  obtain ⟨p1, p2, p3⟩ := h
  obtain ⟨q1, q2, q3⟩ := h'
  have h1 : v ≤ v' := by
    rcases p2 with p2 | ⟨x, p2, p4⟩
    · omega
    · exact q3 x v p2 p4
  have h2 : v' ≤ v := by
    rcases q2 with q2 | ⟨x, q2, q4⟩
    · omega
    · exact p3 x v' q2 q4
  omega
def k_min (T : Int → Int → Prop) (D : Int → Int → Prop) (a v : Int) : Prop := v ≤ 9999 ∧ (v = 9999 ∨ ∃ x : Int, (x = a ∨ T x a) ∧ D x v) ∧ ∀ x w : Int, (x = a ∨ T x a) → D x w → v ≤ w
theorem k_min_u {T D : Int → Int → Prop} {a v v' : Int} (h : k_min T D a v) (h' : k_min T D a v') : v = v' := by
  obtain ⟨p1, p2, p3⟩ := h
  obtain ⟨q1, q2, q3⟩ := h'
  have h1 : v' ≤ v := by
    rcases p2 with p2 | ⟨x, p2, p4⟩
    · omega
    · exact q3 x v p2 p4
  have h2 : v ≤ v' := by
    rcases q2 with q2 | ⟨x, q2, q4⟩
    · omega
    · exact p3 x v' q2 q4
  omega
noncomputable def k_card (P : Int → Prop) : Nat → Nat
  | 0 => 0
  | m + 1 => k_card P m + @ite _ (P (m : Int)) (Classical.propDecidable _) 1 0
theorem k_card_y {P : Int → Prop} {m : Nat} (h : P (m : Int)) : k_card P (m + 1) = k_card P m + 1 := by
  rw [k_card, if_pos h]
theorem k_card_n {P : Int → Prop} {m : Nat} (h : ¬ P (m : Int)) : k_card P (m + 1) = k_card P m := by
  rw [k_card, if_neg h, Nat.add_zero]
theorem k_card_le {P Q : Int → Prop} : ∀ m : Nat, (∀ x : Int, 0 ≤ x → x < (m : Int) → P x → Q x) → k_card P m ≤ k_card Q m := by
  intro m
  induction m with
  | zero => intro _; exact Nat.le_refl _
  | succ m ih =>
    intro h
    have h1 := ih (fun x h1 h2 h3 => h x h1 (by omega) h3)
    by_cases p : P (m : Int)
    · rw [k_card_y p, k_card_y (h _ (by omega) (by omega) p)]
      omega
    · rw [k_card_n p]
      by_cases q : Q (m : Int)
      · rw [k_card_y q]
        omega
      · rw [k_card_n q]
        exact h1
theorem k_card_lt {P Q : Int → Prop} {z : Int} (hz0 : 0 ≤ z) (hq : Q z) (hp : ¬ P z) : ∀ m : Nat, z < (m : Int) → (∀ x : Int, 0 ≤ x → x < (m : Int) → P x → Q x) → k_card P m < k_card Q m := by
  intro m
  induction m with
  | zero => intro h _; exact absurd h (by omega)
  | succ m ih =>
    intro hz h
    have h0 := k_card_le m (fun x h1 h2 h3 => h x h1 (by omega) h3)
    by_cases e : z = (m : Int)
    · subst e
      rw [k_card_n hp, k_card_y hq]
      omega
    · have h1 := ih (by omega) (fun x h1 h2 h3 => h x h1 (by omega) h3)
      by_cases p : P (m : Int)
      · rw [k_card_y p, k_card_y (h _ (by omega) (by omega) p)]
        omega
      · rw [k_card_n p]
        by_cases q : Q (m : Int)
        · rw [k_card_y q]
          omega
        · rw [k_card_n q]
          exact h1
theorem k_card_all : ∀ m : Nat, k_card (fun _ => True) m = m := by
  intro m
  induction m with
  | zero => rfl
  | succ m ih => rw [k_card_y trivial, ih]
theorem k_ch_card {T : Int → Int → Prop} {L : Nat} (ht : ∀ x y z : Int, T x y → T y z → T x z) (hi : ∀ x : Int, ¬ T x x) (hr : ∀ x y : Int, T x y → 0 ≤ y ∧ y < (L : Int)) : ∀ (m : Nat) (a : Int), k_ch T m a → m ≤ k_card (T a) L := by
  intro m
  induction m with
  | zero => intro a _; exact Nat.zero_le _
  | succ m ih =>
    intro a h
    obtain ⟨b, h1, h2⟩ := h
    have g := ih b h2
    have r := hr a b h1
    have g2 := k_card_lt (P := T b) (Q := T a) r.1 h1 (hi b) L r.2 (fun x _ _ q => ht _ _ _ h1 q)
    omega
theorem k_ch_lt {T : Int → Int → Prop} {L : Nat} {a : Int} {m : Nat} (ht : ∀ x y z : Int, T x y → T y z → T x z) (hi : ∀ x : Int, ¬ T x x) (hr : ∀ x y : Int, T x y → 0 ≤ y ∧ y < (L : Int)) (ha : 0 ≤ a ∧ a < (L : Int)) (h : k_ch T m a) : m < L := by
  have h1 := k_ch_card ht hi hr m a h
  have h2 := k_card_lt (P := T a) (Q := fun _ => True) ha.1 trivial (hi a) L ha.2 (fun _ _ _ _ => trivial)
  rw [k_card_all] at h2
  omega
def k_rs (T : Int → Int → Prop) (L : Int) (r : Nat → Int32) : Prop := ∀ x : Nat, (x : Int) < L → 0 ≤ (r x).toInt ∧ k_ch T (r x).toInt.toNat (x : Int)
def k_rt (T : Int → Int → Prop) (L t : Int) (r : Nat → Int32) : Prop := ∀ x : Nat, (x : Int) < L → ∀ m : Nat, (m : Int) ≤ t → k_ch T m (x : Int) → (m : Int) ≤ (r x).toInt
def k_rp (T : Int → Int → Prop) (L : Int) (r0 : Nat → Int32) (i : Int) (r : Nat → Int32) : Prop := (∀ x : Nat, (x : Int) < L → (r0 x).toInt ≤ (r x).toInt) ∧ ∀ x : Nat, (x : Int) < i → ∀ y : Nat, (y : Int) < L → T (x : Int) (y : Int) → (r0 y).toInt + 1 ≤ (r x).toInt
theorem k_rs_0 {T : Int → Int → Prop} {L : Int} {r : Nat → Int32} (h : ∀ x : Nat, (x : Int) < L → (r x).toInt = 0) : k_rs T L r := fun x hx => by
  rw [h x hx]
  exact ⟨by omega, trivial⟩
theorem k_rt_0 {T : Int → Int → Prop} {L : Int} {r : Nat → Int32} (h : k_rs T L r) : k_rt T L 0 r := fun x hx m hm _ => by
  have := (h x hx).1
  omega
theorem k_rp_0 {T : Int → Int → Prop} {L : Int} {r : Nat → Int32} : k_rp T L r 0 r := ⟨fun _ _ => Int.le_refl _, fun x hx => absurd hx (by omega)⟩
theorem k_rt_s {T : Int → Int → Prop} {L t t' i : Int} {r0 r : Nat → Int32} (hT : ∀ x y : Int, T x y → 0 ≤ y ∧ y < L) (h0 : k_rt T L t r0) (hp : k_rp T L r0 i r) (hi : L ≤ i) (ht : t' = t + 1) (hs : k_rs T L r) : k_rt T L t' r := by
  intro x hx m hm hc
  cases m with
  | zero => have := (hs x hx).1; omega
  | succ m =>
    obtain ⟨b, g1, g2⟩ := hc
    have hb := hT _ _ g1
    have e : ((b.toNat : Nat) : Int) = b := Int.toNat_of_nonneg hb.1
    rw [← e] at g1 g2
    have q1 := h0 b.toNat (by omega) m (by omega) g2
    have q2 := hp.2 x (by omega) b.toNat (by omega) g1
    omega
theorem k_rank_of {T : Int → Int → Prop} {L : Nat} {t : Int} {r : Nat → Int32} (ht : ∀ x y z : Int, T x y → T y z → T x z) (hi : ∀ x : Int, ¬ T x x) (hr : ∀ x y : Int, T x y → 0 ≤ y ∧ y < (L : Int)) (hs : k_rs T (L : Int) r) (h : k_rt T (L : Int) t r) (htL : (L : Int) ≤ t + 1) (x : Nat) (hx : (x : Int) < (L : Int)) : k_rank T (x : Int) (r x).toInt := by
  obtain ⟨h1, h2⟩ := hs x hx
  refine ⟨h1, h2, fun m hm => h x hx m ?_ hm⟩
  have := k_ch_lt ht hi hr ⟨by omega, hx⟩ hm
  omega
theorem k_ch_s {T : Int → Int → Prop} {x y r : Int} (hT : T x y) (h0 : 0 ≤ r) (h : k_ch T r.toNat y) : k_ch T (r + 1).toNat x := by
  rw [show (r + 1).toNat = r.toNat + 1 by omega]
  exact ⟨y, hT, h⟩
def k_bt (t : Int32) (p : Int) : Prop := f_bit t (Int32.ofInt p)
theorem k_sh (t : Int32) (p : Nat) (hp : p < 32) : (t >>> (Int32.ofInt (p : Int) &&& 31)).toBitVec = t.toBitVec.sshiftRight p := by
  have h : ∀ p : Nat, p < 32 → ((Int32.ofInt (p : Int) &&& 31).toBitVec.smod 32).toNat = p := by decide
  show t.toBitVec.sshiftRight ((Int32.ofInt (p : Int) &&& 31).toBitVec.smod 32).toNat = _
  rw [h p hp]
theorem k_bt_get (t : Int32) (p : Nat) (hp : p < 31) : k_bt t (p : Int) ↔ t.toBitVec.getLsbD p = true := by
  unfold k_bt f_bit
  have e : ((t >>> (Int32.ofInt (p : Int) &&& 31)) &&& 1).toBitVec = (t.toBitVec.sshiftRight p) &&& 1#32 := by
    show (t >>> (Int32.ofInt (p : Int) &&& 31)).toBitVec &&& 1#32 = _
    rw [k_sh t p (by omega)]
  have e2 : (t.toBitVec.sshiftRight p) &&& 1#32 = if t.toBitVec.getLsbD p = true then 1#32 else 0#32 := by
    apply BitVec.eq_of_getLsbD_eq
    intro i hi
    rw [BitVec.getLsbD_and]
    by_cases h0 : i = 0
    · subst h0
      rw [BitVec.getLsbD_sshiftRight, if_pos (show p + 0 < 32 by omega)]
      cases hb : t.toBitVec.getLsbD p <;> simp [hb]
    · have h1 : (1#32).getLsbD i = false := (show ∀ i : Nat, i < 32 → i ≠ 0 → (1#32).getLsbD i = false by decide) i hi h0
      rw [h1, Bool.and_false]
      split
      · exact h1.symm
      · simp
  rw [show ((t >>> (Int32.ofInt (p : Int) &&& 31)) &&& 1).toInt = ((t >>> (Int32.ofInt (p : Int) &&& 31)) &&& 1).toBitVec.toInt from rfl, e, e2]
  cases hb : t.toBitVec.getLsbD p
  · simp
  · simp
theorem k_bt_or (t u : Int32) (p : Nat) (hp : p < 31) : k_bt (t ||| u) (p : Int) ↔ k_bt t (p : Int) ∨ k_bt u (p : Int) := by
  rw [k_bt_get _ p hp, k_bt_get _ p hp, k_bt_get _ p hp]
  rw [show (t ||| u).toBitVec = t.toBitVec ||| u.toBitVec from rfl, BitVec.getLsbD_or]
  simp
theorem k_bt_0 (p : Nat) (hp : p < 31) : ¬ k_bt 0 (p : Int) := by
  rw [k_bt_get _ p hp]
  simp
theorem k_bt_1 : ∀ q : Nat, q < 12 → ∀ p : Nat, p < 12 → (k_bt ((1 : Int32) <<< (Int32.ofInt (q : Int) &&& 31)) (p : Int) ↔ p = q) := by
  unfold k_bt f_bit
  decide +kernel
def k_sl (S A : Nat → Int32) (n i : Int) (s : Nat → Int32) : Prop := ∀ k : Nat, (k : Int) < n → ((s k).toInt = 0 ↔ ¬ ∃ j : Nat, i < (j : Int) ∧ (j : Int) < n ∧ k < j ∧ (S j).toInt = 5 ∧ (A j).toInt = (k : Int) ∧ (s j).toInt = 0)
def k_z (n : Int) (s : Nat → Int32) : Prop := ∀ j : Nat, (j : Int) < n → (s j).toInt = 0
theorem k_z_0 {n : Int} {s : Nat → Int32} (h : n ≤ 0) : k_z n s := fun j hj => absurd hj (by omega)
theorem k_z_s {n : Int} {s : Nat → Int32} {i v : Int32} (h : k_z i.toInt s) (h0 : 0 ≤ i.toInt) (hv : v.toInt = 0) (hn : n = i.toInt + 1) : k_z n (upd s i.toNatClampNeg v) := by
  intro j hj
  unfold upd
  have h4 : i.toNatClampNeg = i.toInt.toNat := rfl
  by_cases e : j = i.toNatClampNeg
  · rw [if_pos e]; exact hv
  · rw [if_neg e]; exact h j (by omega)
theorem k_sl_0 {S A s : Nat → Int32} {n i m : Int} (h : k_z m s) (hm : n ≤ m) (hi : n ≤ i + 1) : k_sl S A n i s := by
  intro k hk
  refine ⟨fun _ q => ?_, fun _ => h k (by omega)⟩
  obtain ⟨j, q1, q2, _⟩ := q
  omega
theorem k_sl_n {S A s : Nat → Int32} {n i' : Int} {i : Int32} (h : k_sl S A n i.toInt s) (h0 : 0 ≤ i.toInt) (hi : i' = i.toInt - 1) (hq : ¬ ((S i.toNatClampNeg).toInt = 5 ∧ (s i.toNatClampNeg).toInt = 0 ∧ (A i.toNatClampNeg).toInt < i.toInt)) : k_sl S A n i' s := by
  have h4 : i.toNatClampNeg = i.toInt.toNat := rfl
  intro k hk
  rw [h k hk]
  refine not_congr ⟨fun q => ?_, fun q => ?_⟩
  · obtain ⟨j, q1, q2⟩ := q
    exact ⟨j, by omega, q2⟩
  · obtain ⟨j, q1, q2, q3, q4, q5, q6⟩ := q
    by_cases e : j = i.toNatClampNeg
    · subst e
      exact absurd ⟨q4, q6, by omega⟩ hq
    · exact ⟨j, by omega, q2, q3, q4, q5, q6⟩
theorem k_sl_y {S A s : Nat → Int32} {n i' : Int} {i x v : Int32} (h : k_sl S A n i.toInt s) (h0 : 0 ≤ i.toInt) (hn : i.toInt < n) (hi : i' = i.toInt - 1) (hS : (S i.toNatClampNeg).toInt = 5) (hs : (s i.toNatClampNeg).toInt = 0) (hx : x = A i.toNatClampNeg) (hx0 : 0 ≤ x.toInt) (hxi : x.toInt < i.toInt) (hv : v.toInt ≠ 0) : k_sl S A n i' (upd s x.toNatClampNeg v) := by
  have h4 : i.toNatClampNeg = i.toInt.toNat := rfl
  have h5 : x.toNatClampNeg = x.toInt.toNat := rfl
  have hu : ∀ j : Nat, i.toInt ≤ (j : Int) → upd s x.toNatClampNeg v j = s j := fun j hj => by
    unfold upd
    rw [if_neg (by omega)]
  intro k hk
  by_cases e : k = x.toNatClampNeg
  · subst e
    refine ⟨fun q => ?_, fun q => absurd ⟨i.toNatClampNeg, by omega, by omega, by omega, hS, by rw [← hx]; omega, by rw [hu _ (by omega)]; exact hs⟩ q⟩
    exfalso
    unfold upd at q
    rw [if_pos rfl] at q
    exact hv q
  · rw [show upd s x.toNatClampNeg v k = s k by unfold upd; rw [if_neg e], h k hk]
    refine not_congr ⟨fun q => ?_, fun q => ?_⟩
    · obtain ⟨j, q1, q2, q3, q4, q5, q6⟩ := q
      exact ⟨j, by omega, q2, q3, q4, q5, by rw [hu j (by omega)]; exact q6⟩
    · obtain ⟨j, q1, q2, q3, q4, q5, q6⟩ := q
      rw [hu j (by omega)] at q6
      by_cases e2 : j = i.toNatClampNeg
      · subst e2
        rw [← hx] at q5
        exact absurd (show k = x.toNatClampNeg by omega) e
      · exact ⟨j, by omega, q2, q3, q4, q5, q6⟩
def k_cx (S A : Nat → Int32) (n : Int) (s : Nat → Int32) : Prop := k_cnt (fun j => (S j).toInt) (fun j => (A j).toInt) n (fun k => (k : Int) < n ∧ (s k).toInt = 0)
theorem k_cx_of {S A s : Nat → Int32} {n i : Int} (h : k_sl S A n i s) (hi : i < 0) : k_cx S A n s := by
  intro k
  refine ⟨fun q => ⟨q.1, fun g => ?_⟩, fun q => ⟨q.1, (h k q.1).mpr fun g => q.2 ?_⟩⟩
  · obtain ⟨j, g1, g2, g3, g4, g5⟩ := g
    exact (h k q.1).mp q.2 ⟨j, by omega, g2, g1, g3, g4, g5.2⟩
  · obtain ⟨j, g1, g2, g3, g4, g5, g6⟩ := g
    exact ⟨j, g3, g2, g4, g5, g2, g6⟩
def kI (S : Nat → Int32) (j : Nat) : Int := (S j).toInt
def k_rg (S A B : Nat → Int32) (c : Nat → Prop) (n L : Int) : Prop := ∀ k : Nat, (k : Int) < n → c k → (S k).toInt = 2 → (0 ≤ (A k).toInt ∧ (A k).toInt < L) ∧ (0 ≤ (B k).toInt ∧ (B k).toInt < L)
def k_bc (S A B : Nat → Int32) (c : Nat → Prop) (n L : Int) (b : Nat → Int32) : Prop := ∀ l : Nat, (l : Int) < L → k_conn (kI S) (kI A) (kI B) c n (l : Int) (b l).toInt ∧ 0 ≤ (b l).toInt ∧ (b l).toInt ≤ (l : Int)
def k_be (S A B : Nat → Int32) (c : Nat → Prop) (i : Int) (b : Nat → Int32) : Prop := ∀ k : Nat, (k : Int) < i → c k → (S k).toInt = 2 → (b (A k).toNatClampNeg).toInt = (b (B k).toNatClampNeg).toInt
theorem k_bc_0 {S A B : Nat → Int32} {c : Nat → Prop} {n L : Int} {b : Nat → Int32} (h : ∀ l : Nat, (l : Int) < L → (b l).toInt = (l : Int)) : k_bc S A B c n L b := fun l hl => by
  rw [h l hl]
  exact ⟨k_conn_r, by omega, by omega⟩
theorem k_be_0 {S A B : Nat → Int32} {c : Nat → Prop} {i : Int} {b : Nat → Int32} (h : i ≤ 0) : k_be S A B c i b := fun k hk => absurd hk (by omega)
theorem k_be_n {S A B : Nat → Int32} {c : Nat → Prop} {i' : Int} {b : Nat → Int32} {i : Int32} (h : k_be S A B c i.toInt b) (h0 : 0 ≤ i.toInt) (hi : i' = i.toInt + 1) (hq : c i.toNatClampNeg → (S i.toNatClampNeg).toInt = 2 → (b (A i.toNatClampNeg).toNatClampNeg).toInt = (b (B i.toNatClampNeg).toNatClampNeg).toInt) : k_be S A B c i' b := by
  have h4 : i.toNatClampNeg = i.toInt.toNat := rfl
  intro k hk hc hS
  by_cases e : k = i.toNatClampNeg
  · subst e
    exact hq hc hS
  · exact h k (by omega) hc hS
theorem k_be_j {S A B : Nat → Int32} {c : Nat → Prop} {n i' L : Int} {b b' : Nat → Int32} {i : Int32} {lo hi' : Int} (hr : k_rg S A B c n L) (h : k_be S A B c i.toInt b) (h0 : 0 ≤ i.toInt) (hn : i.toInt < n) (hi : i' = i.toInt + 1) (hc : c i.toNatClampNeg) (hS : (S i.toNatClampNeg).toInt = 2) (hb' : ∀ l : Nat, (l : Int) < L → ((b l).toInt = hi' → (b' l).toInt = lo) ∧ ((b l).toInt ≠ hi' → (b' l).toInt = (b l).toInt)) (hx : ((b (A i.toNatClampNeg).toNatClampNeg).toInt = lo ∧ (b (B i.toNatClampNeg).toNatClampNeg).toInt = hi') ∨ ((b (A i.toNatClampNeg).toNatClampNeg).toInt = hi' ∧ (b (B i.toNatClampNeg).toNatClampNeg).toInt = lo)) : k_be S A B c i' b' := by
  have h4 : i.toNatClampNeg = i.toInt.toNat := rfl
  have hcl : ∀ x : Int32, 0 ≤ x.toInt → ((x.toNatClampNeg : Nat) : Int) = x.toInt := fun x hx => Int.toNat_of_nonneg hx
  intro k hk hck hSk
  have r := hr k (by omega) hck hSk
  have ea := hb' (A k).toNatClampNeg (by rw [hcl _ r.1.1]; exact r.1.2)
  have eb := hb' (B k).toNatClampNeg (by rw [hcl _ r.2.1]; exact r.2.2)
  by_cases e : k = i.toNatClampNeg
  · subst e
    by_cases q : lo = hi'
    · rcases hx with hx | hx
      · rw [ea.1 (by omega), eb.1 (by omega)]
      · rw [ea.1 (by omega), eb.1 (by omega)]
    · rcases hx with hx | hx
      · rw [ea.2 (by omega), eb.1 hx.2]; exact hx.1
      · rw [ea.1 hx.1, eb.2 (by omega)]; exact hx.2.symm
  · have g := h k (by omega) hck hSk
    by_cases q : (b (A k).toNatClampNeg).toInt = hi'
    · rw [ea.1 q, eb.1 (by omega)]
    · rw [ea.2 q, eb.2 (by omega)]; exact g
theorem k_bc_j {S A B : Nat → Int32} {c : Nat → Prop} {n L lo hi' : Int} {b b' : Nat → Int32} (h : k_bc S A B c n L b) (hle : lo ≤ hi') (hl0 : 0 ≤ lo) (hcn : k_conn (kI S) (kI A) (kI B) c n hi' lo) (hb' : ∀ l : Nat, (l : Int) < L → ((b l).toInt = hi' → (b' l).toInt = lo) ∧ ((b l).toInt ≠ hi' → (b' l).toInt = (b l).toInt)) : k_bc S A B c n L b' := by
  intro l hl
  obtain ⟨g1, g2, g3⟩ := h l hl
  have e := hb' l hl
  by_cases q : (b l).toInt = hi'
  · rw [e.1 q]
    rw [q] at g1 g3
    exact ⟨k_conn_t g1 hcn, hl0, by omega⟩
  · rw [e.2 q]
    exact ⟨g1, g2, g3⟩
theorem k_bed_fin {S A B : Nat → Int32} {c : Nat → Prop} {n i L : Int} {b : Nat → Int32} (hr : k_rg S A B c n L) (h1 : k_be S A B c i b) (hi : n ≤ i) (h2 : k_bc S A B c n L b) : k_bed (kI S) (kI A) (kI B) c n (kI b) L := by
  refine k_bed_of (fun k g1 g2 g3 => ?_) (fun k g1 g2 g3 => h1 k (by omega) g2 g3) (fun l hl => (h2 l hl).1) (fun l hl => (h2 l hl).2.2)
  have r := hr k g1 g2 g3
  exact ⟨r.1.1, r.1.2, r.2.1, r.2.2⟩
def k_W (E : Int → Int → Prop) (o : Int) (M : Int → Int → Prop) : Prop := (∀ x y : Int, E x y → M x y) ∧ (∀ x y : Int, M x y → k_T E x y) ∧ ∀ x y z : Int, 0 ≤ y → y < o → M x y → M y z → M x z
theorem k_W_0 {E M : Int → Int → Prop} (h : ∀ x y : Int, M x y ↔ E x y) : k_W E 0 M := ⟨fun x y e => (h x y).mpr e, fun x y e => k_T_1 ((h x y).mp e), fun x y z h1 h2 => absurd h2 (by omega)⟩
theorem k_W_s {E M0 M : Int → Int → Prop} {o o' : Int} (h : k_W E o M0) (ho : o' = o + 1) (hM : ∀ x y : Int, M x y ↔ (M0 x y ∨ (M0 x o ∧ M0 o y))) : k_W E o' M := by
  obtain ⟨h1, h2, h3⟩ := h
  refine ⟨fun x y e => (hM x y).mpr (Or.inl (h1 x y e)), fun x y e => ?_, fun x y z y0 yo a b => ?_⟩
  · rcases (hM x y).mp e with g | g
    · exact h2 x y g
    · exact k_T_t (h2 _ _ g.1) (h2 _ _ g.2)
  · rw [hM] at a b
    rw [hM]
    by_cases e : y = o
    · subst e
      refine Or.inr ⟨?_, ?_⟩
      · rcases a with a | a
        · exact a
        · exact a.1
      · rcases b with b | b
        · exact b
        · exact b.2
    · have yl : y < o := by omega
      rcases a with a | a <;> rcases b with b | b
      · exact Or.inl (h3 x y z y0 yl a b)
      · exact Or.inr ⟨h3 x y o y0 yl a b.1, b.2⟩
      · exact Or.inr ⟨a.1, h3 o y z y0 yl a.2 b⟩
      · exact Or.inr ⟨a.1, b.2⟩
theorem k_W_T {E M : Int → Int → Prop} {o L : Int} (h : k_W E o M) (ho : L ≤ o) (hin : ∀ x y : Int, E x y → (0 ≤ x ∧ x < L) ∧ (0 ≤ y ∧ y < L)) (x y : Int) : M x y ↔ k_T E x y := k_warshall h.1 h.2.1 hin (fun x y z h1 h2 => h.2.2 x y z h1 (by omega)) x y
def k_M (L : Int) (lt : Nat → Int32) (x y : Int) : Prop := 0 ≤ x ∧ x < L ∧ 0 ≤ y ∧ y < L ∧ k_bt (lt x.toNat) y
theorem k_bt_orI {t u : Int32} {p : Int} (h0 : 0 ≤ p) (h1 : p < 12) : k_bt (t ||| u) p ↔ k_bt t p ∨ k_bt u p := by
  have e : ((p.toNat : Nat) : Int) = p := Int.toNat_of_nonneg h0
  rw [← e]
  exact k_bt_or t u p.toNat (by omega)
theorem k_bt_1I {p q : Int} (h0 : 0 ≤ p) (h1 : p < 12) (g0 : 0 ≤ q) (g1 : q < 12) : k_bt ((1 : Int32) <<< (Int32.ofInt q &&& 31)) p ↔ p = q := by
  have e : ((p.toNat : Nat) : Int) = p := Int.toNat_of_nonneg h0
  have e2 : ((q.toNat : Nat) : Int) = q := Int.toNat_of_nonneg g0
  rw [← e, ← e2]
  rw [k_bt_1 q.toNat (by omega) p.toNat (by omega)]
  omega
theorem k_bt_0I {p : Int} (h0 : 0 ≤ p) (h1 : p < 12) : ¬ k_bt 0 p := by
  have e : ((p.toNat : Nat) : Int) = p := Int.toNat_of_nonneg h0
  rw [← e]
  exact k_bt_0 p.toNat (by omega)
def k_Ei (S A B : Nat → Int32) (c : Nat → Prop) (i : Int) (b : Nat → Int32) : Int → Int → Prop := k_E (kI S) (kI A) (kI B) c i (kI b)
theorem k_E_n {S A B b : Nat → Int32} {c : Nat → Prop} {i' : Int} {i : Int32} (h0 : 0 ≤ i.toInt) (hi : i' = i.toInt + 1) (hq : ¬ (c i.toNatClampNeg ∧ ((S i.toNatClampNeg).toInt = 0 ∨ (S i.toNatClampNeg).toInt = 1))) (x y : Int) : k_Ei S A B c i' b x y ↔ k_Ei S A B c i.toInt b x y := by
  have h4 : i.toNatClampNeg = i.toInt.toNat := rfl
  refine ⟨fun g => ?_, fun g => ?_⟩
  · obtain ⟨k, g1, g2, g3, g4⟩ := g
    by_cases e : k = i.toNatClampNeg
    · subst e
      exact absurd ⟨g2, g3⟩ hq
    · exact ⟨k, by omega, g2, g3, g4⟩
  · obtain ⟨k, g1, g2⟩ := g
    exact ⟨k, by omega, g2⟩
theorem k_E_y {S A B b : Nat → Int32} {c : Nat → Prop} {i' : Int} {i : Int32} (h0 : 0 ≤ i.toInt) (hi : i' = i.toInt + 1) (hc : c i.toNatClampNeg) (hS : (S i.toNatClampNeg).toInt = 0 ∨ (S i.toNatClampNeg).toInt = 1) (x y : Int) : k_Ei S A B c i' b x y ↔ (k_Ei S A B c i.toInt b x y ∨ (x = (b (A i.toNatClampNeg).toNatClampNeg).toInt ∧ y = (b (B i.toNatClampNeg).toNatClampNeg).toInt)) := by
  have h4 : i.toNatClampNeg = i.toInt.toNat := rfl
  refine ⟨fun g => ?_, fun g => ?_⟩
  · obtain ⟨k, g1, g2, g3, g4⟩ := g
    by_cases e : k = i.toNatClampNeg
    · subst e
      exact Or.inr g4
    · exact Or.inl ⟨k, by omega, g2, g3, g4⟩
  · rcases g with g | g
    · obtain ⟨k, g1, g2⟩ := g
      exact ⟨k, by omega, g2⟩
    · exact ⟨i.toNatClampNeg, by omega, hc, hS, g⟩
def k_c (n : Int) (s : Nat → Int32) (k : Nat) : Prop := (k : Int) < n ∧ (s k).toInt = 0
def k_r3 (S A B : Nat → Int32) (n L : Int) : Prop := ∀ k : Nat, (k : Int) < n → 0 ≤ (S k).toInt → (S k).toInt ≤ 2 → (0 ≤ (A k).toInt ∧ (A k).toInt < L) ∧ (0 ≤ (B k).toInt ∧ (B k).toInt < L)
theorem k_r3_rg {S A B : Nat → Int32} {c : Nat → Prop} {n L : Int} (h : k_r3 S A B n L) : k_rg S A B c n L := fun k h1 _ h3 => h k h1 (by omega) (by omega)
theorem k_r3_a {S A B : Nat → Int32} {n L : Int} {i z : Int32} (h : k_r3 S A B n L) (h0 : 0 ≤ i.toInt) (hn : i.toInt < n) (hS : 0 ≤ (S i.toNatClampNeg).toInt ∧ (S i.toNatClampNeg).toInt ≤ 2) (e : z = A i.toNatClampNeg) : 0 ≤ z.toInt ∧ z.toInt < L := by
  have h4 : i.toNatClampNeg = i.toInt.toNat := rfl
  rw [e]
  exact (h i.toNatClampNeg (by omega) hS.1 hS.2).1
theorem k_r3_b {S A B : Nat → Int32} {n L : Int} {i z : Int32} (h : k_r3 S A B n L) (h0 : 0 ≤ i.toInt) (hn : i.toInt < n) (hS : 0 ≤ (S i.toNatClampNeg).toInt ∧ (S i.toNatClampNeg).toInt ≤ 2) (e : z = B i.toNatClampNeg) : 0 ≤ z.toInt ∧ z.toInt < L := by
  have h4 : i.toNatClampNeg = i.toInt.toNat := rfl
  rw [e]
  exact (h i.toNatClampNeg (by omega) hS.1 hS.2).2
def k_jl (i lo hi : Int) (b b' : Nat → Int32) : Prop := ∀ l : Nat, ((l : Int) < i → ((b l).toInt = hi → (b' l).toInt = lo) ∧ ((b l).toInt ≠ hi → (b' l).toInt = (b l).toInt)) ∧ (i ≤ (l : Int) → b' l = b l)
theorem k_jl_0 {lo hi : Int} {b : Nat → Int32} : k_jl 0 lo hi b b := fun l => ⟨fun h => absurd h (by omega), fun _ => rfl⟩
theorem k_jl_n {i' lo hi : Int} {b b' : Nat → Int32} {i : Int32} (h : k_jl i.toInt lo hi b b') (h0 : 0 ≤ i.toInt) (hi' : i' = i.toInt + 1) (hq : (b' i.toNatClampNeg).toInt ≠ hi) : k_jl i' lo hi b b' := by
  have h4 : i.toNatClampNeg = i.toInt.toNat := rfl
  intro l
  refine ⟨fun g => ?_, fun g => (h l).2 (by omega)⟩
  by_cases e : l = i.toNatClampNeg
  · subst e
    have e2 := (h i.toNatClampNeg).2 (by omega)
    rw [e2] at hq ⊢
    exact ⟨fun q => absurd q hq, fun _ => rfl⟩
  · exact (h l).1 (by omega)
theorem k_jl_y {i' lo hi : Int} {b b' : Nat → Int32} {i v : Int32} (h : k_jl i.toInt lo hi b b') (h0 : 0 ≤ i.toInt) (hi' : i' = i.toInt + 1) (hq : (b' i.toNatClampNeg).toInt = hi) (hv : v.toInt = lo) : k_jl i' lo hi b (upd b' i.toNatClampNeg v) := by
  have h4 : i.toNatClampNeg = i.toInt.toNat := rfl
  intro l
  by_cases e : l = i.toNatClampNeg
  · subst e
    have e2 := (h i.toNatClampNeg).2 (by omega)
    rw [e2] at hq
    rw [show upd b' i.toNatClampNeg v i.toNatClampNeg = v by unfold upd; rw [if_pos rfl]]
    exact ⟨fun _ => ⟨fun _ => hv, fun q => absurd hq q⟩, fun g => absurd g (by omega)⟩
  · rw [show upd b' i.toNatClampNeg v l = b' l by unfold upd; rw [if_neg e]]
    exact ⟨fun g => (h l).1 (by omega), fun g => (h l).2 (by omega)⟩
def k_jn (L p q : Int) (b b' : Nat → Int32) : Prop := ∃ lo hi : Int, lo ≤ hi ∧ ((p = lo ∧ q = hi) ∨ (p = hi ∧ q = lo)) ∧ ∀ l : Nat, (l : Int) < L → ((b l).toInt = hi → (b' l).toInt = lo) ∧ ((b l).toInt ≠ hi → (b' l).toInt = (b l).toInt)
theorem k_jn_of {L p q lo hi i : Int} {b b' : Nat → Int32} (h : k_jl i lo hi b b') (hi' : L ≤ i) (h1 : lo ≤ hi) (h2 : (p = lo ∧ q = hi) ∨ (p = hi ∧ q = lo)) : k_jn L p q b b' := ⟨lo, hi, h1, h2, fun l hl => (h l).1 (by omega)⟩
theorem k_be_jn {S A B : Nat → Int32} {c : Nat → Prop} {n i' L p q : Int} {b b' : Nat → Int32} {i : Int32} (hr : k_rg S A B c n L) (h : k_be S A B c i.toInt b) (h0 : 0 ≤ i.toInt) (hn : i.toInt < n) (hi : i' = i.toInt + 1) (hc : c i.toNatClampNeg) (hS : (S i.toNatClampNeg).toInt = 2) (hj : k_jn L p q b b') (hp : (b (A i.toNatClampNeg).toNatClampNeg).toInt = p) (hq : (b (B i.toNatClampNeg).toNatClampNeg).toInt = q) : k_be S A B c i' b' := by
  obtain ⟨lo, hi2, h1, h2, h3⟩ := hj
  refine k_be_j (lo := lo) (hi' := hi2) hr h h0 hn hi hc hS h3 ?_
  rcases h2 with h2 | h2
  · exact Or.inl ⟨hp.trans h2.1, hq.trans h2.2⟩
  · exact Or.inr ⟨hp.trans h2.1, hq.trans h2.2⟩
theorem k_bc_jn {S A B : Nat → Int32} {c : Nat → Prop} {n L p q : Int} {b b' : Nat → Int32} {i : Int32} (hr : k_rg S A B c n L) (h : k_bc S A B c n L b) (h0 : 0 ≤ i.toInt) (hn : i.toInt < n) (hc : c i.toNatClampNeg) (hS : (S i.toNatClampNeg).toInt = 2) (hj : k_jn L p q b b') (hp : (b (A i.toNatClampNeg).toNatClampNeg).toInt = p) (hq : (b (B i.toNatClampNeg).toNatClampNeg).toInt = q) : k_bc S A B c n L b' := by
  have h4 : i.toNatClampNeg = i.toInt.toNat := rfl
  obtain ⟨lo, hi2, h1, h2, h3⟩ := hj
  have r := hr i.toNatClampNeg (by omega) hc hS
  have ea : (((A i.toNatClampNeg).toNatClampNeg : Nat) : Int) = (A i.toNatClampNeg).toInt := Int.toNat_of_nonneg r.1.1
  have eb : (((B i.toNatClampNeg).toNatClampNeg : Nat) : Int) = (B i.toNatClampNeg).toInt := Int.toNat_of_nonneg r.2.1
  have ga := h (A i.toNatClampNeg).toNatClampNeg (by rw [ea]; exact r.1.2)
  have gb := h (B i.toNatClampNeg).toNatClampNeg (by rw [eb]; exact r.2.2)
  rw [ea] at ga
  rw [eb] at gb
  have hab : k_conn (kI S) (kI A) (kI B) c n (A i.toNatClampNeg).toInt (B i.toNatClampNeg).toInt := k_conn_1 (by omega) hc hS
  rw [hp] at ga
  rw [hq] at gb
  have hpq : k_conn (kI S) (kI A) (kI B) c n p q := k_conn_t (k_conn_s ga.1) (k_conn_t hab gb.1)
  rcases h2 with h2 | h2
  · refine k_bc_j (lo := lo) (hi' := hi2) h h1 (by omega) ?_ h3
    rw [← h2.1, ← h2.2]
    exact k_conn_s hpq
  · refine k_bc_j (lo := lo) (hi' := hi2) h h1 (by omega) ?_ h3
    rw [← h2.1, ← h2.2]
    exact hpq
def k_id (i : Int) (b : Nat → Int32) : Prop := ∀ l : Nat, (l : Int) < i → (b l).toInt = (l : Int)
theorem k_id_0 {b : Nat → Int32} : k_id 0 b := fun l h => absurd h (by omega)
theorem k_id_s {i' : Int} {b : Nat → Int32} {i : Int32} (h : k_id i.toInt b) (h0 : 0 ≤ i.toInt) (hi : i' = i.toInt + 1) : k_id i' (upd b i.toNatClampNeg i) := by
  have h4 : i.toNatClampNeg = i.toInt.toNat := rfl
  intro l hl
  unfold upd
  by_cases e : l = i.toNatClampNeg
  · rw [if_pos e]; omega
  · rw [if_neg e]; exact h l (by omega)
theorem k_id_bc {S A B : Nat → Int32} {c : Nat → Prop} {n L i : Int} {b : Nat → Int32} (h : k_id i b) (hi : L ≤ i) : k_bc S A B c n L b := k_bc_0 (fun l hl => h l (by omega))
def k_BD (S A B s : Nat → Int32) (n L : Int) (b : Nat → Int32) : Prop := k_bc S A B (k_c n s) n L b ∧ k_bed (kI S) (kI A) (kI B) (k_c n s) n (kI b) L
theorem k_BD_of {S A B s : Nat → Int32} {n i L : Int} {b : Nat → Int32} (hr : k_r3 S A B n L) (h1 : k_be S A B (k_c n s) i b) (hi : n ≤ i) (h2 : k_bc S A B (k_c n s) n L b) : k_BD S A B s n L b := ⟨h2, k_bed_fin (k_r3_rg hr) h1 hi h2⟩
def k_bl (L : Int) (b : Nat → Int32) : Prop := ∀ l : Nat, (l : Int) < L → 0 ≤ (b l).toInt ∧ (b l).toInt < L
theorem k_BD_bl {S A B s : Nat → Int32} {n L : Int} {b : Nat → Int32} (h : k_BD S A B s n L b) : k_bl L b := fun l hl => by
  have g := (h.1 l hl).2
  omega
theorem k_bl_a {L : Int} {b : Nat → Int32} {x z : Int32} (h : k_bl L b) (hx : 0 ≤ x.toInt ∧ x.toInt < L) (e : z = b x.toNatClampNeg) : 0 ≤ z.toInt ∧ z.toInt < L := by
  have h4 : x.toNatClampNeg = x.toInt.toNat := rfl
  rw [e]
  exact h x.toNatClampNeg (by omega)
theorem k_bt_of {t p w z : Int32} {q : Int} (h1 : w = t >>> (p &&& 31)) (h2 : z = w &&& 1) (hq : q = p.toInt) (h : z.toInt ≠ 0) : k_bt t q := by
  subst hq
  unfold k_bt f_bit
  rw [Int32.ofInt_toInt, ← h1, ← h2]
  exact h
theorem k_bt_no {t p w z : Int32} {q : Int} (h1 : w = t >>> (p &&& 31)) (h2 : z = w &&& 1) (hq : q = p.toInt) (h : z.toInt = 0) : ¬ k_bt t q := by
  subst hq
  unfold k_bt f_bit
  rw [Int32.ofInt_toInt, ← h1, ← h2]
  exact fun g => g h
def k_me (E : Int → Int → Prop) (L : Int) (lt : Nat → Int32) : Prop := ∀ x y : Int, k_M L lt x y ↔ E x y
theorem k_me_0 {S A B b : Nat → Int32} {c : Nat → Prop} {i L : Int} {lt : Nat → Int32} (h : k_z i lt) (hi : L ≤ i) (hL : L ≤ 12) : k_me (k_Ei S A B c 0 b) L lt := by
  intro x y
  refine ⟨fun g => ?_, fun g => ?_⟩
  · obtain ⟨g1, g2, g3, g4, g5⟩ := g
    have e := h x.toNat (by omega)
    rw [show lt x.toNat = 0 from z_eq' e] at g5
    exact absurd g5 (k_bt_0I g3 (by omega))
  · obtain ⟨k, g1, _⟩ := g
    omega
theorem k_me_n {S A B b : Nat → Int32} {c : Nat → Prop} {i' L : Int} {lt : Nat → Int32} {i : Int32} (h : k_me (k_Ei S A B c i.toInt b) L lt) (h0 : 0 ≤ i.toInt) (hi : i' = i.toInt + 1) (hq : ¬ (c i.toNatClampNeg ∧ ((S i.toNatClampNeg).toInt = 0 ∨ (S i.toNatClampNeg).toInt = 1))) : k_me (k_Ei S A B c i' b) L lt := fun x y => (h x y).trans (k_E_n h0 hi hq x y).symm
theorem k_me_y {S A B b : Nat → Int32} {c : Nat → Prop} {i' L : Int} {lt : Nat → Int32} {i u v w : Int32} (h : k_me (k_Ei S A B c i.toInt b) L lt) (h0 : 0 ≤ i.toInt) (hi : i' = i.toInt + 1) (hc : c i.toNatClampNeg) (hS : (S i.toNatClampNeg).toInt = 0 ∨ (S i.toNatClampNeg).toInt = 1) (hu : u = b (A i.toNatClampNeg).toNatClampNeg) (hv : v = b (B i.toNatClampNeg).toNatClampNeg) (hu0 : 0 ≤ u.toInt ∧ u.toInt < L) (hv0 : 0 ≤ v.toInt ∧ v.toInt < L) (hL : L ≤ 12) (hw : w = lt u.toNatClampNeg ||| ((1 : Int32) <<< (v &&& 31))) : k_me (k_Ei S A B c i' b) L (upd lt u.toNatClampNeg w) := by
  have h4 : u.toNatClampNeg = u.toInt.toNat := rfl
  intro x y
  rw [k_E_y h0 hi hc hS x y, ← hu, ← hv, ← h x y]
  unfold k_M
  by_cases hx : 0 ≤ x ∧ x < L ∧ 0 ≤ y ∧ y < L
  · obtain ⟨x0, x1, y0, y1⟩ := hx
    by_cases e : x = u.toInt
    · have e2 : x.toNat = u.toNatClampNeg := by omega
      rw [show upd lt u.toNatClampNeg w x.toNat = w by unfold upd; rw [if_pos e2], hw, k_bt_orI y0 (by omega), ← e2]
      have q := k_bt_1I (p := y) (q := v.toInt) y0 (by omega) hv0.1 (by omega)
      rw [Int32.ofInt_toInt] at q
      rw [q]
      refine ⟨fun g => ?_, fun g => ?_⟩
      · rcases g.2.2.2.2 with g | g
        · exact Or.inl ⟨x0, x1, y0, y1, g⟩
        · exact Or.inr ⟨e, g⟩
      · rcases g with g | g
        · exact ⟨x0, x1, y0, y1, Or.inl g.2.2.2.2⟩
        · exact ⟨x0, x1, y0, y1, Or.inr g.2⟩
    · have e2 : ¬ x.toNat = u.toNatClampNeg := by omega
      rw [show upd lt u.toNatClampNeg w x.toNat = lt x.toNat by unfold upd; rw [if_neg e2]]
      exact ⟨fun g => Or.inl g, fun g => g.elim id (fun g => absurd g.1 e)⟩
  · refine ⟨fun g => absurd ⟨g.1, g.2.1, g.2.2.1, g.2.2.2.1⟩ hx, fun g => ?_⟩
    rcases g with g | g
    · exact absurd ⟨g.1, g.2.1, g.2.2.1, g.2.2.2.1⟩ hx
    · exact absurd ⟨by omega, by omega, by omega, by omega⟩ hx
theorem k_me_W {E : Int → Int → Prop} {L : Int} {lt : Nat → Int32} (h : k_me E L lt) : k_W E 0 (k_M L lt) := k_W_0 h
def k_wi (L o i : Int) (l0 lt : Nat → Int32) : Prop := ∀ x y : Int, k_M L lt x y ↔ (k_M L l0 x y ∨ (x < i ∧ k_M L l0 x o ∧ k_M L l0 o y))
theorem k_wi_0 {L o : Int} {l0 : Nat → Int32} : k_wi L o 0 l0 l0 := fun x y => ⟨Or.inl, fun h => h.elim id (fun g => absurd g.2.1.1 (by omega))⟩
theorem k_wi_n {L o i' : Int} {l0 lt : Nat → Int32} {i : Int32} (h : k_wi L o i.toInt l0 lt) (hi : i' = i.toInt + 1) (hq : ¬ k_M L lt i.toInt o) : k_wi L o i' l0 lt := by
  intro x y
  rw [h x y]
  refine ⟨fun g => g.imp id (fun g => ⟨by omega, g.2⟩), fun g => ?_⟩
  rcases g with g | g
  · exact Or.inl g
  · by_cases e : x = i.toInt
    · subst e
      exact absurd ((h _ o).mpr (Or.inl g.2.1)) hq
    · exact Or.inr ⟨by omega, g.2⟩
theorem k_wi_y {L o i' : Int} {l0 lt : Nat → Int32} {i oo w : Int32} (h : k_wi L o i.toInt l0 lt) (ho : o = oo.toInt) (h0 : 0 ≤ i.toInt ∧ i.toInt < L) (ho0 : 0 ≤ o ∧ o < L) (hL : L ≤ 12) (hi : i' = i.toInt + 1) (hq : k_M L lt i.toInt o) (hw : w = lt i.toNatClampNeg ||| lt oo.toNatClampNeg) : k_wi L o i' l0 (upd lt i.toNatClampNeg w) := by
  have h4 : i.toNatClampNeg = i.toInt.toNat := rfl
  have h5 : oo.toNatClampNeg = oo.toInt.toNat := rfl
  have hio : k_M L l0 i.toInt o := by
    rcases (h _ o).mp hq with g | g
    · exact g
    · exact g.2.1
  have hoy : ∀ y : Int, k_M L lt o y ↔ k_M L l0 o y := fun y => by
    rw [h o y]
    refine ⟨fun g => ?_, Or.inl⟩
    rcases g with g | g
    · exact g
    · exact g.2.2
  intro x y
  by_cases e : x = i.toInt
  · have e2 : x.toNat = i.toNatClampNeg := by omega
    have key : k_M L (upd lt i.toNatClampNeg w) x y ↔ (k_M L lt x y ∨ k_M L lt o y) := by
      unfold k_M
      rw [show upd lt i.toNatClampNeg w x.toNat = w by unfold upd; rw [if_pos e2], hw, e2, show o.toNat = oo.toNatClampNeg by omega]
      refine ⟨fun g => ?_, fun g => ?_⟩
      · obtain ⟨g1, g2, g3, g4, g5⟩ := g
        rcases (k_bt_orI g3 (by omega)).mp g5 with g5 | g5
        · exact Or.inl ⟨g1, g2, g3, g4, g5⟩
        · exact Or.inr ⟨ho0.1, ho0.2, g3, g4, g5⟩
      · rcases g with g | g
        · exact ⟨g.1, g.2.1, g.2.2.1, g.2.2.2.1, (k_bt_orI g.2.2.1 (by omega)).mpr (Or.inl g.2.2.2.2)⟩
        · exact ⟨by omega, by omega, g.2.2.1, g.2.2.2.1, (k_bt_orI g.2.2.1 (by omega)).mpr (Or.inr g.2.2.2.2)⟩
    rw [key, h x y, hoy y]
    subst e
    refine ⟨fun g => ?_, fun g => ?_⟩
    · rcases g with (g | g) | g
      · exact Or.inl g
      · exact Or.inr ⟨by omega, g.2⟩
      · exact Or.inr ⟨by omega, hio, g⟩
    · rcases g with g | g
      · exact Or.inl (Or.inl g)
      · exact Or.inr g.2.2
  · have key : k_M L (upd lt i.toNatClampNeg w) x y ↔ k_M L lt x y := by
      unfold k_M
      refine ⟨fun g => ?_, fun g => ?_⟩
      · have e2 : ¬ x.toNat = i.toNatClampNeg := by have := g.1; omega
        rw [show upd lt i.toNatClampNeg w x.toNat = lt x.toNat by unfold upd; rw [if_neg e2]] at g
        exact g
      · have e2 : ¬ x.toNat = i.toNatClampNeg := by have := g.1; omega
        rw [show upd lt i.toNatClampNeg w x.toNat = lt x.toNat by unfold upd; rw [if_neg e2]]
        exact g
    rw [key, h x y]
    exact ⟨fun g => g.imp id (fun g => ⟨by omega, g.2⟩), fun g => g.imp id (fun g => ⟨by omega, g.2⟩)⟩
theorem k_wi_W {E : Int → Int → Prop} {L o o' i : Int} {l0 lt : Nat → Int32} (hW : k_W E o (k_M L l0)) (h : k_wi L o i l0 lt) (hi : L ≤ i) (ho : o' = o + 1) : k_W E o' (k_M L lt) := by
  refine k_W_s hW ho (fun x y => ?_)
  rw [h x y]
  exact ⟨fun g => g.imp id (fun g => g.2), fun g => g.imp id (fun g => ⟨by have := g.1.2.1; omega, g⟩)⟩
def k_LT (S A B s : Nat → Int32) (n L : Int) (b lt : Nat → Int32) : Prop := ∀ x y : Int, k_M L lt x y ↔ k_T (k_Ei S A B (k_c n s) n b) x y
theorem k_Ei_in {S A B b : Nat → Int32} {c : Nat → Prop} {n L : Int} (hr : k_r3 S A B n L) (hb : k_bl L b) (x y : Int) (h : k_Ei S A B c n b x y) : (0 ≤ x ∧ x < L) ∧ (0 ≤ y ∧ y < L) := by
  obtain ⟨k, h1, h2, h3, h4, h5⟩ := h
  have r := hr k h1 (by show 0 ≤ kI S k; omega) (by show kI S k ≤ 2; omega)
  have ga := hb (kI A k).toNat (by have := r.1; show (((A k).toInt.toNat : Nat) : Int) < L; omega)
  have gb := hb (kI B k).toNat (by have := r.2; show (((B k).toInt.toNat : Nat) : Int) < L; omega)
  rw [h4, h5]
  exact ⟨ga, gb⟩
theorem k_LT_of {S A B s b lt : Nat → Int32} {n L o : Int} (hr : k_r3 S A B n L) (hb : k_bl L b) (h : k_W (k_Ei S A B (k_c n s) n b) o (k_M L lt)) (ho : L ≤ o) : k_LT S A B s n L b lt := fun x y => k_W_T h ho (fun x y e => k_Ei_in hr hb x y e) x y
theorem k_Mi {L : Int} {lt : Nat → Int32} {x y : Int32} (hx : 0 ≤ x.toInt ∧ x.toInt < L) (hy : 0 ≤ y.toInt ∧ y.toInt < L) : k_M L lt x.toInt y.toInt ↔ k_bt (lt x.toNatClampNeg) y.toInt := ⟨fun h => h.2.2.2.2, fun h => ⟨hx.1, hx.2, hy.1, hy.2, h⟩⟩
def k_nr (L i : Int) (lt : Nat → Int32) : Prop := ∀ x : Int, x < i → ¬ k_M L lt x x
theorem k_nr_0 {L : Int} {lt : Nat → Int32} : k_nr L 0 lt := fun x h g => absurd g.1 (by omega)
theorem k_nr_s {L i' : Int} {lt : Nat → Int32} {i : Int32} (h : k_nr L i.toInt lt) (hi : i' = i.toInt + 1) (hq : ¬ k_bt (lt i.toNatClampNeg) i.toInt) : k_nr L i' lt := by
  intro x hx g
  by_cases e : x = i.toInt
  · subst e
    exact hq g.2.2.2.2
  · exact h x (by omega) g
def k_ring (L : Int) (lt : Nat → Int32) : Prop := ∃ x : Int, k_M L lt x x
theorem k_ring_no {L i : Int} {lt : Nat → Int32} (h : k_nr L i lt) (hi : L ≤ i) : ¬ k_ring L lt := fun ⟨x, g⟩ => h x (by have := g.2.1; omega) g
theorem k_cn {x : Int32} (h : 0 ≤ x.toInt) : ((x.toNatClampNeg : Nat) : Int) = x.toInt := Int.toNat_of_nonneg h
theorem k_me_c {S A B s b lt : Nat → Int32} {n i L : Int} (h : k_me (k_Ei S A B (k_c n s) i b) L lt) (hi : n ≤ i) : k_me (k_Ei S A B (k_c n s) n b) L lt := fun x y => (h x y).trans ⟨fun ⟨k, _, g2, g3⟩ => ⟨k, g2.1, g2, g3⟩, fun ⟨k, g1, g2⟩ => ⟨k, by omega, g2⟩⟩
def k_tr (M : Int → Int → Prop) : Prop := (∀ x y z : Int, M x y → M y z → M x z) ∧ ∀ x : Int, ¬ M x x
theorem k_tr_of {S A B s b lt : Nat → Int32} {n L : Int} (h : k_LT S A B s n L b lt) (hr : ¬ k_ring L lt) : k_tr (k_M L lt) := ⟨fun x y z h1 h2 => (h x z).mpr (k_T_t ((h x y).mp h1) ((h y z).mp h2)), fun x g => hr ⟨x, g⟩⟩
theorem k_M_in {L : Int} {lt : Nat → Int32} (x y : Int) (h : k_M L lt x y) : 0 ≤ y ∧ y < L := ⟨h.2.2.1, h.2.2.2.1⟩
theorem k_rs_b {M : Int → Int → Prop} {L : Int} {r : Nat → Int32} {x z : Int32} (hin : ∀ x y : Int, M x y → 0 ≤ y ∧ y < L) (hT : k_tr M) (hs : k_rs M L r) (hL : L ≤ 12) (hx : 0 ≤ x.toInt ∧ x.toInt < L) (e : z = r x.toNatClampNeg) : 0 ≤ z.toInt ∧ z.toInt ≤ 11 := by
  have h4 : x.toNatClampNeg = x.toInt.toNat := rfl
  rw [e]
  obtain ⟨h1, h2⟩ := hs x.toNatClampNeg (by omega)
  have eL : ((L.toNat : Nat) : Int) = L := by omega
  have g := k_ch_lt (L := L.toNat) hT.1 hT.2 (fun x y q => by rw [eL]; exact hin x y q) ⟨by omega, by omega⟩ h2
  omega
def k_ri (M : Int → Int → Prop) (d i : Int) (r0 r : Nat → Int32) : Prop := (∀ x : Nat, (x : Int) ≠ d → r x = r0 x) ∧ (r0 d.toNat).toInt ≤ (r d.toNat).toInt ∧ ∀ y : Nat, (y : Int) < i → M d (y : Int) → (r0 y).toInt + 1 ≤ (r d.toNat).toInt
theorem k_ri_0 {M : Int → Int → Prop} {d : Int} {r : Nat → Int32} : k_ri M d 0 r r := ⟨fun _ _ => rfl, by omega, fun y h => absurd h (by omega)⟩
theorem k_ri_n {M : Int → Int → Prop} {d i' : Int} {r0 r : Nat → Int32} {i : Int32} (h : k_ri M d i.toInt r0 r) (h0 : 0 ≤ i.toInt) (hi : i' = i.toInt + 1) (hq : ¬ M d i.toInt) : k_ri M d i' r0 r := by
  refine ⟨h.1, h.2.1, fun y hy hM => ?_⟩
  by_cases e : (y : Int) = i.toInt
  · rw [e] at hM
    exact absurd hM hq
  · exact h.2.2 y (by omega) hM
theorem k_ri_y {M : Int → Int → Prop} {i' : Int} {r0 r : Nat → Int32} {i d v : Int32} (hT : k_tr M) (h : k_ri M d.toInt i.toInt r0 r) (h0 : 0 ≤ i.toInt) (hd : 0 ≤ d.toInt) (hi : i' = i.toInt + 1) (hq : M d.toInt i.toInt) (hv : (v.toInt = (r d.toNatClampNeg).toInt ∨ v.toInt = (r i.toNatClampNeg).toInt + 1) ∧ v.toInt ≥ (r d.toNatClampNeg).toInt ∧ v.toInt ≥ (r i.toNatClampNeg).toInt + 1) : k_ri M d.toInt i' r0 (upd r d.toNatClampNeg v) := by
  have h4 : i.toNatClampNeg = i.toInt.toNat := rfl
  have h5 : d.toNatClampNeg = d.toInt.toNat := rfl
  have hne : ¬ i.toInt = d.toInt := fun e => hT.2 d.toInt (by rw [e] at hq; exact hq)
  have ed : upd r d.toNatClampNeg v d.toInt.toNat = v := by unfold upd; rw [if_pos h5.symm]
  have ei : r i.toNatClampNeg = r0 i.toNatClampNeg := h.1 _ (by omega)
  refine ⟨fun x hx => ?_, ?_, fun y hy hM => ?_⟩
  · unfold upd
    rw [if_neg (by omega)]
    exact h.1 x hx
  · rw [ed]
    have := h.2.1
    rw [← h5] at this ⊢
    omega
  · rw [ed]
    by_cases e : y = i.toNatClampNeg
    · rw [e, ← ei]
      omega
    · have := h.2.2 y (by omega) hM
      rw [← h5] at this
      omega
theorem k_rs_y {M : Int → Int → Prop} {L : Int} {r : Nat → Int32} {i d v : Int32} (h : k_rs M L r) (h0 : 0 ≤ i.toInt ∧ i.toInt < L) (hd : 0 ≤ d.toInt ∧ d.toInt < L) (hq : M d.toInt i.toInt) (hv : v.toInt = (r d.toNatClampNeg).toInt ∨ v.toInt = (r i.toNatClampNeg).toInt + 1) : k_rs M L (upd r d.toNatClampNeg v) := by
  have h4 : i.toNatClampNeg = i.toInt.toNat := rfl
  have h5 : d.toNatClampNeg = d.toInt.toNat := rfl
  intro x hx
  by_cases e : x = d.toNatClampNeg
  · rw [show upd r d.toNatClampNeg v x = v by unfold upd; rw [if_pos e]]
    have ex : (x : Int) = d.toInt := by omega
    rcases hv with hv | hv
    · rw [hv, e]
      exact h _ (by omega)
    · rw [hv, ex]
      obtain ⟨g1, g2⟩ := h i.toNatClampNeg (by omega)
      rw [k_cn h0.1] at g2
      exact ⟨by omega, k_ch_s hq g1 g2⟩
  · rw [show upd r d.toNatClampNeg v x = r x by unfold upd; rw [if_neg e]]
    exact h x hx
def k_rr (M : Int → Int → Prop) (L d : Int) (r0 r : Nat → Int32) : Prop := k_ri M d L r0 r
theorem k_rr_of {M : Int → Int → Prop} {L d i : Int} {r0 r : Nat → Int32} (h : k_ri M d i r0 r) (hi : L ≤ i) : k_rr M L d r0 r := ⟨h.1, h.2.1, fun y hy hM => h.2.2 y (by omega) hM⟩
theorem k_rp_s {M : Int → Int → Prop} {L i' : Int} {r0 r g : Nat → Int32} {i : Int32} (h : k_rp M L r0 i.toInt r) (h0 : 0 ≤ i.toInt) (hi : i' = i.toInt + 1) (hr : k_rr M L i.toInt r g) : k_rp M L r0 i' g := by
  have hge : ∀ x : Nat, (x : Int) < L → (r x).toInt ≤ (g x).toInt := fun x hx => by
    by_cases e : (x : Int) = i.toInt
    · have := hr.2.1
      rw [← e] at this
      exact this
    · rw [hr.1 x e]
      omega
  refine ⟨fun x hx => Int.le_trans (h.1 x hx) (hge x hx), fun x hx y hy hM => ?_⟩
  by_cases e : (x : Int) = i.toInt
  · rw [e] at hM
    have q := hr.2.2 y hy hM
    have q2 := h.1 y hy
    rw [show i.toInt.toNat = x by omega] at q
    omega
  · have q := h.2 x (by omega) y hy hM
    rw [hr.1 x e]
    exact q
def k_RK (M : Int → Int → Prop) (L : Int) (r : Nat → Int32) : Prop := ∀ x : Nat, (x : Int) < L → k_rank M (x : Int) (r x).toInt
theorem k_RK_of {M : Int → Int → Prop} {L t : Int} {r : Nat → Int32} (hin : ∀ x y : Int, M x y → 0 ≤ y ∧ y < L) (hT : k_tr M) (hs : k_rs M L r) (h : k_rt M L t r) (ht : L ≤ t + 1) : k_RK M L r := by
  intro x hx
  have eL : ((L.toNat : Nat) : Int) = L := by omega
  rw [← eL] at hs h hx ht
  exact k_rank_of hT.1 hT.2 (fun x y q => by rw [eL]; exact hin x y q) hs h ht x hx
theorem k_z_rs {T : Int → Int → Prop} {L i : Int} {r : Nat → Int32} (h : k_z i r) (hi : L ≤ i) : k_rs T L r := k_rs_0 (fun x hx => h x (by omega))
def k_rd (S A : Nat → Int32) (n L : Int) : Prop := ∀ k : Nat, (k : Int) < n → (S k).toInt = 3 → 0 ≤ (A k).toInt ∧ (A k).toInt < L
theorem k_rd_a {S A : Nat → Int32} {n L : Int} {i z : Int32} (h : k_rd S A n L) (h0 : 0 ≤ i.toInt) (hn : i.toInt < n) (hS : (S i.toNatClampNeg).toInt = 3) (e : z = A i.toNatClampNeg) : 0 ≤ z.toInt ∧ z.toInt < L := by
  have h4 : i.toNatClampNeg = i.toInt.toNat := rfl
  rw [e]
  exact h i.toNatClampNeg (by omega) hS
def k_D (S A V s b : Nat → Int32) (n i : Int) (x v : Int) : Prop := ∃ k : Nat, (k : Int) < i ∧ k_c n s k ∧ (S k).toInt = 3 ∧ x = (b (A k).toNatClampNeg).toInt ∧ v = (V k).toInt
theorem k_D_n {S A V s b : Nat → Int32} {n i' : Int} {i : Int32} (h0 : 0 ≤ i.toInt) (hi : i' = i.toInt + 1) (hq : ¬ (k_c n s i.toNatClampNeg ∧ (S i.toNatClampNeg).toInt = 3)) (x v : Int) : k_D S A V s b n i' x v ↔ k_D S A V s b n i.toInt x v := by
  have h4 : i.toNatClampNeg = i.toInt.toNat := rfl
  refine ⟨fun ⟨k, g1, g2, g3, g4⟩ => ?_, fun ⟨k, g1, g2⟩ => ⟨k, by omega, g2⟩⟩
  by_cases e : k = i.toNatClampNeg
  · subst e
    exact absurd ⟨g2, g3⟩ hq
  · exact ⟨k, by omega, g2, g3, g4⟩
theorem k_D_y {S A V s b : Nat → Int32} {n i' : Int} {i : Int32} (h0 : 0 ≤ i.toInt) (hi : i' = i.toInt + 1) (hc : k_c n s i.toNatClampNeg) (hS : (S i.toNatClampNeg).toInt = 3) (x v : Int) : k_D S A V s b n i' x v ↔ (k_D S A V s b n i.toInt x v ∨ (x = (b (A i.toNatClampNeg).toNatClampNeg).toInt ∧ v = (V i.toNatClampNeg).toInt)) := by
  have h4 : i.toNatClampNeg = i.toInt.toNat := rfl
  refine ⟨fun ⟨k, g1, g2, g3, g4⟩ => ?_, fun g => ?_⟩
  · by_cases e : k = i.toNatClampNeg
    · subst e
      exact Or.inr g4
    · exact Or.inl ⟨k, by omega, g2, g3, g4⟩
  · rcases g with ⟨k, g1, g2⟩ | g
    · exact ⟨k, by omega, g2⟩
    · exact ⟨i.toNatClampNeg, by omega, hc, hS, g⟩
theorem k_D_c {S A V s b : Nat → Int32} {n i : Int} (hi : n ≤ i) (x v : Int) : k_D S A V s b n i x v ↔ k_D S A V s b n n x v := ⟨fun ⟨k, _, g2, g3⟩ => ⟨k, g2.1, g2, g3⟩, fun ⟨k, g1, g2⟩ => ⟨k, by omega, g2⟩⟩
def k_m0 (D : Int → Int → Prop) (L : Int) (e : Nat → Int32) : Prop := ∀ x : Nat, (x : Int) < L → 0 ≤ (e x).toInt ∧ ((e x).toInt = 0 ∨ D (x : Int) (e x).toInt) ∧ ∀ w : Int, D (x : Int) w → w ≤ (e x).toInt
def k_n0 (D : Int → Int → Prop) (L : Int) (e : Nat → Int32) : Prop := ∀ x : Nat, (x : Int) < L → (e x).toInt ≤ 9999 ∧ ((e x).toInt = 9999 ∨ D (x : Int) (e x).toInt) ∧ ∀ w : Int, D (x : Int) w → (e x).toInt ≤ w
theorem k_m0_i {D D' : Int → Int → Prop} {L : Int} {e : Nat → Int32} (h : k_m0 D L e) (hd : ∀ x v : Int, D' x v ↔ D x v) : k_m0 D' L e := fun x hx => ⟨(h x hx).1, (h x hx).2.1.imp id (hd _ _).mpr, fun w g => (h x hx).2.2 w ((hd _ _).mp g)⟩
theorem k_n0_i {D D' : Int → Int → Prop} {L : Int} {e : Nat → Int32} (h : k_n0 D L e) (hd : ∀ x v : Int, D' x v ↔ D x v) : k_n0 D' L e := fun x hx => ⟨(h x hx).1, (h x hx).2.1.imp id (hd _ _).mpr, fun w g => (h x hx).2.2 w ((hd _ _).mp g)⟩
theorem k_m0_y {D D' : Int → Int → Prop} {L w : Int} {e : Nat → Int32} {u z : Int32} (h : k_m0 D L e) (hu : 0 ≤ u.toInt) (hd : ∀ x v : Int, D' x v ↔ (D x v ∨ (x = u.toInt ∧ v = w))) (hz : (z.toInt = (e u.toNatClampNeg).toInt ∨ z.toInt = w) ∧ z.toInt ≥ (e u.toNatClampNeg).toInt ∧ z.toInt ≥ w) : k_m0 D' L (upd e u.toNatClampNeg z) := by
  have h4 : u.toNatClampNeg = u.toInt.toNat := rfl
  intro x hx
  obtain ⟨g1, g2, g3⟩ := h x hx
  by_cases q : x = u.toNatClampNeg
  · have qx : (x : Int) = u.toInt := by omega
    rw [show upd e u.toNatClampNeg z x = z by unfold upd; rw [if_pos q]]
    rw [q] at g1 g2 g3
    refine ⟨by omega, ?_, fun v g => ?_⟩
    · rcases hz.1 with hz1 | hz1
      · rw [hz1]
        rcases g2 with g2 | g2
        · exact Or.inl g2
        · refine Or.inr ((hd _ _).mpr (Or.inl ?_))
          rw [q]
          exact g2
      · exact Or.inr ((hd _ _).mpr (Or.inr ⟨qx, hz1⟩))
    · rcases (hd _ _).mp g with g | g
      · rw [q] at g
        have := g3 v g
        omega
      · omega
  · have qx : ¬ (x : Int) = u.toInt := by omega
    rw [show upd e u.toNatClampNeg z x = e x by unfold upd; rw [if_neg q]]
    refine ⟨g1, g2.imp id (fun g => (hd _ _).mpr (Or.inl g)), fun v g => ?_⟩
    rcases (hd _ _).mp g with g | g
    · exact g3 v g
    · exact absurd g.1 qx
theorem k_n0_y {D D' : Int → Int → Prop} {L w : Int} {e : Nat → Int32} {u z : Int32} (h : k_n0 D L e) (hu : 0 ≤ u.toInt) (hd : ∀ x v : Int, D' x v ↔ (D x v ∨ (x = u.toInt ∧ v = w))) (hz : (z.toInt = (e u.toNatClampNeg).toInt ∨ z.toInt = w) ∧ z.toInt ≤ (e u.toNatClampNeg).toInt ∧ z.toInt ≤ w) : k_n0 D' L (upd e u.toNatClampNeg z) := by
  have h4 : u.toNatClampNeg = u.toInt.toNat := rfl
  intro x hx
  obtain ⟨g1, g2, g3⟩ := h x hx
  by_cases q : x = u.toNatClampNeg
  · have qx : (x : Int) = u.toInt := by omega
    rw [show upd e u.toNatClampNeg z x = z by unfold upd; rw [if_pos q]]
    rw [q] at g1 g2 g3
    refine ⟨by omega, ?_, fun v g => ?_⟩
    · rcases hz.1 with hz1 | hz1
      · rw [hz1]
        rcases g2 with g2 | g2
        · exact Or.inl g2
        · refine Or.inr ((hd _ _).mpr (Or.inl ?_))
          rw [q]
          exact g2
      · exact Or.inr ((hd _ _).mpr (Or.inr ⟨qx, hz1⟩))
    · rcases (hd _ _).mp g with g | g
      · rw [q] at g
        have := g3 v g
        omega
      · omega
  · have qx : ¬ (x : Int) = u.toInt := by omega
    rw [show upd e u.toNatClampNeg z x = e x by unfold upd; rw [if_neg q]]
    refine ⟨g1, g2.imp id (fun g => (hd _ _).mpr (Or.inl g)), fun v g => ?_⟩
    rcases (hd _ _).mp g with g | g
    · exact g3 v g
    · exact absurd g.1 qx
theorem k_m0_0 {S A V s b : Nat → Int32} {n L i : Int} {e : Nat → Int32} (h : k_z i e) (hi : L ≤ i) : k_m0 (k_D S A V s b n 0) L e := fun x hx => by
  rw [h x (by omega)]
  exact ⟨by omega, Or.inl rfl, fun w ⟨k, g, _⟩ => by omega⟩
def kY9 (i : Int) (e : Nat → Int32) : Prop := ∀ j : Nat, (j : Int) < i → (e j).toInt = 9999
theorem kY9_0 {e : Nat → Int32} : kY9 0 e := fun j h => absurd h (by omega)
theorem kY9_s {i' : Int} {e : Nat → Int32} {i v : Int32} (h : kY9 i.toInt e) (h0 : 0 ≤ i.toInt) (hi : i' = i.toInt + 1) (hv : v.toInt = 9999) : kY9 i' (upd e i.toNatClampNeg v) := by
  have h4 : i.toNatClampNeg = i.toInt.toNat := rfl
  intro j hj
  unfold upd
  by_cases q : j = i.toNatClampNeg
  · rw [if_pos q]; exact hv
  · rw [if_neg q]; exact h j (by omega)
theorem k_n0_0 {S A V s b : Nat → Int32} {n L i : Int} {e : Nat → Int32} (h : kY9 i e) (hi : L ≤ i) : k_n0 (k_D S A V s b n 0) L e := fun x hx => by
  rw [h x (by omega)]
  exact ⟨by omega, Or.inl rfl, fun w ⟨k, g, _⟩ => by omega⟩
def k_li (M : Int → Int → Prop) (L i j : Int) (e0 e : Nat → Int32) : Prop := ∀ x : Nat, (x : Int) < L → ((e x).toInt = (e0 x).toInt ∨ ∃ y : Nat, (y : Int) < L ∧ M (x : Int) (y : Int) ∧ (e x).toInt = (e0 y).toInt) ∧ (e0 x).toInt ≤ (e x).toInt ∧ ∀ y : Nat, (y : Int) < L → M (x : Int) (y : Int) → ((x : Int) < i ∨ ((x : Int) = i ∧ (y : Int) < j)) → (e0 y).toInt ≤ (e x).toInt
def k_gi (M : Int → Int → Prop) (L i j : Int) (e0 e : Nat → Int32) : Prop := ∀ y : Nat, (y : Int) < L → ((e y).toInt = (e0 y).toInt ∨ ∃ x : Nat, (x : Int) < L ∧ M (x : Int) (y : Int) ∧ (e y).toInt = (e0 x).toInt) ∧ (e y).toInt ≤ (e0 y).toInt ∧ ∀ x : Nat, (x : Int) < L → M (x : Int) (y : Int) → ((x : Int) < i ∨ ((x : Int) = i ∧ (y : Int) < j)) → (e y).toInt ≤ (e0 x).toInt
theorem k_li_0 {M : Int → Int → Prop} {L : Int} {e : Nat → Int32} : k_li M L 0 0 e e := fun x _ => ⟨Or.inl rfl, Int.le_refl _, fun y _ _ g => by omega⟩
theorem k_gi_0 {M : Int → Int → Prop} {L : Int} {e : Nat → Int32} : k_gi M L 0 0 e e := fun x _ => ⟨Or.inl rfl, Int.le_refl _, fun y _ _ g => by omega⟩
theorem k_li_w {M : Int → Int → Prop} {L i j i' j' : Int} {e0 e : Nat → Int32} (h : k_li M L i j e0 e) (hw : ∀ x y : Int, 0 ≤ x → x < L → 0 ≤ y → y < L → (x < i' ∨ (x = i' ∧ y < j')) → (x < i ∨ (x = i ∧ y < j))) : k_li M L i' j' e0 e := fun x hx => ⟨(h x hx).1, (h x hx).2.1, fun y hy hM g => (h x hx).2.2 y hy hM (hw _ _ (by omega) hx (by omega) hy g)⟩
theorem k_gi_w {M : Int → Int → Prop} {L i j i' j' : Int} {e0 e : Nat → Int32} (h : k_gi M L i j e0 e) (hw : ∀ x y : Int, 0 ≤ x → x < L → 0 ≤ y → y < L → (x < i' ∨ (x = i' ∧ y < j')) → (x < i ∨ (x = i ∧ y < j))) : k_gi M L i' j' e0 e := fun y hy => ⟨(h y hy).1, (h y hy).2.1, fun x hx hM g => (h y hy).2.2 x hx hM (hw _ _ (by omega) hx (by omega) hy g)⟩
theorem k_li_n {M : Int → Int → Prop} {L j' : Int} {i j : Int32} {e0 e : Nat → Int32} (h : k_li M L i.toInt j.toInt e0 e) (hj : j' = j.toInt + 1) (hq : ¬ M i.toInt j.toInt) : k_li M L i.toInt j' e0 e := fun x hx => ⟨(h x hx).1, (h x hx).2.1, fun y hy hM g => by
  by_cases q : (x : Int) = i.toInt ∧ (y : Int) = j.toInt
  · rw [q.1, q.2] at hM
    exact absurd hM hq
  · exact (h x hx).2.2 y hy hM (by omega)⟩
theorem k_gi_n {M : Int → Int → Prop} {L j' : Int} {i j : Int32} {e0 e : Nat → Int32} (h : k_gi M L i.toInt j.toInt e0 e) (hj : j' = j.toInt + 1) (hq : ¬ M i.toInt j.toInt) : k_gi M L i.toInt j' e0 e := fun y hy => ⟨(h y hy).1, (h y hy).2.1, fun x hx hM g => by
  by_cases q : (x : Int) = i.toInt ∧ (y : Int) = j.toInt
  · rw [q.1, q.2] at hM
    exact absurd hM hq
  · exact (h y hy).2.2 x hx hM (by omega)⟩
theorem k_li_y {M : Int → Int → Prop} {L j' : Int} {i j z : Int32} {e0 e : Nat → Int32} (ht : ∀ x y z : Int, M x y → M y z → M x z) (h : k_li M L i.toInt j.toInt e0 e) (h0 : 0 ≤ i.toInt ∧ i.toInt < L) (h1 : 0 ≤ j.toInt ∧ j.toInt < L) (hj : j' = j.toInt + 1) (hq : M i.toInt j.toInt) (hz : (z.toInt = (e i.toNatClampNeg).toInt ∨ z.toInt = (e j.toNatClampNeg).toInt) ∧ z.toInt ≥ (e i.toNatClampNeg).toInt ∧ z.toInt ≥ (e j.toNatClampNeg).toInt) : k_li M L i.toInt j' e0 (upd e i.toNatClampNeg z) := by
  have h4 : i.toNatClampNeg = i.toInt.toNat := rfl
  have h5 : j.toNatClampNeg = j.toInt.toNat := rfl
  have ei : ((i.toNatClampNeg : Nat) : Int) = i.toInt := k_cn h0.1
  have ej : ((j.toNatClampNeg : Nat) : Int) = j.toInt := k_cn h1.1
  intro x hx
  obtain ⟨g1, g2, g3⟩ := h x hx
  by_cases q : x = i.toNatClampNeg
  · rw [show upd e i.toNatClampNeg z x = z by unfold upd; rw [if_pos q]]
    obtain ⟨f1, f2, f3⟩ := h j.toNatClampNeg (by omega)
    have qx : (x : Int) = i.toInt := by omega
    refine ⟨?_, ?_, fun y hy hM g => ?_⟩
    · rcases hz.1 with hz1 | hz1
      · rw [hz1, ← q]
        exact g1
      · rw [hz1]
        refine Or.inr ?_
        rcases f1 with f1 | ⟨y, y1, y2, y3⟩
        · exact ⟨j.toNatClampNeg, by omega, by rw [qx, ej]; exact hq, f1⟩
        · rw [ej] at y2
          exact ⟨y, y1, by rw [qx]; exact ht _ _ _ hq y2, y3⟩
    · rw [q] at g2
      rw [q]
      omega
    · by_cases qy : y = j.toNatClampNeg
      · rw [qy]
        omega
      · have := g3 y hy hM (by omega)
        rw [q] at this
        omega
  · rw [show upd e i.toNatClampNeg z x = e x by unfold upd; rw [if_neg q]]
    exact ⟨g1, g2, fun y hy hM g => g3 y hy hM (by omega)⟩
theorem k_gi_y {M : Int → Int → Prop} {L j' : Int} {i j z : Int32} {e0 e : Nat → Int32} (ht : ∀ x y z : Int, M x y → M y z → M x z) (h : k_gi M L i.toInt j.toInt e0 e) (h0 : 0 ≤ i.toInt ∧ i.toInt < L) (h1 : 0 ≤ j.toInt ∧ j.toInt < L) (hj : j' = j.toInt + 1) (hq : M i.toInt j.toInt) (hz : (z.toInt = (e j.toNatClampNeg).toInt ∨ z.toInt = (e i.toNatClampNeg).toInt) ∧ z.toInt ≤ (e j.toNatClampNeg).toInt ∧ z.toInt ≤ (e i.toNatClampNeg).toInt) : k_gi M L i.toInt j' e0 (upd e j.toNatClampNeg z) := by
  have h4 : i.toNatClampNeg = i.toInt.toNat := rfl
  have h5 : j.toNatClampNeg = j.toInt.toNat := rfl
  have ei : ((i.toNatClampNeg : Nat) : Int) = i.toInt := k_cn h0.1
  have ej : ((j.toNatClampNeg : Nat) : Int) = j.toInt := k_cn h1.1
  intro y hy
  obtain ⟨g1, g2, g3⟩ := h y hy
  by_cases q : y = j.toNatClampNeg
  · rw [show upd e j.toNatClampNeg z y = z by unfold upd; rw [if_pos q]]
    obtain ⟨f1, f2, f3⟩ := h i.toNatClampNeg (by omega)
    have qy : (y : Int) = j.toInt := by omega
    refine ⟨?_, ?_, fun x hx hM g => ?_⟩
    · rcases hz.1 with hz1 | hz1
      · rw [hz1, ← q]
        exact g1
      · rw [hz1]
        refine Or.inr ?_
        rcases f1 with f1 | ⟨x, x1, x2, x3⟩
        · exact ⟨i.toNatClampNeg, by omega, by rw [qy, ei]; exact hq, f1⟩
        · rw [ei] at x2
          exact ⟨x, x1, by rw [qy]; exact ht _ _ _ x2 hq, x3⟩
    · rw [q] at g2
      rw [q]
      omega
    · by_cases qx : x = i.toNatClampNeg
      · rw [qx]
        omega
      · have := g3 x hx hM (by omega)
        rw [q] at this
        omega
  · rw [show upd e j.toNatClampNeg z y = e y by unfold upd; rw [if_neg q]]
    exact ⟨g1, g2, fun x hx hM g => g3 x hx hM (by omega)⟩
theorem k_max_of {M D : Int → Int → Prop} {L i j : Int} {e0 e : Nat → Int32} (hm : k_m0 D L e0) (h : k_li M L i j e0 e) (hi : L ≤ i) (hin : ∀ x y : Int, M x y → 0 ≤ y ∧ y < L) (x : Nat) (hx : (x : Int) < L) : k_max M D (x : Int) (e x).toInt := by
  obtain ⟨g1, g2, g3⟩ := h x hx
  obtain ⟨m1, m2, m3⟩ := hm x hx
  refine ⟨by omega, ?_, fun y w hy hD => ?_⟩
  · rcases g1 with g1 | ⟨y, y1, y2, y3⟩
    · rw [g1]
      exact m2.imp id (fun q => ⟨_, Or.inl rfl, q⟩)
    · rw [y3]
      exact (hm y y1).2.1.imp id (fun q => ⟨_, Or.inr y2, q⟩)
  · rcases hy with hy | hy
    · rw [hy] at hD
      have := m3 w hD
      omega
    · have r := hin _ _ hy
      have ey : ((y.toNat : Nat) : Int) = y := Int.toNat_of_nonneg r.1
      rw [← ey] at hD hy
      have q1 := (hm y.toNat (by omega)).2.2 w hD
      have q2 := g3 y.toNat (by omega) hy (by omega)
      omega
theorem k_min_of {M D : Int → Int → Prop} {L i j : Int} {e0 e : Nat → Int32} (hm : k_n0 D L e0) (h : k_gi M L i j e0 e) (hi : L ≤ i) (hin : ∀ x y : Int, M x y → 0 ≤ x ∧ x < L) (y : Nat) (hy : (y : Int) < L) : k_min M D (y : Int) (e y).toInt := by
  obtain ⟨g1, g2, g3⟩ := h y hy
  obtain ⟨m1, m2, m3⟩ := hm y hy
  refine ⟨by omega, ?_, fun x w hx hD => ?_⟩
  · rcases g1 with g1 | ⟨x, x1, x2, x3⟩
    · rw [g1]
      exact m2.imp id (fun q => ⟨_, Or.inl rfl, q⟩)
    · rw [x3]
      exact (hm x x1).2.1.imp id (fun q => ⟨_, Or.inr x2, q⟩)
  · rcases hx with hx | hx
    · rw [hx] at hD
      have := m3 w hD
      omega
    · have r := hin _ _ hx
      have ex : ((x.toNat : Nat) : Int) = x := Int.toNat_of_nonneg r.1
      rw [← ex] at hD hx
      have q1 := (hm x.toNat (by omega)).2.2 w hD
      have q2 := g3 x.toNat (by omega) hx (by omega)
      omega
def k_SP (M D1 D2 : Int → Int → Prop) (L : Int) (le gr : Nat → Int32) : Prop := ∀ x : Nat, (x : Int) < L → k_max M D1 (x : Int) (le x).toInt ∧ k_min M D2 (x : Int) (gr x).toInt
def k_ly (M : Int → Int → Prop) (L : Int) (e0 e g0 g : Nat → Int32) : Prop := k_li M L L 0 e0 e ∧ k_gi M L L 0 g0 g
theorem k_ly_of {M : Int → Int → Prop} {L i : Int} {e0 e g0 g : Nat → Int32} (h1 : k_li M L i 0 e0 e) (h2 : k_gi M L i 0 g0 g) (hi : L ≤ i) : k_ly M L e0 e g0 g := ⟨k_li_w h1 (fun _ _ _ _ _ _ _ => by omega), k_gi_w h2 (fun _ _ _ _ _ _ _ => by omega)⟩
theorem k_SP_of {D1 D2 : Int → Int → Prop} {L : Int} {lt e0 e g0 g : Nat → Int32} (h : k_ly (k_M L lt) L e0 e g0 g) (h1 : k_m0 D1 L e0) (h2 : k_n0 D2 L g0) : k_SP (k_M L lt) D1 D2 L e g := fun x hx => ⟨k_max_of h1 h.1 (Int.le_refl _) (fun x y q => ⟨q.2.2.1, q.2.2.2.1⟩) x hx, k_min_of h2 h.2 (Int.le_refl _) (fun x y q => ⟨q.1, q.2.1⟩) x hx⟩
def k_ql (i : Int) (le gr : Nat → Int32) (v : Int) : Prop := (v = 2 ∧ ∃ x : Nat, (x : Int) < i ∧ (gr x).toInt < (le x).toInt) ∨ (v = 0 ∧ ∀ x : Nat, (x : Int) < i → (le x).toInt ≤ (gr x).toInt)
theorem k_ql_0 {le gr : Nat → Int32} {v : Int} (h : v = 0) : k_ql 0 le gr v := Or.inr ⟨h, fun x hx => absurd hx (by omega)⟩
theorem k_ql_n {le gr : Nat → Int32} {v i' : Int} {i : Int32} (h : k_ql i.toInt le gr v) (h0 : 0 ≤ i.toInt) (hi : i' = i.toInt + 1) (hq : (le i.toNatClampNeg).toInt ≤ (gr i.toNatClampNeg).toInt) : k_ql i' le gr v := by
  have h4 : i.toNatClampNeg = i.toInt.toNat := rfl
  rcases h with ⟨h1, x, h2, h3⟩ | ⟨h1, h2⟩
  · exact Or.inl ⟨h1, x, by omega, h3⟩
  · refine Or.inr ⟨h1, fun x hx => ?_⟩
    by_cases e : x = i.toNatClampNeg
    · rw [e]; exact hq
    · exact h2 x (by omega)
theorem k_ql_y {le gr : Nat → Int32} {v i' : Int} {i : Int32} (h0 : 0 ≤ i.toInt) (hi : i' = i.toInt + 1) (hq : (gr i.toNatClampNeg).toInt < (le i.toNatClampNeg).toInt) (hv : v = 2) : k_ql i' le gr v := by
  have h4 : i.toNatClampNeg = i.toInt.toNat := rfl
  exact Or.inl ⟨hv, i.toNatClampNeg, by omega, hq⟩
theorem k_ql_e {le gr : Nat → Int32} {v i L : Int} (h : k_ql i le gr v) (h0 : 0 ≤ i) (hi : i = L ∨ (i = 0 ∧ L ≤ 0)) : k_ql L le gr v := by
  rcases hi with hi | hi
  · rw [← hi]; exact h
  · rcases h with ⟨h1, x, h2, h3⟩ | ⟨h1, h2⟩
    · omega
    · exact Or.inr ⟨h1, fun x hx => absurd hx (by omega)⟩
def k_KN (S A B C : Nat → Int32) (n L : Int) (s b lt rk le gr : Nat → Int32) (v : Int) : Prop := k_cx S A n s ∧ k_BD S A B s n L b ∧ k_LT S A B s n L b lt ∧ ((v = 1 ∧ k_ring L lt) ∨ (¬ k_ring L lt ∧ k_RK (k_M L lt) L rk ∧ k_SP (k_M L lt) (k_D S A B s b n n) (k_D S A C s b n n) L le gr ∧ k_ql L le gr v))
def k_iv (ct : Nat → Int32) (k : Nat) : Int32 := if (ct k).toInt = 0 then 1 else 0
theorem k_iv_y {ct : Nat → Int32} {k : Nat} : (k_iv ct k).toInt = 0 ↔ (ct k).toInt ≠ 0 := by
  unfold k_iv
  by_cases h : (ct k).toInt = 0
  · rw [if_pos h]
    exact ⟨fun g => absurd g (by decide), fun g => absurd h g⟩
  · rw [if_neg h]
    exact ⟨fun _ => h, fun _ => by decide⟩
theorem k_iv_c {ct : Nat → Int32} {n : Int} {i : Int32} (h0 : 0 ≤ i.toInt) (hn : i.toInt < n) (h : (ct i.toNatClampNeg).toInt ≠ 0) : k_c n (k_iv ct) i.toNatClampNeg := ⟨by rw [k_cn h0]; exact hn, k_iv_y.mpr h⟩
theorem k_iv_n {ct : Nat → Int32} {n : Int} {k : Nat} (h : (ct k).toInt = 0) : ¬ k_c n (k_iv ct) k := fun g => k_iv_y.mp g.2 h
theorem k_iv_upd {ct : Nat → Int32} {x : Nat} {v : Int32} (hv : v.toInt = 0) : k_iv (upd ct x v) = upd (k_iv ct) x 1 := by
  funext j
  by_cases e : j = x
  · rw [show upd (k_iv ct) x 1 j = 1 by unfold upd; rw [if_pos e]]
    unfold k_iv
    rw [show upd ct x v j = v by unfold upd; rw [if_pos e], if_pos hv]
  · rw [show upd (k_iv ct) x 1 j = k_iv ct j by unfold upd; rw [if_neg e]]
    unfold k_iv
    rw [show upd ct x v j = ct j by unfold upd; rw [if_neg e]]
theorem k_r3_m {S A B : Nat → Int32} {n : Int} (h : ∀ j : Nat, z_relm (S j) (A j) (B j)) : k_r3 S A B n 12 := fun k _ h1 h2 => by
  have g := h k
  have g1 := g.1
  have g2 := g.2.1 (by omega)
  have g3 := g.2.2 h2
  omega
theorem k_rd_m {S A B : Nat → Int32} {n : Int} (h : ∀ j : Nat, z_relm (S j) (A j) (B j)) : k_rd S A n 12 := fun k _ h1 => by
  have g := h k
  have g1 := g.1
  have g2 := g.2.1 (by omega)
  omega
theorem k_bl_12 {b : Nat → Int32} (h : ∀ j : Nat, (0 : Int) ≤ (b j).toInt ∧ (b j).toInt ≤ (11 : Int)) : k_bl 12 b := fun l _ => by
  have := h l
  omega
def k_M2 (lt : Nat → Int32) (x y : Int) : Prop := 0 ≤ x ∧ x < 12 ∧ 0 ≤ y ∧ y < 12 ∧ (lt (12 * x + y).toNat).toInt ≠ 0
theorem k_M2i {lt : Nat → Int32} {a b : Int} {d : Int32} (ha : 0 ≤ a ∧ a < 12) (hb : 0 ≤ b ∧ b < 12) (hd : d.toInt = 12 * a + b) : k_M2 lt a b ↔ (lt d.toNatClampNeg).toInt ≠ 0 := by
  have h4 : d.toNatClampNeg = (12 * a + b).toNat := by rw [← hd]; rfl
  rw [h4]
  exact ⟨fun h => h.2.2.2.2, fun h => ⟨ha.1, ha.2, hb.1, hb.2, h⟩⟩
theorem k_M2_in {lt : Nat → Int32} (x y : Int) (h : k_M2 lt x y) : 0 ≤ y ∧ y < 12 := ⟨h.2.2.1, h.2.2.2.1⟩
theorem k_M2_in1 {lt : Nat → Int32} (x y : Int) (h : k_M2 lt x y) : 0 ≤ x ∧ x < 12 := ⟨h.1, h.2.1⟩
theorem k_M2_u {lt : Nat → Int32} {a b : Int} {d w : Int32} (ha : 0 ≤ a ∧ a < 12) (hb : 0 ≤ b ∧ b < 12) (hd : d.toInt = 12 * a + b) (x y : Int) : k_M2 (upd lt d.toNatClampNeg w) x y ↔ ((x = a ∧ y = b ∧ w.toInt ≠ 0) ∨ (¬ (x = a ∧ y = b) ∧ k_M2 lt x y)) := by
  have h4 : d.toNatClampNeg = (12 * a + b).toNat := by rw [← hd]; rfl
  unfold k_M2
  by_cases e : x = a ∧ y = b
  · have e2 : (12 * x + y).toNat = d.toNatClampNeg := by rw [h4, e.1, e.2]
    rw [show upd lt d.toNatClampNeg w (12 * x + y).toNat = w by unfold upd; rw [if_pos e2]]
    exact ⟨fun g => Or.inl ⟨e.1, e.2, g.2.2.2.2⟩, fun g => g.elim (fun g => ⟨by omega, by omega, by omega, by omega, g.2.2⟩) (fun g => absurd e g.1)⟩
  · refine ⟨fun g => Or.inr ⟨e, ?_⟩, fun g => ?_⟩
    · have e2 : ¬ (12 * x + y).toNat = d.toNatClampNeg := by have := g.1; have := g.2.1; have := g.2.2.1; have := g.2.2.2.1; omega
      rw [show upd lt d.toNatClampNeg w (12 * x + y).toNat = lt (12 * x + y).toNat by unfold upd; rw [if_neg e2]] at g
      exact g
    · rcases g with g | g
      · exact absurd ⟨g.1, g.2.1⟩ e
      · have g := g.2
        have e2 : ¬ (12 * x + y).toNat = d.toNatClampNeg := by have := g.1; have := g.2.1; have := g.2.2.1; have := g.2.2.2.1; omega
        rw [show upd lt d.toNatClampNeg w (12 * x + y).toNat = lt (12 * x + y).toNat by unfold upd; rw [if_neg e2]]
        exact g
def k_me2 (E : Int → Int → Prop) (lt : Nat → Int32) : Prop := ∀ x y : Int, k_M2 lt x y ↔ E x y
theorem k_me2_0 {S A B b : Nat → Int32} {c : Nat → Prop} {i : Int} {lt : Nat → Int32} (h : k_z i lt) (hi : 144 ≤ i) : k_me2 (k_Ei S A B c 0 b) lt := by
  intro x y
  refine ⟨fun g => ?_, fun g => ?_⟩
  · obtain ⟨g1, g2, g3, g4, g5⟩ := g
    exact absurd (h (12 * x + y).toNat (by omega)) g5
  · obtain ⟨k, g1, _⟩ := g
    omega
theorem k_me2_n {S A B b : Nat → Int32} {c : Nat → Prop} {i' : Int} {lt : Nat → Int32} {i : Int32} (h : k_me2 (k_Ei S A B c i.toInt b) lt) (h0 : 0 ≤ i.toInt) (hi : i' = i.toInt + 1) (hq : ¬ (c i.toNatClampNeg ∧ ((S i.toNatClampNeg).toInt = 0 ∨ (S i.toNatClampNeg).toInt = 1))) : k_me2 (k_Ei S A B c i' b) lt := fun x y => (h x y).trans (k_E_n h0 hi hq x y).symm
theorem k_me2_y {S A B b : Nat → Int32} {c : Nat → Prop} {i' : Int} {lt : Nat → Int32} {i u v d w : Int32} (h : k_me2 (k_Ei S A B c i.toInt b) lt) (h0 : 0 ≤ i.toInt) (hi : i' = i.toInt + 1) (hc : c i.toNatClampNeg) (hS : (S i.toNatClampNeg).toInt = 0 ∨ (S i.toNatClampNeg).toInt = 1) (hu : u = b (A i.toNatClampNeg).toNatClampNeg) (hv : v = b (B i.toNatClampNeg).toNatClampNeg) (hu0 : 0 ≤ u.toInt ∧ u.toInt < 12) (hv0 : 0 ≤ v.toInt ∧ v.toInt < 12) (hd : d.toInt = 12 * u.toInt + v.toInt) (hw : w.toInt ≠ 0) : k_me2 (k_Ei S A B c i' b) (upd lt d.toNatClampNeg w) := by
  intro x y
  rw [k_E_y h0 hi hc hS x y, ← hu, ← hv, ← h x y, k_M2_u hu0 hv0 hd x y]
  by_cases e : x = u.toInt ∧ y = v.toInt
  · exact ⟨fun _ => Or.inr e, fun _ => Or.inl ⟨e.1, e.2, hw⟩⟩
  · exact ⟨fun g => g.elim (fun g => absurd ⟨g.1, g.2.1⟩ e) (fun g => Or.inl g.2), fun g => g.elim (fun g => Or.inr ⟨e, g⟩) (fun g => absurd g e)⟩
def k_w2 (o a b : Int) (l0 lt : Nat → Int32) : Prop := ∀ x y : Int, k_M2 lt x y ↔ (k_M2 l0 x y ∨ ((x < a ∨ (x = a ∧ y < b)) ∧ k_M2 l0 x o ∧ k_M2 l0 o y))
theorem k_w2_0 {o : Int} {l0 : Nat → Int32} : k_w2 o 0 0 l0 l0 := fun x y => ⟨Or.inl, fun h => h.elim id (fun g => absurd g.2.1.1 (by have := g.2.2.2.2.1; omega))⟩
theorem k_w2_e {o a b a' : Int} {l0 lt : Nat → Int32} (h : k_w2 o a b l0 lt) (hb : 12 ≤ b) (ha : a' = a + 1) : k_w2 o a' 0 l0 lt := by
  intro x y
  rw [h x y]
  refine ⟨fun g => g.imp id (fun g => ⟨by omega, g.2⟩), fun g => g.imp id (fun g => ⟨?_, g.2⟩)⟩
  have q1 := g.2.2.2.2.1
  have q2 := g.2.2.2.2.2.1
  omega
theorem k_w2_s {o b' : Int} {a b d w : Int32} {l0 lt : Nat → Int32} (h : k_w2 o a.toInt b.toInt l0 lt) (ha : 0 ≤ a.toInt ∧ a.toInt < 12) (hb : 0 ≤ b.toInt ∧ b.toInt < 12) (hd : d.toInt = 12 * a.toInt + b.toInt) (hb' : b' = b.toInt + 1) (hw : w.toInt ≠ 0 ↔ (k_M2 lt a.toInt b.toInt ∨ (k_M2 lt a.toInt o ∧ k_M2 lt o b.toInt))) : k_w2 o a.toInt b' l0 (upd lt d.toNatClampNeg w) := by
  have r1 : k_M2 lt a.toInt o ↔ k_M2 l0 a.toInt o := by
    rw [h _ o]
    exact ⟨fun g => g.elim id (fun g => g.2.1), Or.inl⟩
  have r2 : ∀ y : Int, k_M2 lt o y ↔ k_M2 l0 o y := fun y => by
    rw [h o y]
    exact ⟨fun g => g.elim id (fun g => g.2.2), Or.inl⟩
  intro x y
  rw [k_M2_u ha hb hd x y, hw, r1, r2, h _ b.toInt]
  by_cases e : x = a.toInt ∧ y = b.toInt
  · rw [e.1, e.2]
    refine ⟨fun g => ?_, fun g => Or.inl ⟨rfl, rfl, ?_⟩⟩
    · rcases g with ⟨_, _, (g | g) | g⟩ | g
      · exact Or.inl g
      · exact Or.inr ⟨by omega, g.2⟩
      · exact Or.inr ⟨by omega, g⟩
      · exact absurd ⟨rfl, rfl⟩ g.1
    · rcases g with g | g
      · exact Or.inl (Or.inl g)
      · exact Or.inr g.2
  · rw [h x y]
    refine ⟨fun g => ?_, fun g => Or.inr ⟨e, ?_⟩⟩
    · rcases g with g | ⟨_, g | g⟩
      · exact absurd ⟨g.1, g.2.1⟩ e
      · exact Or.inl g
      · exact Or.inr ⟨by omega, g.2⟩
    · exact g.imp id (fun g => ⟨by omega, g.2⟩)
theorem k_w2_W {E : Int → Int → Prop} {o o' a : Int} {l0 lt : Nat → Int32} (hW : k_W E o (k_M2 l0)) (h : k_w2 o a 0 l0 lt) (ha : 12 ≤ a) (ho : o' = o + 1) : k_W E o' (k_M2 lt) := by
  refine k_W_s hW ho (fun x y => ?_)
  rw [h x y]
  exact ⟨fun g => g.imp id (fun g => g.2), fun g => g.imp id (fun g => ⟨by have := g.1.2.1; omega, g⟩)⟩
def k_LT2 (S A B s : Nat → Int32) (n : Int) (b lt : Nat → Int32) : Prop := ∀ x y : Int, k_M2 lt x y ↔ k_T (k_Ei S A B (k_c n s) n b) x y
theorem k_LT2_of {S A B s b lt : Nat → Int32} {n o : Int} (hr : k_r3 S A B n 12) (hb : k_bl 12 b) (h : k_W (k_Ei S A B (k_c n s) n b) o (k_M2 lt)) (ho : 12 ≤ o) : k_LT2 S A B s n b lt := fun x y => k_W_T h ho (fun x y e => k_Ei_in hr hb x y e) x y
theorem k_LT2_t {S A B s b lt : Nat → Int32} {n : Int} (h : k_LT2 S A B s n b lt) (x y z : Int) (h1 : k_M2 lt x y) (h2 : k_M2 lt y z) : k_M2 lt x z := (h x z).mpr (k_T_t ((h x y).mp h1) ((h y z).mp h2))
theorem k_me2_W {S A B s b lt : Nat → Int32} {n i : Int} (h : k_me2 (k_Ei S A B (k_c n s) i b) lt) (hi : n ≤ i) : k_W (k_Ei S A B (k_c n s) n b) 0 (k_M2 lt) := k_W_0 (fun x y => (h x y).trans ⟨fun ⟨k, _, g2, g3⟩ => ⟨k, g2.1, g2, g3⟩, fun ⟨k, g1, g2⟩ => ⟨k, by omega, g2⟩⟩)
def k_q1 (i : Int) (lt : Nat → Int32) (v : Int) : Prop := (v = 1 ∧ ∃ x : Int, k_M2 lt x x) ∨ (v = 0 ∧ ∀ x : Int, x < i → ¬ k_M2 lt x x)
theorem k_q1_0 {lt : Nat → Int32} : k_q1 0 lt 0 := Or.inr ⟨rfl, fun x hx g => absurd g.1 (by omega)⟩
theorem k_q1_y {lt : Nat → Int32} {i' v : Int} {i d : Int32} (h0 : 0 ≤ i.toInt ∧ i.toInt < 12) (hd : d.toInt = 13 * i.toInt) (h : (lt d.toNatClampNeg).toInt ≠ 0) (hv : v = 1) : k_q1 i' lt v := Or.inl ⟨hv, i.toInt, (k_M2i h0 h0 (by omega)).mpr h⟩
theorem k_q1_n {lt : Nat → Int32} {i' v : Int} {i d : Int32} (hq : k_q1 i.toInt lt v) (h0 : 0 ≤ i.toInt ∧ i.toInt < 12) (hi : i' = i.toInt + 1) (hd : d.toInt = 13 * i.toInt) (h : (lt d.toNatClampNeg).toInt = 0) : k_q1 i' lt v := by
  rcases hq with q | ⟨q1, q2⟩
  · exact Or.inl q
  · refine Or.inr ⟨q1, fun x hx g => ?_⟩
    by_cases e : x = i.toInt
    · rw [e] at g
      exact (k_M2i h0 h0 (show d.toInt = 12 * i.toInt + i.toInt by omega)).mp g h
    · exact q2 x (by omega) g
theorem k_q1_tr {S A B s b lt : Nat → Int32} {n i v : Int} (hL : k_LT2 S A B s n b lt) (hq : k_q1 i lt v) (hi : 12 ≤ i) (hv : v = 0) : k_tr (k_M2 lt) := ⟨k_LT2_t hL, fun x g => by
  rcases hq with q | q
  · omega
  · exact q.2 x (by have := g.2.1; omega) g⟩
def k_q2 (lt rk : Nat → Int32) (v : Int) : Prop := (v = 1 ∧ ∃ x : Int, k_M2 lt x x) ∨ (v = 0 ∧ (∀ x : Int, ¬ k_M2 lt x x) ∧ k_RK (k_M2 lt) 12 rk)
theorem k_q2_1 {lt rk : Nat → Int32} {i v : Int} (hq : k_q1 i lt v) (hv : v ≠ 0) : k_q2 lt rk v := by
  rcases hq with q | q
  · exact Or.inl q
  · exact absurd q.1 hv
theorem k_q2_0 {S A B s b lt rk : Nat → Int32} {n i v r : Int} (hL : k_LT2 S A B s n b lt) (hq : k_q1 i lt v) (hi : 12 ≤ i) (hs : k_rs (k_M2 lt) 12 rk) (ht : k_rt (k_M2 lt) 12 r rk) (hr : 12 ≤ r) : k_q2 lt rk v := by
  rcases hq with q | q
  · exact Or.inl q
  · have hT := k_q1_tr hL (Or.inr q) hi q.1
    exact Or.inr ⟨q.1, hT.2, k_RK_of k_M2_in hT hs ht (by omega)⟩
def k_q3 (q : Int) (fi la : Nat → Int32) (v : Int) : Prop := (q = 1 ∧ v = 1) ∨ (q = 0 ∧ k_ql 12 fi la v)
theorem k_bc_u {S A B : Nat → Int32} {c : Nat → Prop} {n L : Int} {b : Nat → Int32} {x v : Int32} (h : k_bc S A B c n L b) (hx : 0 ≤ x.toInt) (hc : k_conn (kI S) (kI A) (kI B) c n x.toInt v.toInt) (hv : 0 ≤ v.toInt ∧ v.toInt ≤ x.toInt) : k_bc S A B c n L (upd b x.toNatClampNeg v) := by
  intro l hl
  by_cases e : l = x.toNatClampNeg
  · rw [show upd b x.toNatClampNeg v l = v by unfold upd; rw [if_pos e], e, k_cn hx]
    exact ⟨hc, hv.1, hv.2⟩
  · rw [show upd b x.toNatClampNeg v l = b l by unfold upd; rw [if_neg e]]
    exact h l hl
theorem k_low {S A B : Nat → Int32} {c : Nat → Prop} {n L : Int} {b : Nat → Int32} {i x y u v w : Int32} (hr : k_rg S A B c n L) (h : k_bc S A B c n L b) (h0 : 0 ≤ i.toInt) (hn : i.toInt < n) (hc : c i.toNatClampNeg) (hS : (S i.toNatClampNeg).toInt = 2) (hx : x = A i.toNatClampNeg) (hy : y = B i.toNatClampNeg) (hu : u = b x.toNatClampNeg) (hv : v = b y.toNatClampNeg) (hw : (w.toInt = u.toInt ∨ w.toInt = v.toInt) ∧ w.toInt ≤ u.toInt ∧ w.toInt ≤ v.toInt) : (k_conn (kI S) (kI A) (kI B) c n x.toInt w.toInt ∧ 0 ≤ w.toInt ∧ w.toInt ≤ x.toInt) ∧ (k_conn (kI S) (kI A) (kI B) c n y.toInt w.toInt ∧ 0 ≤ w.toInt ∧ w.toInt ≤ y.toInt) := by
  have h4 : i.toNatClampNeg = i.toInt.toNat := rfl
  have r := hr i.toNatClampNeg (by omega) hc hS
  rw [← hx, ← hy] at r
  have ga := h x.toNatClampNeg (by rw [k_cn r.1.1]; exact r.1.2)
  have gb := h y.toNatClampNeg (by rw [k_cn r.2.1]; exact r.2.2)
  rw [k_cn r.1.1, ← hu] at ga
  rw [k_cn r.2.1, ← hv] at gb
  have hab : k_conn (kI S) (kI A) (kI B) c n x.toInt y.toInt := by
    rw [hx, hy]
    exact k_conn_1 (by omega) hc hS
  obtain ⟨g1, g2, g3⟩ := ga
  obtain ⟨f1, f2, f3⟩ := gb
  rcases hw.1 with e | e
  · rw [e]
    exact ⟨⟨g1, by omega, by omega⟩, ⟨k_conn_t (k_conn_s hab) g1, by omega, by omega⟩⟩
  · rw [e]
    exact ⟨⟨k_conn_t hab f1, by omega, by omega⟩, ⟨f1, by omega, by omega⟩⟩
def kN9 (S : Nat → Int32) (k : Nat) : Int32 := if (S k).toInt = 9 then 5 else if (S k).toInt = 5 then 9 else S k
theorem kN9_5 {S : Nat → Int32} {k : Nat} : (kN9 S k).toInt = 5 ↔ (S k).toInt = 9 := by
  unfold kN9
  by_cases h : (S k).toInt = 9
  · rw [if_pos h]
    exact ⟨fun _ => h, fun _ => by decide⟩
  · rw [if_neg h]
    by_cases h5 : (S k).toInt = 5
    · rw [if_pos h5]
      exact ⟨fun g => absurd g (by decide), fun g => absurd g h⟩
    · rw [if_neg h5]
      exact ⟨fun g => absurd g h5, fun g => absurd g h⟩
def k_ct (i n : Int) (ct : Nat → Int32) : Prop := ∀ j : Nat, (j : Int) < i → ((ct j).toInt ≠ 0 ↔ (j : Int) < n)
theorem k_ct_0 {n : Int} {ct : Nat → Int32} : k_ct 0 n ct := fun j h => absurd h (by omega)
theorem k_ct_s {i' n : Int} {ct : Nat → Int32} {i v : Int32} (h : k_ct i.toInt n ct) (h0 : 0 ≤ i.toInt) (hi : i' = i.toInt + 1) (hv : v.toInt ≠ 0 ↔ i.toInt < n) : k_ct i' n (upd ct i.toNatClampNeg v) := by
  have h4 : i.toNatClampNeg = i.toInt.toNat := rfl
  intro j hj
  by_cases e : j = i.toNatClampNeg
  · rw [show upd ct i.toNatClampNeg v j = v by unfold upd; rw [if_pos e], hv]
    omega
  · rw [show upd ct i.toNatClampNeg v j = ct j by unfold upd; rw [if_neg e]]
    exact h j (by omega)
def k_ge (n : Int) (ct : Nat → Int32) : Prop := ∀ j : Nat, n ≤ (j : Int) → (j : Int) < 80 → (ct j).toInt = 0
theorem k_ct_ge {i n : Int} {ct : Nat → Int32} (h : k_ct i n ct) (hi : 80 ≤ i) : k_ge n ct := fun j h1 h2 => Classical.byContradiction fun g => absurd ((h j (by omega)).mp g) (by omega)
theorem k_ge_u {n : Int} {ct : Nat → Int32} {x : Nat} {v : Int32} (h : k_ge n ct) (hv : v.toInt = 0) : k_ge n (upd ct x v) := fun j h1 h2 => by
  unfold upd
  by_cases e : j = x
  · rw [if_pos e]; exact hv
  · rw [if_neg e]; exact h j h1 h2
theorem k_ct_sl {S A ct : Nat → Int32} {i n m : Int} (h : k_ct i n ct) (hi : n ≤ i) (hm : n ≤ m + 1) : k_sl S A n m (k_iv ct) := k_sl_0 (m := n) (fun j hj => k_iv_y.mpr ((h j (by omega)).mpr hj)) (Int.le_refl _) hm
def k_sr (S A : Nat → Int32) (n : Int) : Prop := ∀ k : Nat, (k : Int) < n → (S k).toInt = 9 → (A k).toInt < (k : Int)
theorem k_sr_a {S A : Nat → Int32} {n : Int} {i z : Int32} (h : k_sr S A n) (h0 : 0 ≤ i.toInt) (hn : i.toInt < n) (hS : (S i.toNatClampNeg).toInt = 9) (e : z = A i.toNatClampNeg) : z.toInt < i.toInt := by
  have g := h i.toNatClampNeg (by rw [k_cn h0]; exact hn) hS
  rw [k_cn h0, ← e] at g
  exact g
theorem k_slr_n {S A ct : Nat → Int32} {n i' : Int} {i : Int32} (h : k_sl (kN9 S) A n i.toInt (k_iv ct)) (h0 : 0 ≤ i.toInt) (hi : i' = i.toInt - 1) (hq : (S i.toNatClampNeg).toInt ≠ 9 ∨ (ct i.toNatClampNeg).toInt = 0) : k_sl (kN9 S) A n i' (k_iv ct) := k_sl_n h h0 hi (fun g => hq.elim (fun q => q (kN9_5.mp g.1)) (fun q => k_iv_y.mp g.2.1 q))
theorem k_slr_y {S A ct : Nat → Int32} {n i' : Int} {i x v : Int32} (h : k_sl (kN9 S) A n i.toInt (k_iv ct)) (h0 : 0 ≤ i.toInt) (hn : i.toInt < n) (hi : i' = i.toInt - 1) (hS : (S i.toNatClampNeg).toInt = 9) (hs : (ct i.toNatClampNeg).toInt ≠ 0) (hx : x = A i.toNatClampNeg) (hx0 : 0 ≤ x.toInt) (hxi : x.toInt < i.toInt) (hv : v.toInt = 0) : k_sl (kN9 S) A n i' (k_iv (upd ct x.toNatClampNeg v)) := by
  rw [k_iv_upd hv]
  exact k_sl_y h h0 hn hi (kN9_5.mpr hS) (k_iv_y.mpr hs) hx hx0 hxi (by decide)
theorem k_ri_x {M : Int → Int → Prop} {i' : Int} {r0 r : Nat → Int32} {i d : Int32} (hT : k_tr M) (h : k_ri M d.toInt i.toInt r0 r) (h0 : 0 ≤ i.toInt) (hd : 0 ≤ d.toInt) (hi : i' = i.toInt + 1) (hq : M d.toInt i.toInt) (hv : (r i.toNatClampNeg).toInt + 1 ≤ (r d.toNatClampNeg).toInt) : k_ri M d.toInt i' r0 r := by
  have h4 : i.toNatClampNeg = i.toInt.toNat := rfl
  have h5 : d.toNatClampNeg = d.toInt.toNat := rfl
  have hne : ¬ i.toInt = d.toInt := fun e => hT.2 d.toInt (by rw [e] at hq; exact hq)
  have ei : r i.toNatClampNeg = r0 i.toNatClampNeg := h.1 _ (by omega)
  refine ⟨h.1, h.2.1, fun y hy hM => ?_⟩
  by_cases e : y = i.toNatClampNeg
  · rw [e, ← ei, ← h5]
    exact hv
  · exact h.2.2 y (by omega) hM
theorem k_q2_le {lt rk : Nat → Int32} {v : Int} (h : k_q2 lt rk v) : 0 ≤ v ∧ v ≤ 1 := by
  rcases h with h | h
  · omega
  · omega
def k_mb (S A B : Nat → Int32) (c : Nat → Prop) (m i : Int) (b : Nat → Int32) : Prop := m = 0 → k_be S A B c i b
theorem k_mb_1 {S A B : Nat → Int32} {c : Nat → Prop} {m i : Int} {b : Nat → Int32} (h : m = 1) : k_mb S A B c m i b := fun g => absurd g (by omega)
theorem k_mb_0 {S A B : Nat → Int32} {c : Nat → Prop} {m : Int} {b : Nat → Int32} : k_mb S A B c m 0 b := fun _ => k_be_0 (by decide)
theorem k_mb_s {S A B : Nat → Int32} {c : Nat → Prop} {m i' : Int} {b : Nat → Int32} {i : Int32} (h : k_mb S A B c m i.toInt b) (h0 : 0 ≤ i.toInt) (hi : i' = i.toInt + 1) (hq : c i.toNatClampNeg → (S i.toNatClampNeg).toInt = 2 → (b (A i.toNatClampNeg).toNatClampNeg).toInt = (b (B i.toNatClampNeg).toNatClampNeg).toInt) : k_mb S A B c m i' b := fun g => k_be_n (h g) h0 hi hq
theorem k_mb_w {S A B : Nat → Int32} {c : Nat → Prop} {m i i' : Int} {b : Nat → Int32} (h : k_mb S A B c m i b) (hi : i' ≤ i) : k_mb S A B c m i' b := fun g k hk => h g k (by omega)
def k_KR (S A B C : Nat → Int32) (n mn : Int) (ct b lt rk fi la : Nat → Int32) (v : Int) : Prop := k_cx (kN9 S) A n (k_iv ct) ∧ k_ge n ct ∧ k_BD S A B (k_iv ct) mn 12 b ∧ k_LT2 S A B (k_iv ct) mn b lt ∧ k_SP (k_M2 lt) (k_D S A B (k_iv ct) b mn mn) (k_D S A C (k_iv ct) b mn mn) 12 fi la ∧ ((v = 1 ∧ ∃ x : Int, k_M2 lt x x) ∨ ((∀ x : Int, ¬ k_M2 lt x x) ∧ k_RK (k_M2 lt) 12 rk ∧ k_ql 12 fi la v))
theorem k_KR_q {lt rk fi la : Nat → Int32} {q v : Int} (h1 : k_q2 lt rk q) (h2 : k_q3 q fi la v) : (v = 1 ∧ ∃ x : Int, k_M2 lt x x) ∨ ((∀ x : Int, ¬ k_M2 lt x x) ∧ k_RK (k_M2 lt) 12 rk ∧ k_ql 12 fi la v) := by
  rcases h1 with h1 | h1
  · rcases h2 with h2 | h2
    · exact Or.inl ⟨h2.2, h1.2⟩
    · omega
  · rcases h2 with h2 | h2
    · omega
    · exact Or.inr ⟨h1.2.1, h1.2.2, h2.2⟩
theorem k_cnt_c {K A K' A' : Nat → Int} {n : Int} {c : Nat → Prop} (h : ∀ k : Nat, (k : Int) < n → K' k = K k ∧ A' k = A k) (hc : k_cnt K A n c) : k_cnt K' A' n c := by
  intro k
  have e : (∃ i : Nat, k < i ∧ (i : Int) < n ∧ K' i = 5 ∧ A' i = (k : Int) ∧ c i) ↔ (∃ i : Nat, k < i ∧ (i : Int) < n ∧ K i = 5 ∧ A i = (k : Int) ∧ c i) := by
    constructor
    · intro g
      obtain ⟨i, q1, q2, q3, q4, q5⟩ := g
      have r := h i q2
      exact ⟨i, q1, q2, by omega, by omega, q5⟩
    · intro g
      obtain ⟨i, q1, q2, q3, q4, q5⟩ := g
      have r := h i q2
      exact ⟨i, q1, q2, by omega, by omega, q5⟩
  rw [e]
  exact hc k
def k_GF (S A B : Nat → Int32) (n L : Int) : Prop := ∀ k : Nat, (k : Int) < n → 0 ≤ (A k).toInt ∧ (0 ≤ (S k).toInt ∧ (S k).toInt ≤ 5) ∧ ((S k).toInt ≤ 4 → (A k).toInt < L) ∧ ((S k).toInt ≤ 2 → 0 ≤ (B k).toInt ∧ (B k).toInt < L) ∧ ((S k).toInt = 5 → (A k).toInt < (k : Int))
theorem k_GF_r3 {S A B : Nat → Int32} {n m L : Int} (h : k_GF S A B m L) (hn : n ≤ m) : k_r3 S A B n L := fun k hk _ h2 => by
  obtain ⟨g1, g2, g3, g4, g5⟩ := h k (by omega)
  exact ⟨⟨g1, g3 (by omega)⟩, g4 h2⟩
theorem k_GF_rd {S A B : Nat → Int32} {n m L : Int} (h : k_GF S A B m L) (hn : n ≤ m) : k_rd S A n L := fun k hk h2 => by
  obtain ⟨g1, g2, g3, g4, g5⟩ := h k (by omega)
  exact ⟨g1, g3 (by omega)⟩
theorem k_GF_L {S A B : Nat → Int32} {n L L' : Int} (h : k_GF S A B n L) (hL : L ≤ L') : k_GF S A B n L' := fun k hk => by
  obtain ⟨g1, g2, g3, g4, g5⟩ := h k hk
  refine ⟨g1, g2, fun q => ?_, fun q => ?_, g5⟩
  · have := g3 q; omega
  · have := g4 q; omega
def k_nn (S' A' B' C' : Nat → Int32) (n : Int) (S A B C : Nat → Int32) : Prop := ∀ k : Nat, (k : Int) < n → kN9 S' k = S k ∧ A' k = A k ∧ ((S k).toInt ≤ 2 → B' k = B k) ∧ ((S k).toInt = 3 → B' k = B k ∧ C' k = C k)
theorem kN9_t {S' : Nat → Int32} {k : Nat} {x : Int32} (h : kN9 S' k = x) (hx : x.toInt ≤ 5) {t : Int} (ht : t ≤ 4) : (S' k).toInt = t ↔ x.toInt = t := by
  unfold kN9 at h
  by_cases h9 : (S' k).toInt = 9
  · rw [if_pos h9] at h
    have h5 : x.toInt = 5 := by rw [← h]; decide
    omega
  · rw [if_neg h9] at h
    by_cases h5 : (S' k).toInt = 5
    · rw [if_pos h5] at h
      have h6 : x.toInt = 9 := by rw [← h]; decide
      omega
    · rw [if_neg h5] at h
      rw [h]
theorem k_nn_sr {S' A' B' C' S A B C : Nat → Int32} {n m L : Int} (h : k_nn S' A' B' C' m S A B C) (hg : k_GF S A B m L) (hn : n ≤ m) : k_sr S' A' n := fun k hk h9 => by
  obtain ⟨q1, q2, q3, q4⟩ := h k (by omega)
  obtain ⟨g1, g2, g3, g4, g5⟩ := hg k (by omega)
  rw [q2]
  refine g5 ?_
  rw [← q1]
  exact kN9_5.mpr h9
def k_eq (S A B C : Nat → Int32) (c : Nat → Prop) (n : Int) (S' A' B' C' : Nat → Int32) (c' : Nat → Prop) (n' : Int) : Prop := ∀ k : Nat, (k : Int) < n → c k → ((k : Int) < n' ∧ c' k) ∧ kI A k = kI A' k ∧ (∀ t : Int, t ≤ 4 → (kI S k = t ↔ kI S' k = t)) ∧ (kI S k ≤ 2 → kI B k = kI B' k) ∧ (kI S k = 3 → kI B k = kI B' k ∧ kI C k = kI C' k)
theorem k_eq_s {S A B C S' A' B' C' : Nat → Int32} {c c' : Nat → Prop} {n n' : Int} (h : k_eq S A B C c n S' A' B' C' c' n') (hc : ∀ k : Nat, (k : Int) < n' → c' k → (k : Int) < n ∧ c k) : k_eq S' A' B' C' c' n' S A B C c n := by
  intro k h1 h2
  have g := hc k h1 h2
  obtain ⟨q1, q2, q3, q4, q5⟩ := h k g.1 g.2
  refine ⟨g, q2.symm, fun t ht => (q3 t ht).symm, fun e => ?_, fun e => ?_⟩
  · have e2 : kI S k = kI S' k := (q3 (kI S' k) (by omega)).mpr rfl
    exact (q4 (by omega)).symm
  · have e2 : kI S k = kI S' k := (q3 (kI S' k) (by omega)).mpr rfl
    have q6 := q5 (by omega)
    exact ⟨q6.1.symm, q6.2.symm⟩
theorem k_eq_conn {S A B C S' A' B' C' : Nat → Int32} {c c' : Nat → Prop} {n n' l m : Int} (h : k_eq S' A' B' C' c' n' S A B C c n) (hc : k_conn (kI S') (kI A') (kI B') c' n' l m) : k_conn (kI S) (kI A) (kI B) c n l m := fun P hP hl => hc P (fun k h1 h2 h3 => by
  obtain ⟨q1, q2, q3, q4, q5⟩ := h k h1 h2
  rw [q2, q4 (by omega)]
  exact hP k q1.1 q1.2 ((q3 2 (by omega)).mp h3)) hl
theorem k_eq_bed {S A B C S' A' B' C' : Nat → Int32} {c c' : Nat → Prop} {n n' L L' : Int} {b : Nat → Int} (h : k_eq S' A' B' C' c' n' S A B C c n) (h' : k_eq S A B C c n S' A' B' C' c' n') (hL : L ≤ L') (hb : k_bed (kI S') (kI A') (kI B') c' n' b L') : k_bed (kI S) (kI A) (kI B) c n b L := fun l hl => ⟨k_eq_conn h (hb l (by omega)).1, fun m hm => (hb l (by omega)).2 m (k_eq_conn h' hm)⟩
theorem k_eq_E {S A B C S' A' B' C' : Nat → Int32} {c c' : Nat → Prop} {n n' : Int} {b : Nat → Int} (h : k_eq S' A' B' C' c' n' S A B C c n) (x y : Int) (e : k_E (kI S') (kI A') (kI B') c' n' b x y) : k_E (kI S) (kI A) (kI B) c n b x y := by
  obtain ⟨k, e1, e2, e3, e4, e5⟩ := e
  obtain ⟨q1, q2, q3, q4, q5⟩ := h k e1 e2
  have q6 := q4 (by omega)
  refine ⟨k, q1.1, q1.2, ?_, by rw [← q2]; exact e4, by rw [← q6]; exact e5⟩
  rcases e3 with e3 | e3
  · exact Or.inl ((q3 0 (by omega)).mp e3)
  · exact Or.inr ((q3 1 (by omega)).mp e3)
def k_AD (S A V : Nat → Int32) (c : Nat → Prop) (n : Int) (b : Nat → Int) (x w : Int) : Prop := ∃ k : Nat, (k : Int) < n ∧ c k ∧ kI S k = 3 ∧ x = b (kI A k).toNat ∧ w = kI V k
theorem k_eq_D1 {S A B C S' A' B' C' : Nat → Int32} {c c' : Nat → Prop} {n n' : Int} {b : Nat → Int} (h : k_eq S' A' B' C' c' n' S A B C c n) (x w : Int) (e : k_AD S' A' B' c' n' b x w) : k_AD S A B c n b x w := by
  obtain ⟨k, e1, e2, e3, e4, e5⟩ := e
  obtain ⟨q1, q2, q3, q4, q5⟩ := h k e1 e2
  have q6 := q5 e3
  exact ⟨k, q1.1, q1.2, (q3 3 (by omega)).mp e3, by rw [← q2]; exact e4, by rw [← q6.1]; exact e5⟩
theorem k_eq_D2 {S A B C S' A' B' C' : Nat → Int32} {c c' : Nat → Prop} {n n' : Int} {b : Nat → Int} (h : k_eq S' A' B' C' c' n' S A B C c n) (x w : Int) (e : k_AD S' A' C' c' n' b x w) : k_AD S A C c n b x w := by
  obtain ⟨k, e1, e2, e3, e4, e5⟩ := e
  obtain ⟨q1, q2, q3, q4, q5⟩ := h k e1 e2
  have q6 := q5 e3
  exact ⟨k, q1.1, q1.2, (q3 3 (by omega)).mp e3, by rw [← q2]; exact e4, by rw [← q6.2]; exact e5⟩
theorem k_D_AD {S A V s b : Nat → Int32} {n : Int} (x w : Int) : k_D S A V s b n n x w ↔ k_AD S A V (k_c n s) n (kI b) x w := Iff.rfl
theorem k_max_i {T D D' : Int → Int → Prop} {a v : Int} (h : k_max T D a v) (hd : ∀ x w : Int, D x w ↔ D' x w) : k_max T D' a v := by
  obtain ⟨h1, h2, h3⟩ := h
  refine ⟨h1, ?_, fun x w q1 q2 => h3 x w q1 ((hd _ _).mpr q2)⟩
  rcases h2 with h2 | ⟨x, q1, q2⟩
  · exact Or.inl h2
  · exact Or.inr ⟨x, q1, (hd _ _).mp q2⟩
theorem k_min_i {T D D' : Int → Int → Prop} {a v : Int} (h : k_min T D a v) (hd : ∀ x w : Int, D x w ↔ D' x w) : k_min T D' a v := by
  obtain ⟨h1, h2, h3⟩ := h
  refine ⟨h1, ?_, fun x w q1 q2 => h3 x w q1 ((hd _ _).mpr q2)⟩
  rcases h2 with h2 | ⟨x, q1, q2⟩
  · exact Or.inl h2
  · exact Or.inr ⟨x, q1, (hd _ _).mp q2⟩
theorem k_SP_i {M D1 D2 D1' D2' : Int → Int → Prop} {L : Int} {le gr : Nat → Int32} (h : k_SP M D1 D2 L le gr) (e1 : ∀ x w : Int, D1 x w ↔ D1' x w) (e2 : ∀ x w : Int, D2 x w ↔ D2' x w) : k_SP M D1' D2' L le gr := fun x hx => ⟨k_max_i (h x hx).1 e1, k_min_i (h x hx).2 e2⟩
def k_AQ (T D1 D2 : Int → Int → Prop) (L : Int) (rk le gr : Int → Int) (v : Int) : Prop := (v = 1 ∧ ∃ x : Int, T x x) ∨ ((∀ x : Int, ¬ T x x) ∧ (∀ x : Int, 0 ≤ x → x < L → k_rank T x (rk x) ∧ k_max T D1 x (le x) ∧ k_min T D2 x (gr x)) ∧ ((v = 2 ∧ ∃ x : Int, 0 ≤ x ∧ x < L ∧ gr x < le x) ∨ (v = 0 ∧ ∀ x : Int, 0 ≤ x → x < L → le x ≤ gr x)))
theorem k_AQ_u {T D1 D2 D1' D2' : Int → Int → Prop} {L v v' : Int} {rk le gr rk' le' gr' : Int → Int} (e1 : ∀ x w : Int, D1' x w ↔ D1 x w) (e2 : ∀ x w : Int, D2' x w ↔ D2 x w) (h : k_AQ T D1 D2 L rk le gr v) (h' : k_AQ T D1' D2' L rk' le' gr' v') : v' = v ∧ (v ≠ 1 → ∀ x : Int, 0 ≤ x → x < L → rk' x = rk x ∧ le' x = le x ∧ gr' x = gr x) := by
  rcases h with ⟨p1, x, p2⟩ | ⟨p1, p2, p3⟩
  · rcases h' with ⟨q1, q2⟩ | ⟨q1, q2, q3⟩
    · exact ⟨by omega, fun g => absurd p1 g⟩
    · exact absurd p2 (q1 x)
  · rcases h' with ⟨q1, x, q2⟩ | ⟨q1, q2, q3⟩
    · exact absurd q2 (p1 x)
    · have eR : ∀ x : Int, 0 ≤ x → x < L → rk' x = rk x ∧ le' x = le x ∧ gr' x = gr x := fun x x0 x1 => ⟨k_rank_u (q2 x x0 x1).1 (p2 x x0 x1).1, k_max_u (k_max_i (q2 x x0 x1).2.1 e1) (p2 x x0 x1).2.1, k_min_u (k_min_i (q2 x x0 x1).2.2 e2) (p2 x x0 x1).2.2⟩
      refine ⟨?_, fun _ => eR⟩
      rcases p3 with ⟨a1, x, x0, x1, x2⟩ | ⟨a1, a2⟩
      · rcases q3 with ⟨c1, c2⟩ | ⟨c1, c2⟩
        · omega
        · have u1 := c2 x x0 x1
          have u2 := eR x x0 x1
          omega
      · rcases q3 with ⟨c1, x, x0, x1, x2⟩ | ⟨c1, c2⟩
        · have u1 := a2 x x0 x1
          have u2 := eR x x0 x1
          omega
        · omega
theorem k_AQ_of {M D1 D2 : Int → Int → Prop} {L v : Int} {rk le gr : Nat → Int32} (h1 : ∀ x : Int, ¬ M x x) (h2 : k_RK M L rk) (h3 : k_SP M D1 D2 L le gr) (h4 : k_ql L le gr v) : k_AQ M D1 D2 L (fun x => (rk x.toNat).toInt) (fun x => (le x.toNat).toInt) (fun x => (gr x.toNat).toInt) v := by
  refine Or.inr ⟨h1, fun x x0 x1 => ?_, ?_⟩
  · have e : ((x.toNat : Nat) : Int) = x := Int.toNat_of_nonneg x0
    have q1 := h2 x.toNat (by omega)
    have q2 := h3 x.toNat (by omega)
    rw [e] at q1 q2
    exact ⟨q1, q2.1, q2.2⟩
  · rcases h4 with ⟨q1, x, q2, q3⟩ | ⟨q1, q2⟩
    · exact Or.inl ⟨q1, (x : Int), by omega, q2, q3⟩
    · exact Or.inr ⟨q1, fun x x0 x1 => q2 x.toNat (by omega)⟩
def k_AS (S A B C : Nat → Int32) (n L : Int) (c : Nat → Prop) (b : Nat → Int) (T : Int → Int → Prop) (rk le gr : Int → Int) (v : Int) : Prop := k_cnt (kI S) (kI A) n c ∧ k_bed (kI S) (kI A) (kI B) c n b L ∧ (∀ x y : Int, T x y ↔ k_T (k_E (kI S) (kI A) (kI B) c n b) x y) ∧ k_AQ T (k_AD S A B c n b) (k_AD S A C c n b) L rk le gr v
theorem k_AS_c {S A B C s b lt rk le gr : Nat → Int32} {n L v : Int} (h : k_KN S A B C n L s b lt rk le gr v) : k_AS S A B C n L (k_c n s) (kI b) (k_M L lt) (fun x => (rk x.toNat).toInt) (fun x => (le x.toNat).toInt) (fun x => (gr x.toNat).toInt) v := by
  obtain ⟨h1, h2, h3, h4⟩ := h
  refine ⟨h1, h2.2, h3, ?_⟩
  rcases h4 with ⟨q1, q2⟩ | ⟨q1, q2, q3, q4⟩
  · exact Or.inl ⟨q1, q2⟩
  · exact k_AQ_of (fun x g => q1 ⟨x, g⟩) q2 (k_SP_i q3 k_D_AD k_D_AD) q4
theorem k_AS_u {S A B C : Nat → Int32} {n m L v v' : Int} {c c' : Nat → Prop} {b b' : Nat → Int} {T T' : Int → Int → Prop} {rk le gr rk' le' gr' : Int → Int} (hg : k_GF S A B m L) (hn : n ≤ m) (h : k_AS S A B C n L c b T rk le gr v) (h' : k_AS S A B C n L c' b' T' rk' le' gr' v') : c' = c ∧ (∀ l : Nat, (l : Int) < L → b' l = b l) ∧ T' = T ∧ v' = v ∧ (v ≠ 1 → ∀ x : Int, 0 ≤ x → x < L → rk' x = rk x ∧ le' x = le x ∧ gr' x = gr x) := by
  obtain ⟨h1, h2, h3, h4⟩ := h
  obtain ⟨g1, g2, g3, g4⟩ := h'
  have ec : c' = c := funext fun k => propext (k_cnt_u g1 h1 k)
  rw [ec] at g2 g3 g4
  have eb : ∀ l : Nat, (l : Int) < L → b' l = b l := fun l hl => k_bed_u g2 h2 l hl
  have e1 : ∀ k : Nat, (k : Int) < n → (kI S k = 0 ∨ kI S k = 1) → b' (kI A k).toNat = b (kI A k).toNat ∧ b' (kI B k).toNat = b (kI B k).toNat := fun k hk hS => by
    obtain ⟨r1, r2⟩ := k_GF_r3 hg hn k hk (by show 0 ≤ kI S k; omega) (by show kI S k ≤ 2; omega)
    exact ⟨eb _ (by show (((A k).toInt.toNat : Nat) : Int) < L; omega), eb _ (by show (((B k).toInt.toNat : Nat) : Int) < L; omega)⟩
  have e2 : ∀ k : Nat, (k : Int) < n → kI S k = 3 → b' (kI A k).toNat = b (kI A k).toNat := fun k hk hS => by
    have r1 := k_GF_rd hg hn k hk hS
    exact eb _ (by show (((A k).toInt.toNat : Nat) : Int) < L; omega)
  have eE : ∀ x y : Int, k_E (kI S) (kI A) (kI B) c n b' x y ↔ k_E (kI S) (kI A) (kI B) c n b x y := fun x y => by
    constructor
    · intro g
      obtain ⟨k, q1, q2, q3, q4, q5⟩ := g
      have r := e1 k q1 q3
      exact ⟨k, q1, q2, q3, by rw [← r.1]; exact q4, by rw [← r.2]; exact q5⟩
    · intro g
      obtain ⟨k, q1, q2, q3, q4, q5⟩ := g
      have r := e1 k q1 q3
      exact ⟨k, q1, q2, q3, by rw [r.1]; exact q4, by rw [r.2]; exact q5⟩
  have eD : ∀ V : Nat → Int32, ∀ x w : Int, k_AD S A V c n b' x w ↔ k_AD S A V c n b x w := fun V x w => by
    constructor
    · intro g
      obtain ⟨k, q1, q2, q3, q4, q5⟩ := g
      exact ⟨k, q1, q2, q3, by rw [← e2 k q1 q3]; exact q4, q5⟩
    · intro g
      obtain ⟨k, q1, q2, q3, q4, q5⟩ := g
      exact ⟨k, q1, q2, q3, by rw [e2 k q1 q3]; exact q4, q5⟩
  have eT : T' = T := funext fun x => funext fun y => propext ((g3 x y).trans ((k_T_iff eE x y).trans (h3 x y).symm))
  rw [eT] at g4
  have eQ := k_AQ_u (eD B) (eD C) h4 g4
  exact ⟨ec, eb, eT, eQ.1, eQ.2⟩
theorem k_bed_in {S A B : Nat → Int32} {c : Nat → Prop} {n L : Int} {b : Nat → Int} (hr : k_r3 S A B n L) (h : k_bed (kI S) (kI A) (kI B) c n b L) (l : Nat) (hl : (l : Int) < L) : 0 ≤ b l ∧ b l < L := (h l hl).1 (fun x => 0 ≤ x ∧ x < L) (fun k h1 _ h3 => by
  obtain ⟨r1, r2⟩ := hr k h1 (by show 0 ≤ kI S k; omega) (by show kI S k ≤ 2; omega)
  exact ⟨fun _ => r2, fun _ => r1⟩) ⟨by omega, hl⟩
theorem k_AS_r {S A B C S' A' B' C' ct b lt rk fi la : Nat → Int32} {n m L v : Int} (hm : n ≤ m) (hm8 : m ≤ 80) (hL : L ≤ 12) (hg : k_GF S A B m L) (hn : k_nn S' A' B' C' m S A B C) (h : k_KR S' A' B' C' n m ct b lt rk fi la v) : k_AS S A B C n L (k_c n (k_iv ct)) (kI b) (k_M2 lt) (fun x => (rk x.toNat).toInt) (fun x => (fi x.toNat).toInt) (fun x => (la x.toNat).toInt) v := by
  obtain ⟨h1, h2, h3, h4, h5, h6⟩ := h
  have hq : k_eq S' A' B' C' (k_c m (k_iv ct)) m S A B C (k_c n (k_iv ct)) n := by
    intro k g1 g2
    have gn : (k : Int) < n := Classical.byContradiction fun q => absurd (h2 k (by omega) (by omega)) (k_iv_y.mp g2.2)
    obtain ⟨q1, q2, q3, q4⟩ := hn k g1
    obtain ⟨r1, r2, r3, r4, r5⟩ := hg k g1
    have et : ∀ t : Int, t ≤ 4 → (kI S' k = t ↔ kI S k = t) := fun t ht => kN9_t q1 r2.2 ht
    refine ⟨⟨gn, gn, g2.2⟩, congrArg Int32.toInt q2, et, fun e => congrArg Int32.toInt (q3 ?_), fun e => ?_⟩
    · have e2 : kI S k = kI S' k := (et (kI S' k) (by omega)).mp rfl
      show kI S k ≤ 2
      omega
    · have e2 := q4 ((et 3 (by omega)).mp e)
      exact ⟨congrArg Int32.toInt e2.1, congrArg Int32.toInt e2.2⟩
  have hq' := k_eq_s hq (fun k g1 g2 => ⟨by omega, by omega, g2.2⟩)
  have hD1 : ∀ x w : Int, k_D S' A' B' (k_iv ct) b m m x w ↔ k_AD S A B (k_c n (k_iv ct)) n (kI b) x w := fun x w => ⟨k_eq_D1 (b := kI b) hq x w, k_eq_D1 (b := kI b) hq' x w⟩
  have hD2 : ∀ x w : Int, k_D S' A' C' (k_iv ct) b m m x w ↔ k_AD S A C (k_c n (k_iv ct)) n (kI b) x w := fun x w => ⟨k_eq_D2 (b := kI b) hq x w, k_eq_D2 (b := kI b) hq' x w⟩
  have hE : ∀ x y : Int, k_E (kI S') (kI A') (kI B') (k_c m (k_iv ct)) m (kI b) x y ↔ k_E (kI S) (kI A) (kI B) (k_c n (k_iv ct)) n (kI b) x y := fun x y => ⟨k_eq_E hq x y, k_eq_E hq' x y⟩
  have hT : ∀ x y : Int, k_M2 lt x y ↔ k_T (k_E (kI S) (kI A) (kI B) (k_c n (k_iv ct)) n (kI b)) x y := fun x y => (h4 x y).trans (k_T_iff hE x y)
  have hsp := k_SP_i h5 hD1 hD2
  have hb : ∀ a : Int, 0 ≤ a → a < L → 0 ≤ kI b a.toNat ∧ kI b a.toNat < L := fun a a0 a1 => by
    have g := (h3.1 a.toNat (by omega)).2
    have e : kI b a.toNat = (b a.toNat).toInt := rfl
    omega
  have hTin : ∀ x y : Int, k_M2 lt x y → (0 ≤ x ∧ x < L) ∧ (0 ≤ y ∧ y < L) := fun x y q => k_T_in (fun x y e => by
    obtain ⟨k, e1, e2, e3, e4, e5⟩ := e
    obtain ⟨r1, r2⟩ := k_GF_r3 hg hm k e1 (by show 0 ≤ kI S k; omega) (by show kI S k ≤ 2; omega)
    rw [e4, e5]
    exact ⟨hb _ r1.1 r1.2, hb _ r2.1 r2.2⟩) ((hT x y).mp q)
  have hDin : ∀ V : Nat → Int32, ∀ x w : Int, k_AD S A V (k_c n (k_iv ct)) n (kI b) x w → x < L := fun V x w e => by
    obtain ⟨k, e1, e2, e3, e4, e5⟩ := e
    have r1 := k_GF_rd hg hm k e1 e3
    rw [e4]
    exact (hb _ r1.1 r1.2).2
  refine ⟨k_cnt_c (fun k hk => ?_) h1, k_eq_bed hq hq' hL h3.2, hT, ?_⟩
  · obtain ⟨q1, q2, q3, q4⟩ := hn k (by omega)
    exact ⟨(congrArg Int32.toInt q1).symm, (congrArg Int32.toInt q2).symm⟩
  · rcases h6 with h6 | ⟨p1, p2, p3⟩
    · exact Or.inl h6
    · refine k_AQ_of p1 (fun x hx => p2 x (by omega)) (fun x hx => hsp x (by omega)) ?_
      rcases p3 with ⟨a1, x, a2, a3⟩ | ⟨a1, a2⟩
      · refine Or.inl ⟨a1, x, Classical.byContradiction fun hx => ?_, a3⟩
        obtain ⟨s1, s2⟩ := hsp x a2
        have f0 : (fi x).toInt = 0 := by
          rcases s1.2.1 with e | ⟨y, y1, y2⟩
          · exact e
          · rcases y1 with y1 | y1
            · rw [y1] at y2
              exact absurd (hDin B _ _ y2) hx
            · exact absurd (hTin _ _ y1).1.2 hx
        have f1 : (la x).toInt = 9999 := by
          rcases s2.2.1 with e | ⟨y, y1, y2⟩
          · exact e
          · rcases y1 with y1 | y1
            · rw [y1] at y2
              exact absurd (hDin C _ _ y2) hx
            · exact absurd (hTin _ _ y1).2.2 hx
        omega
      · exact Or.inr ⟨a1, fun x hx => a2 x (by omega)⟩
noncomputable def k_the (P : Int → Prop) : Int32 := Int32.ofInt (Classical.epsilon P)
theorem k_the_of {P : Int → Prop} {r : Int32} (h : P r.toInt) (u : ∀ x y : Int, P x → P y → x = y) : r = k_the P := by
  have g := Classical.epsilon_spec (p := P) ⟨_, h⟩
  unfold k_the
  rw [u _ _ g h, Int32.ofInt_toInt]
noncomputable def k_abF (b : Nat → Int) (rk le gr : Int → Int) (v L l what : Int) : Int := if what = 0 then b l.toNat else if what = 1 then ((k_card (fun x => b x.toNat = b l.toNat) L.toNat : Nat) : Int) else if what = 2 then (if v = 1 then -1 else rk (b l.toNat)) else if what = 3 then (if v = 0 then le (b l.toNat) else -1) else (if v = 0 then gr (b l.toNat) else -1)
def k_ab (S A B C : Nat → Int32) (n L l what r : Int) : Prop := ∃ (c : Nat → Prop) (b : Nat → Int) (T : Int → Int → Prop) (rk le gr : Int → Int) (v : Int), k_AS S A B C n L c b T rk le gr v ∧ r = k_abF b rk le gr v L l what
theorem k_card_c {P Q : Int → Prop} {m : Nat} (h : ∀ x : Int, 0 ≤ x → x < (m : Int) → (P x ↔ Q x)) : k_card P m = k_card Q m := Nat.le_antisymm (k_card_le m (fun x h0 h1 g => (h x h0 h1).mp g)) (k_card_le m (fun x h0 h1 g => (h x h0 h1).mpr g))
theorem k_ab_u {S A B C : Nat → Int32} {n m L l what : Int} (hg : k_GF S A B m L) (hn : n ≤ m) (hl : 0 ≤ l ∧ l < L) (x y : Int) (h : k_ab S A B C n L l what x) (h' : k_ab S A B C n L l what y) : x = y := by
  obtain ⟨c, b, T, rk, le, gr, v, h1, h2⟩ := h
  obtain ⟨c', b', T', rk', le', gr', v', h1', h2'⟩ := h'
  obtain ⟨ec, eb, eT, ev, eR⟩ := k_AS_u hg hn h1 h1'
  have el := eb l.toNat (by omega)
  have hb := k_bed_in (k_GF_r3 hg hn) h1.2.1 l.toNat (by omega)
  have eC : k_card (fun x => b' x.toNat = b l.toNat) L.toNat = k_card (fun x => b x.toNat = b l.toNat) L.toNat := k_card_c (fun x x0 x1 => by
    show b' x.toNat = b l.toNat ↔ b x.toNat = b l.toNat
    rw [eb x.toNat (by omega)])
  rw [h2, h2']
  unfold k_abF
  rw [el, eC, ev]
  by_cases w0 : what = 0
  · simp only [if_pos w0]
  · simp only [if_neg w0]
    by_cases w1 : what = 1
    · simp only [if_pos w1]
    · simp only [if_neg w1]
      by_cases w2 : what = 2
      · simp only [if_pos w2]
        by_cases v1 : v = 1
        · simp only [if_pos v1]
        · simp only [if_neg v1]
          exact (eR v1 _ hb.1 hb.2).1.symm
      · simp only [if_neg w2]
        by_cases v0 : v = 0
        · have q := eR (by omega) _ hb.1 hb.2
          simp only [if_pos v0]
          by_cases w3 : what = 3
          · simp only [if_pos w3]
            exact q.2.1.symm
          · simp only [if_neg w3]
            exact q.2.2.symm
        · simp only [if_neg v0]
theorem k_bd_t {S A B C : Nat → Int32} {n m L l what v : Int} {c : Nat → Prop} {b : Nat → Int} {T : Int → Int → Prop} {rk le gr : Int → Int} {r : Int32} (hg : k_GF S A B m L) (hn : n ≤ m) (hl : 0 ≤ l ∧ l < L) (h : k_AS S A B C n L c b T rk le gr v) (hr : r.toInt = k_abF b rk le gr v L l what) : r = k_the (k_ab S A B C n L l what) := k_the_of ⟨c, b, T, rk, le, gr, v, h, hr⟩ (fun x y => k_ab_u hg hn hl x y)
theorem k_f0 {b : Nat → Int} {rk le gr : Int → Int} {v L l what r : Int} (hw : what = 0) (e : r = b l.toNat) : r = k_abF b rk le gr v L l what := by
  unfold k_abF
  rw [if_pos hw]
  exact e
theorem k_f1 {b : Nat → Int} {rk le gr : Int → Int} {v L l what r : Int} (hw : what = 1) (e : r = ((k_card (fun x => b x.toNat = b l.toNat) L.toNat : Nat) : Int)) : r = k_abF b rk le gr v L l what := by
  unfold k_abF
  rw [if_neg (by omega), if_pos hw]
  exact e
theorem k_f2 {b : Nat → Int} {rk le gr : Int → Int} {v L l what r : Int} (hw : what = 2) (e : (v = 1 ∧ r = -1) ∨ (v ≠ 1 ∧ r = rk (b l.toNat))) : r = k_abF b rk le gr v L l what := by
  unfold k_abF
  rw [if_neg (by omega), if_neg (by omega), if_pos hw]
  rcases e with e | e
  · rw [if_pos e.1]; exact e.2
  · rw [if_neg e.1]; exact e.2
theorem k_f3 {b : Nat → Int} {rk le gr : Int → Int} {v L l what r : Int} (hw : what = 3) (e : (v ≠ 0 ∧ r = -1) ∨ (v = 0 ∧ r = le (b l.toNat))) : r = k_abF b rk le gr v L l what := by
  unfold k_abF
  rw [if_neg (by omega), if_neg (by omega), if_neg (by omega), if_pos hw]
  rcases e with e | e
  · rw [if_neg e.1]; exact e.2
  · rw [if_pos e.1]; exact e.2
theorem k_f4 {b : Nat → Int} {rk le gr : Int → Int} {v L l what r : Int} (hw : what = 4) (e : (v ≠ 0 ∧ r = -1) ∨ (v = 0 ∧ r = gr (b l.toNat))) : r = k_abF b rk le gr v L l what := by
  unfold k_abF
  rw [if_neg (by omega), if_neg (by omega), if_neg (by omega), if_neg (by omega)]
  rcases e with e | e
  · rw [if_neg e.1]; exact e.2
  · rw [if_pos e.1]; exact e.2
noncomputable def v_bdA (bn bl : Int32) (S A B C : Nat → Int32) (p1 p2 p3 : Int32) : Int32 := if (0 ≤ p1.toInt ∧ p1.toInt ≤ bn.toInt ∧ 0 ≤ p2.toInt ∧ p2.toInt < bl.toInt ∧ 0 ≤ p3.toInt ∧ p3.toInt ≤ 4) then k_the (k_ab S A B C p1.toInt bl.toInt p2.toInt p3.toInt) else (-2)
def k_aq (S A B C : Nat → Int32) (n L r : Int) : Prop := ∃ (c : Nat → Prop) (b : Nat → Int) (T : Int → Int → Prop) (rk le gr : Int → Int) (v : Int), k_AS S A B C n L c b T rk le gr v ∧ r = v
theorem k_qu_t {S A B C : Nat → Int32} {n m L v : Int} {c : Nat → Prop} {b : Nat → Int} {T : Int → Int → Prop} {rk le gr : Int → Int} {r : Int32} (hg : k_GF S A B m L) (hn : n ≤ m) (h : k_AS S A B C n L c b T rk le gr v) (hr : r.toInt = v) : r = k_the (k_aq S A B C n L) := k_the_of ⟨c, b, T, rk, le, gr, v, h, hr⟩ (fun x y h h' => by
  obtain ⟨c, b, T, rk, le, gr, v, h1, h2⟩ := h
  obtain ⟨c', b', T', rk', le', gr', v', h1', h2'⟩ := h'
  obtain ⟨ec, eb, eT, ev, eR⟩ := k_AS_u hg hn h1 h1'
  omega)
noncomputable def v_quA (bn bl : Int32) (S A B C : Nat → Int32) (p1 : Int32) : Int32 := if (0 ≤ p1.toInt ∧ p1.toInt ≤ bn.toInt) then k_the (k_aq S A B C p1.toInt bl.toInt) else (-1)
def k_oF (T : Int → Int → Prop) (x y r : Int) : Prop := (T x y ∧ T y x ∧ r = 3) ∨ (T x y ∧ ¬ T y x ∧ r = 1) ∨ (¬ T x y ∧ T y x ∧ r = 2) ∨ (¬ T x y ∧ ¬ T y x ∧ r = 0)
theorem k_oF_u {T : Int → Int → Prop} {x y r r' : Int} (h : k_oF T x y r) (h' : k_oF T x y r') : r = r' := by
  rcases h with ⟨a, b, c⟩ | ⟨a, b, c⟩ | ⟨a, b, c⟩ | ⟨a, b, c⟩ <;> rcases h' with ⟨a', b', c'⟩ | ⟨a', b', c'⟩ | ⟨a', b', c'⟩ | ⟨a', b', c'⟩ <;> first | omega | exact absurd a a' | exact absurd a' a | exact absurd b b' | exact absurd b' b
def k_ao (S A B C : Nat → Int32) (n L p q r : Int) : Prop := ∃ (c : Nat → Prop) (b : Nat → Int) (T : Int → Int → Prop) (rk le gr : Int → Int) (v : Int), k_AS S A B C n L c b T rk le gr v ∧ k_oF T (b p.toNat) (b q.toNat) r
theorem k_or_t {S A B C : Nat → Int32} {n m L p q v : Int} {c : Nat → Prop} {b : Nat → Int} {T : Int → Int → Prop} {rk le gr : Int → Int} {r : Int32} (hg : k_GF S A B m L) (hn : n ≤ m) (hp : 0 ≤ p ∧ p < L) (hq : 0 ≤ q ∧ q < L) (h : k_AS S A B C n L c b T rk le gr v) (hr : k_oF T (b p.toNat) (b q.toNat) r.toInt) : r = k_the (k_ao S A B C n L p q) := k_the_of ⟨c, b, T, rk, le, gr, v, h, hr⟩ (fun x y h h' => by
  obtain ⟨c, b, T, rk, le, gr, v, h1, h2⟩ := h
  obtain ⟨c', b', T', rk', le', gr', v', h1', h2'⟩ := h'
  obtain ⟨ec, eb, eT, ev, eR⟩ := k_AS_u hg hn h1 h1'
  rw [eT, eb p.toNat (by omega), eb q.toNat (by omega)] at h2'
  exact k_oF_u h2 h2')
noncomputable def v_orA (bn bl : Int32) (S A B C : Nat → Int32) (p1 p2 p3 : Int32) : Int32 := if (0 ≤ p1.toInt ∧ p1.toInt ≤ bn.toInt ∧ 0 ≤ p2.toInt ∧ p2.toInt < bl.toInt ∧ 0 ≤ p3.toInt ∧ p3.toInt < bl.toInt) then k_the (k_ao S A B C p1.toInt bl.toInt p2.toInt p3.toInt) else (-1)
def k_CA (S A B C : Nat → Int32) (bn kn kl : Int) (s b lt rk le gr : Nat → Int32) (v : Int) : Prop := kn ≤ bn ∧ (kn = -1 ∨ k_KN S A B C kn kl s b lt rk le gr v)
theorem k_CA_l {S A B C s b lt rk le gr : Nat → Int32} {bn kn kl p L v : Int} (h0 : kn = p ∧ kl = L) (hp : p ≤ bn) (hk : k_KN S A B C p L s b lt rk le gr v) : k_CA S A B C bn kn kl s b lt rk le gr v := by
  rw [h0.1, h0.2]
  exact ⟨hp, Or.inr hk⟩
theorem k_KN_w {S A B C S' A' B' C' s b lt rk le gr : Nat → Int32} {n L v : Int} (h : k_KN S A B C n L s b lt rk le gr v) (e : ∀ k : Nat, (k : Int) < n → S' k = S k ∧ A' k = A k ∧ B' k = B k ∧ C' k = C k) : k_KN S' A' B' C' n L s b lt rk le gr v := by
  obtain ⟨h1, h2, h3, h4⟩ := h
  have hq : k_eq S A B C (k_c n s) n S' A' B' C' (k_c n s) n := by
    intro k g1 g2
    obtain ⟨q1, q2, q3, q4⟩ := e k g1
    have e1 : kI S' k = kI S k := congrArg Int32.toInt q1
    refine ⟨⟨g1, g2⟩, (congrArg Int32.toInt q2).symm, fun t _ => by rw [e1], fun _ => (congrArg Int32.toInt q3).symm, fun _ => ⟨(congrArg Int32.toInt q3).symm, (congrArg Int32.toInt q4).symm⟩⟩
  have hq' := k_eq_s hq (fun k g1 g2 => ⟨g1, g2⟩)
  have hE : ∀ x y : Int, k_E (kI S) (kI A) (kI B) (k_c n s) n (kI b) x y ↔ k_E (kI S') (kI A') (kI B') (k_c n s) n (kI b) x y := fun x y => ⟨k_eq_E hq x y, k_eq_E hq' x y⟩
  have hD1 : ∀ x w : Int, k_D S A B s b n n x w ↔ k_D S' A' B' s b n n x w := fun x w => ⟨k_eq_D1 (b := kI b) hq x w, k_eq_D1 (b := kI b) hq' x w⟩
  have hD2 : ∀ x w : Int, k_D S A C s b n n x w ↔ k_D S' A' C' s b n n x w := fun x w => ⟨k_eq_D2 (b := kI b) hq x w, k_eq_D2 (b := kI b) hq' x w⟩
  refine ⟨k_cnt_c (fun k hk => ?_) h1, ⟨fun l hl => ⟨k_eq_conn hq (h2.1 l hl).1, (h2.1 l hl).2⟩, k_eq_bed hq hq' (Int.le_refl _) h2.2⟩, fun x y => (h3 x y).trans (k_T_iff hE x y), ?_⟩
  · obtain ⟨q1, q2, q3, q4⟩ := e k hk
    exact ⟨congrArg Int32.toInt q1, congrArg Int32.toInt q2⟩
  · rcases h4 with h4 | ⟨p1, p2, p3, p4⟩
    · exact Or.inl h4
    · exact Or.inr ⟨p1, p2, k_SP_i p3 hD1 hD2, p4⟩
noncomputable def v_up (P : Prop) (F : Nat → Int32) (n v : Int32) : Nat → Int32 := @ite _ P (Classical.propDecidable _) (upd F n.toNatClampNeg v) F
theorem v_up_y {P : Prop} {F : Nat → Int32} {n v : Int32} (h : P) : v_up P F n v = upd F n.toNatClampNeg v := if_pos h
theorem v_up_n {P : Prop} {F : Nat → Int32} {n v : Int32} (h : ¬ P) : v_up P F n v = F := if_neg h
theorem v_up_lt {P : Prop} {F : Nat → Int32} {n v : Int32} {k : Nat} (h0 : 0 ≤ n.toInt) (hk : (k : Int) < n.toInt) : v_up P F n v k = F k := by
  have h4 : n.toNatClampNeg = n.toInt.toNat := rfl
  by_cases p : P
  · rw [v_up_y p]
    unfold upd
    rw [if_neg (by omega)]
  · rw [v_up_n p]
def v_c3 (s c : Int32) : Int32 := if s.toInt = 3 then c else 0
theorem k_CA_w {P : Prop} {S A B C s b lt rk le gr : Nat → Int32} {kn kl v n' : Int} {n x y z w : Int32} (h : k_CA S A B C n.toInt kn kl s b lt rk le gr v) (h0 : 0 ≤ n.toInt) (hn : n.toInt ≤ n') : k_CA (v_up P S n x) (v_up P A n y) (v_up P B n z) (v_up P C n w) n' kn kl s b lt rk le gr v := by
  obtain ⟨h1, h2⟩ := h
  refine ⟨by omega, h2.imp id (fun q => k_KN_w q (fun k hk => ⟨v_up_lt h0 (by omega), v_up_lt h0 (by omega), v_up_lt h0 (by omega), v_up_lt h0 (by omega)⟩))⟩
theorem k_GF_w {P : Prop} {S A B : Nat → Int32} {n n' s a b : Int32} {L : Int} (h : k_GF S A B n.toInt L) (h0 : 0 ≤ n.toInt) (hy : P → n'.toInt = n.toInt + 1 ∧ 0 ≤ a.toInt ∧ (0 ≤ s.toInt ∧ s.toInt ≤ 5) ∧ (s.toInt ≤ 4 → a.toInt < L) ∧ (s.toInt ≤ 2 → 0 ≤ b.toInt ∧ b.toInt < L) ∧ (s.toInt = 5 → a.toInt < n.toInt)) (hn : ¬ P → n' = n) : k_GF (v_up P S n s) (v_up P A n a) (v_up P B n b) n'.toInt L := by
  have h4 : n.toNatClampNeg = n.toInt.toNat := rfl
  by_cases p : P
  · obtain ⟨g0, g1⟩ := hy p
    rw [v_up_y p, v_up_y p, v_up_y p, g0]
    intro k hk
    unfold upd
    by_cases e : k = n.toNatClampNeg
    · rw [if_pos e, if_pos e, if_pos e]
      have ek : (k : Int) = n.toInt := by omega
      rw [ek]
      exact g1
    · rw [if_neg e, if_neg e, if_neg e]
      exact h k (by omega)
  · rw [v_up_n p, v_up_n p, v_up_n p, hn p]
    exact h
theorem k_GF_no {S A B : Nat → Int32} {l n s a b c : Int32} (h : k_GF S A B n.toInt l.toInt) (h0 : 0 ≤ n.toInt ∧ n.toInt ≤ 80) : k_GF (v_up (v_nok l n s a b c) S n s) (v_up (v_nok l n s a b c) A n a) (v_up (v_nok l n s a b c) B n b) (v_noN l n s a b c).toInt l.toInt := by
  refine k_GF_w h h0.1 (fun p => ?_) (fun p => v_noN_n p)
  rw [v_noN_y p, z_add1 (by omega)]
  unfold v_nok at p
  refine ⟨rfl, by omega, by omega, fun _ => by omega, fun _ => by omega, fun _ => by omega⟩
def v_stP (n k : Int32) : Prop := 0 ≤ k.toInt ∧ k.toInt < n.toInt ∧ n.toInt < 80
theorem v_stN_y {n k : Int32} (h : v_stP n k) : v_stN n k = n + 1 := if_pos h
theorem v_stN_n {n k : Int32} (h : ¬ v_stP n k) : v_stN n k = n := if_neg h
theorem k_GF_st {S A B : Nat → Int32} {n k : Int32} {L : Int} (h : k_GF S A B n.toInt L) (h0 : 0 ≤ n.toInt ∧ n.toInt ≤ 80) : k_GF (v_up (v_stP n k) S n 5) (v_up (v_stP n k) A n k) (v_up (v_stP n k) B n 0) (v_stN n k).toInt L := by
  have e5 : (5 : Int32).toInt = 5 := by decide
  refine k_GF_w h h0.1 (fun p => ?_) (fun p => v_stN_n p)
  rw [v_stN_y p, z_add1 (by omega)]
  unfold v_stP at p
  exact ⟨rfl, by omega, by omega, fun q => absurd q (by omega), fun q => absurd q (by omega), fun _ => by omega⟩
def v_fiP (B : Nat → Int32) (f n l q k a : Int32) : Prop := v_fok f n l k a ∧ f_E B k.toInt q.toInt 0 0 0
theorem v_fiN_P {B : Nat → Int32} {f n l q k a : Int32} (h : v_fiP B f n l q k a) : v_fiN B f n l q k a = n + 1 := v_fiN_y h.1 h.2
theorem v_fiN_Q {B : Nat → Int32} {f n l q k a : Int32} (h : ¬ v_fiP B f n l q k a) : v_fiN B f n l q k a = n := by
  by_cases g : v_fok f n l k a
  · exact v_fiN_n g (fun e => h ⟨g, e⟩)
  · exact v_fiN_r g
theorem k_GF_fi {S A B D : Nat → Int32} {f n l q k a : Int32} (h : k_GF S A B n.toInt l.toInt) (h0 : 0 ≤ n.toInt ∧ n.toInt ≤ 80) : k_GF (v_up (v_fiP D f n l q k a) S n 4) (v_up (v_fiP D f n l q k a) A n a) (v_up (v_fiP D f n l q k a) B n 0) (v_fiN D f n l q k a).toInt l.toInt := by
  have e5 : (4 : Int32).toInt = 4 := by decide
  refine k_GF_w h h0.1 (fun p => ?_) (fun p => v_fiN_Q p)
  rw [v_fiN_P p, z_add1 (by omega)]
  have p1 := p.1
  unfold v_fok at p1
  refine ⟨rfl, by omega, by omega, fun _ => by omega, fun q => absurd q (by omega), fun q => absurd q (by omega)⟩
theorem k_GF_la {S A B : Nat → Int32} {l : Int32} {n : Int} (h : k_GF S A B n l.toInt) (h0 : 0 ≤ l.toInt ∧ l.toInt ≤ 12) : k_GF S A B n (v_layN l).toInt := by
  refine k_GF_L h ?_
  unfold v_layN
  by_cases p : l.toInt < 12
  · rw [if_pos p, z_add1 (by omega)]
    omega
  · rw [if_neg p]
    omega
theorem v_noN_le {l n s a b c : Int32} (h0 : 0 ≤ n.toInt ∧ n.toInt ≤ 80) : n.toInt ≤ (v_noN l n s a b c).toInt := by
  by_cases p : v_nok l n s a b c
  · rw [v_noN_y p, z_add1 (by omega)]; omega
  · rw [v_noN_n p]; omega
theorem v_stN_le {n k : Int32} (h0 : 0 ≤ n.toInt ∧ n.toInt ≤ 80) : n.toInt ≤ (v_stN n k).toInt := by
  by_cases p : v_stP n k
  · rw [v_stN_y p, z_add1 (by omega)]; omega
  · rw [v_stN_n p]; omega
theorem v_fiN_le {B : Nat → Int32} {f n l q k a : Int32} (h0 : 0 ≤ n.toInt ∧ n.toInt ≤ 80) : n.toInt ≤ (v_fiN B f n l q k a).toInt := by
  by_cases p : v_fiP B f n l q k a
  · rw [v_fiN_P p, z_add1 (by omega)]; omega
  · rw [v_fiN_Q p]; omega
theorem k_nn_n {P : Prop} {S' A' B' C' S A B C : Nat → Int32} {n n' : Int} {m x y z w : Int32} (h : k_nn S' A' B' C' n S A B C) (hp : ¬ P) (hn : n' = n) : k_nn S' A' B' C' n' (v_up P S m x) (v_up P A m y) (v_up P B m z) (v_up P C m w) := by
  rw [v_up_n hp, v_up_n hp, v_up_n hp, v_up_n hp, hn]
  exact h
theorem kN9_u {S : Nat → Int32} {i k : Nat} {v : Int32} (h : k ≠ i) : kN9 (upd S i v) k = kN9 S k := by
  unfold kN9
  rw [show upd S i v k = S k by unfold upd; rw [if_neg h]]
theorem kN9_i {S : Nat → Int32} {i : Nat} {v : Int32} : kN9 (upd S i v) i = kN9 (fun _ => v) 0 := by
  unfold kN9
  rw [show upd S i v i = v by unfold upd; rw [if_pos rfl]]
theorem kN9_4 {v : Int32} (h : v.toInt ≤ 4) : kN9 (fun _ => v) 0 = v := by
  show (if v.toInt = 9 then (5 : Int32) else if v.toInt = 5 then 9 else v) = v
  rw [if_neg (by omega), if_neg (by omega)]
theorem k_nn_y {P : Prop} {S' A' B' C' S A B C D E : Nat → Int32} {n' : Int} {m s' s a b c : Int32} (h : k_nn S' A' B' C' m.toInt S A B C) (hp : P) (h0 : 0 ≤ m.toInt) (hn : n' = m.toInt + 1) (hs : kN9 (fun _ => s') 0 = s) (hD : ∀ k : Nat, (k : Int) < m.toInt → D k = B' k ∧ E k = C' k) (hb : s.toInt ≤ 2 → D m.toNatClampNeg = b) (hc : s.toInt = 3 → D m.toNatClampNeg = b ∧ E m.toNatClampNeg = c) : k_nn (upd S' m.toNatClampNeg s') (upd A' m.toNatClampNeg a) D E n' (v_up P S m s) (v_up P A m a) (v_up P B m b) (v_up P C m c) := by
  have h4 : m.toNatClampNeg = m.toInt.toNat := rfl
  rw [v_up_y hp, v_up_y hp, v_up_y hp, v_up_y hp, hn]
  intro k hk
  by_cases e : k = m.toNatClampNeg
  · have u : ∀ (F : Nat → Int32) (v : Int32), upd F m.toNatClampNeg v k = v := fun F v => by unfold upd; rw [if_pos e]
    rw [u, u, u, u, u]
    rw [e, kN9_i]
    exact ⟨hs, rfl, hb, hc⟩
  · have u : ∀ (F : Nat → Int32) (v : Int32), upd F m.toNatClampNeg v k = F k := fun F v => by unfold upd; rw [if_neg e]
    have d := hD k (by omega)
    rw [u, u, u, u, u, kN9_u e, d.1, d.2]
    exact h k (by omega)
theorem v_up_c {P Q : Prop} {F : Nat → Int32} {n v w : Int32} (h : P ↔ Q) (e : v = w) : v_up P F n v = v_up Q F n w := by
  rw [e, propext h]
theorem v_c3_y {s c : Int32} (h : s.toInt = 3) : v_c3 s c = c := if_pos h
theorem v_c3_n {s c : Int32} (h : s.toInt ≠ 3) : v_c3 s c = 0 := if_neg h
theorem v_fiP_i {B : Nat → Int32} {f n l q k a : Int32} (h : v_fok f n l k a) (g : f_E B k.toInt q.toInt 0 0 0) : n.toInt < 80 ↔ v_fiP B f n l q k a := ⟨fun _ => ⟨h, g⟩, fun _ => h.2.2.2.2⟩
theorem v_fiP_r {B : Nat → Int32} {f n l q k a : Int32} (h : ¬ v_fok f n l k a) : ¬ v_fiP B f n l q k a := fun g => h g.1
theorem v_fiP_n {B : Nat → Int32} {f n l q k a : Int32} (g : ¬ f_E B k.toInt q.toInt 0 0 0) : ¬ v_fiP B f n l q k a := fun h => g h.2
theorem k_ul {F : Nat → Int32} {m v : Int32} {k : Nat} (h0 : 0 ≤ m.toInt) (hk : (k : Int) < m.toInt) : upd F m.toNatClampNeg v k = F k := by
  have h4 : m.toNatClampNeg = m.toInt.toNat := rfl
  unfold upd
  rw [if_neg (by omega)]
theorem k_ui {F : Nat → Int32} {m v : Int32} : upd F m.toNatClampNeg v m.toNatClampNeg = v := by
  unfold upd
  rw [if_pos rfl]
theorem kN9_9 : kN9 (fun _ => 9) 0 = 5 := by decide
theorem k_GF_00 {S A B : Nat → Int32} {n L : Int} (h : n ≤ 0) : k_GF S A B n L := fun k hk => absurd hk (by omega)
theorem k_nn_00 {S' A' B' C' S A B C : Nat → Int32} {n : Int} (h : n ≤ 0) : k_nn S' A' B' C' n S A B C := fun k hk => absurd hk (by omega)
def k_ml (i : Int) (b : Nat → Int32) (d : Int) (r : Int32) : Prop := r.toBitVec.toNat < 4096 ∧ ∀ j : Nat, j < 12 → (k_bt r (j : Int) ↔ ((j : Int) < i ∧ (b j).toInt = d))
theorem k_ml_0 {b : Nat → Int32} {d : Int} : k_ml 0 b d 0 := ⟨by decide, fun j hj => ⟨fun g => absurd g (k_bt_0 j (by omega)), fun g => absurd g.1 (by omega)⟩⟩
theorem k_ml_n {i' d : Int} {b : Nat → Int32} {i r : Int32} (h : k_ml i.toInt b d r) (h0 : 0 ≤ i.toInt) (hi : i' = i.toInt + 1) (hq : (b i.toNatClampNeg).toInt ≠ d) : k_ml i' b d r := by
  have h4 : i.toNatClampNeg = i.toInt.toNat := rfl
  refine ⟨h.1, fun j hj => (h.2 j hj).trans ⟨fun g => ⟨by omega, g.2⟩, fun g => ⟨?_, g.2⟩⟩⟩
  by_cases e : j = i.toNatClampNeg
  · have g2 := g.2
    rw [e] at g2
    exact absurd g2 hq
  · omega
theorem k_1_lt : ∀ q : Nat, q < 12 → ((1 : Int32) <<< (Int32.ofInt (q : Int) &&& 31)).toBitVec.toNat < 4096 := by decide +kernel
theorem k_or_lt {t u : Int32} (h : t.toBitVec.toNat < 4096) (g : u.toBitVec.toNat < 4096) : (t ||| u).toBitVec.toNat < 4096 := by
  rw [show (t ||| u).toBitVec = t.toBitVec ||| u.toBitVec from rfl, BitVec.toNat_or]
  exact Nat.or_lt_two_pow (n := 12) h g
theorem k_ml_y {i' d : Int} {b : Nat → Int32} {i r w : Int32} (h : k_ml i.toInt b d r) (h0 : 0 ≤ i.toInt ∧ i.toInt < 12) (hi : i' = i.toInt + 1) (hq : (b i.toNatClampNeg).toInt = d) (hw : w = r ||| ((1 : Int32) <<< (i &&& 31))) : k_ml i' b d w := by
  have h4 : i.toNatClampNeg = i.toInt.toNat := rfl
  have ei : Int32.ofInt ((i.toInt.toNat : Nat) : Int) = i := by rw [Int.toNat_of_nonneg h0.1, Int32.ofInt_toInt]
  have h1 := k_1_lt i.toInt.toNat (by omega)
  rw [ei] at h1
  refine ⟨by rw [hw]; exact k_or_lt h.1 h1, fun j hj => ?_⟩
  have h2 := k_bt_1 i.toInt.toNat (by omega) j hj
  rw [ei] at h2
  rw [hw, k_bt_or r _ j (by omega), h.2 j hj, h2]
  constructor
  · intro g
    rcases g with g | g
    · exact ⟨by omega, g.2⟩
    · rw [g, ← h4]
      exact ⟨by omega, hq⟩
  · intro g
    by_cases e : j = i.toInt.toNat
    · exact Or.inr e
    · exact Or.inl ⟨by omega, g.2⟩
def k_mk (L : Int) (b : Nat → Int32) (d : Int) (r : Int32) : Prop := k_ml L b d r
theorem k_mk_of {L i d : Int} {b : Nat → Int32} {r : Int32} (h : k_ml i b d r) (hi : i = L ∨ (i = 0 ∧ L ≤ 0)) : k_mk L b d r := ⟨h.1, fun j hj => (h.2 j hj).trans ⟨fun g => ⟨by omega, g.2⟩, fun g => ⟨by omega, g.2⟩⟩⟩
def v_us (x n : Int32) : Int32 := (x.toUInt32 >>> (n.toUInt32 &&& Int32.toUInt32 31)).toInt32
def v_pop1 (x : Int32) : Int32 := x - (v_us x 1 &&& 1431655765)
def v_pop2 (x : Int32) : Int32 := (x &&& 858993459) + (v_us x 2 &&& 858993459)
def v_pop3 (x : Int32) : Int32 := (x + v_us x 4) &&& 252645135
def v_pop4 (x : Int32) : Int32 := x + v_us x 8
def v_pop5 (x : Int32) : Int32 := (x + v_us x 16) &&& 63
def v_pop (x : Int32) : Int32 := v_pop5 (v_pop4 (v_pop3 (v_pop2 (v_pop1 x))))
def k_pn (m : Nat) : Nat → Nat
  | 0 => 0
  | k + 1 => k_pn m k + m / 2 ^ k % 2
set_option maxRecDepth 20000 in
theorem k_pop6 : ∀ a : Nat, a < 64 → ∀ b : Nat, b < 64 → (v_pop (Int32.ofBitVec (BitVec.ofNat 32 (64 * a + b)))).toBitVec.toNat = k_pn (64 * a + b) 12 := by decide +kernel
theorem k_pop (r : Int32) (h : r.toBitVec.toNat < 4096) : (v_pop r).toBitVec.toNat = k_pn r.toBitVec.toNat 12 := by
  have e : 64 * (r.toBitVec.toNat / 64) + r.toBitVec.toNat % 64 = r.toBitVec.toNat := by omega
  have g := k_pop6 (r.toBitVec.toNat / 64) (by omega) (r.toBitVec.toNat % 64) (by omega)
  rw [e] at g
  have e2 : BitVec.ofNat 32 r.toBitVec.toNat = r.toBitVec := BitVec.eq_of_toNat_eq (by rw [BitVec.toNat_ofNat]; exact Nat.mod_eq_of_lt (by omega))
  rw [e2, Int32.ofBitVec_toBitVec] at g
  exact g
theorem k_pn_card (r : Int32) : ∀ n : Nat, n ≤ 12 → k_pn r.toBitVec.toNat n = k_card (fun x => k_bt r x) n := by
  intro n
  induction n with
  | zero => intro _; rfl
  | succ n ih =>
    intro hn
    have e : k_bt r (n : Int) ↔ r.toBitVec.toNat / 2 ^ n % 2 = 1 := by
      rw [k_bt_get r n (by omega), ← BitVec.testBit_toNat, Nat.testBit_eq_decide_div_mod_eq, decide_eq_true_iff]
    show k_pn r.toBitVec.toNat n + r.toBitVec.toNat / 2 ^ n % 2 = _
    rw [ih (by omega)]
    by_cases g : k_bt r (n : Int)
    · rw [k_card_y g, e.mp g]
    · rw [k_card_n g, (Nat.mod_two_eq_zero_or_one (r.toBitVec.toNat / 2 ^ n)).resolve_right (fun q => g (e.mpr q)), Nat.add_zero]
theorem k_card_cut {Q : Int → Prop} {L : Int} (j : Nat) : k_card (fun x => x < L ∧ Q x) (L.toNat + j) = k_card Q L.toNat := by
  induction j with
  | zero => exact k_card_c (fun x x0 x1 => ⟨fun g => g.2, fun g => ⟨by omega, g⟩⟩)
  | succ j ih => 
    rw [show L.toNat + (j + 1) = (L.toNat + j) + 1 from rfl, k_card_n (fun g => absurd g.1 (by omega))]
    exact ih
theorem k_small {r : Int32} {n : Nat} (h : r.toBitVec.toNat = n) (hn : n < 4096) : r.toInt = (n : Int) := by
  show r.toBitVec.toInt = (n : Int)
  rw [BitVec.toInt_eq_toNat_cond, h, if_pos (by omega)]
theorem k_card_m {P : Int → Prop} : ∀ m : Nat, k_card P m ≤ m := by
  intro m
  induction m with
  | zero => exact Nat.le_refl _
  | succ m ih =>
    by_cases g : P (m : Int)
    · rw [k_card_y g]; omega
    · rw [k_card_n g]; omega
theorem k_mk_pop {L d : Int} {b : Nat → Int32} {r : Int32} (hL : L ≤ 12) (h : k_mk L b d r) : (v_pop r).toInt = ((k_card (fun x => kI b x.toNat = d) L.toNat : Nat) : Int) := by
  refine k_small ?_ (by have := k_card_m (P := fun x => kI b x.toNat = d) L.toNat; omega)
  rw [k_pop r h.1, k_pn_card r 12 (Nat.le_refl _), ← k_card_cut (L := L) (12 - L.toNat), show L.toNat + (12 - L.toNat) = 12 by omega]
  refine k_card_c (fun x x0 x1 => ?_)
  have e : ((x.toNat : Nat) : Int) = x := Int.toNat_of_nonneg x0
  have g := h.2 x.toNat (by omega)
  rw [e] at g
  exact g
theorem k_sz_y {P : Int → Prop} {i n : Int32} {i' n' : Int} (h : n.toInt = ((k_card P i.toInt.toNat : Nat) : Int)) (h0 : 0 ≤ i.toInt) (hi : i' = i.toInt + 1) (hn : n' = n.toInt + 1) (hq : P i.toInt) : n' = ((k_card P i'.toNat : Nat) : Int) := by
  rw [show i'.toNat = i.toInt.toNat + 1 by omega, k_card_y (by rw [Int.toNat_of_nonneg h0]; exact hq)]
  omega
theorem k_sz_n {P : Int → Prop} {i : Int32} {i' n' : Int} (h : n' = ((k_card P i.toInt.toNat : Nat) : Int)) (h0 : 0 ≤ i.toInt) (hi : i' = i.toInt + 1) (hq : ¬ P i.toInt) : n' = ((k_card P i'.toNat : Nat) : Int) := by
  rw [show i'.toNat = i.toInt.toNat + 1 by omega, k_card_n (by rw [Int.toNat_of_nonneg h0]; exact hq)]
  exact h
theorem k_bd1 {L kl : Int} {b : Nat → Int32} {r m z l : Int32} (hw : r = v_pop m) (hm : k_mk kl b z.toInt m) (e : z = b l.toNatClampNeg) (hl : kl = L) (hL : L ≤ 12) : r.toInt = ((k_card (fun x => kI b x.toNat = kI b l.toInt.toNat) L.toNat : Nat) : Int) := by
  subst hw
  subst hl
  subst e
  exact k_mk_pop hL hm
theorem k_bd2 {b F : Nat → Int32} {z l : Int32} {v r : Int} (e : z = b l.toNatClampNeg) (h : (v = 1 ∧ r = -1) ∨ (v ≠ 1 ∧ r = (F z.toNatClampNeg).toInt)) : (v = 1 ∧ r = -1) ∨ (v ≠ 1 ∧ r = (F (kI b l.toInt.toNat).toNat).toInt) := by
  subst e
  exact h
theorem k_bd3 {b F : Nat → Int32} {z l : Int32} {v r : Int} (e : z = b l.toNatClampNeg) (h : (v ≠ 0 ∧ r = -1) ∨ (v = 0 ∧ r = (F z.toNatClampNeg).toInt)) : (v ≠ 0 ∧ r = -1) ∨ (v = 0 ∧ r = (F (kI b l.toInt.toNat).toNat).toInt) := by
  subst e
  exact h
theorem k_or1 {L : Int} {b lt : Nat → Int32} {x y p q : Int32} (hb : k_bl L b) (hp : 0 ≤ p.toInt ∧ p.toInt < L) (hq : 0 ≤ q.toInt ∧ q.toInt < L) (ex : x = b p.toNatClampNeg) (ey : y = b q.toNatClampNeg) : k_M L lt (kI b p.toInt.toNat) (kI b q.toInt.toNat) ↔ k_bt (lt x.toNatClampNeg) y.toInt := by
  subst ex
  subst ey
  exact k_Mi (hb _ (by omega)) (hb _ (by omega))
theorem k_mk_w {L kl : Int} {b : Nat → Int32} {m z l : Int32} (hm : k_mk kl b z.toInt m) (hl : kl = L) (e : z = b l.toNatClampNeg) : k_mk L b (b l.toNatClampNeg).toInt m := by
  subst hl
  subst e
  exact hm
theorem k_bd1m {L : Int} {b : Nat → Int32} {r z l : Int32} (h : r.toInt = ((k_card (fun x => kI b x.toNat = z.toInt) L.toNat : Nat) : Int)) (e : z = b l.toNatClampNeg) : r.toInt = ((k_card (fun x => kI b x.toNat = kI b l.toInt.toNat) L.toNat : Nat) : Int) := by
  subst e
  exact h
theorem k_or2 {b lt : Nat → Int32} {x y p q d : Int32} (hx : 0 ≤ x.toInt ∧ x.toInt < 12) (hy : 0 ≤ y.toInt ∧ y.toInt < 12) (ex : x = b p.toNatClampNeg) (ey : y = b q.toNatClampNeg) (hd : d.toInt = 12 * x.toInt + y.toInt) : k_M2 lt (kI b p.toInt.toNat) (kI b q.toInt.toNat) ↔ (lt d.toNatClampNeg).toInt ≠ 0 := by
  subst ex
  subst ey
  exact k_M2i hx hy hd
