theorem z_ii {x y : Int32} (h : x.toInt = y.toInt) : x = y := Int32.toInt_inj.mp h
def v_layA (x : Int32) : Int32 := if x.toInt < 12 then x else (-1)
def v_layN (x : Int32) : Int32 := if x.toInt < 12 then x + 1 else x
def v_kiA (k m v : Int32) : Int32 := if (0 ≤ m.toInt ∧ m.toInt ≤ 999 ∧ 1 ≤ v.toInt ∧ v.toInt ≤ 2 ∧ k.toInt < 6) then k else (-1)
def v_kiN (k m v : Int32) : Int32 := if (0 ≤ m.toInt ∧ m.toInt ≤ 999 ∧ 1 ≤ v.toInt ∧ v.toInt ≤ 2 ∧ k.toInt < 6) then k + 1 else k
def f_run (P : Int → Prop) (B : Nat → Int32) (n a b : Int) : Prop := 0 ≤ a ∧ a ≤ b ∧ (∀ j : Nat, a ≤ (j : Int) → (j : Int) < b → (j : Int) < n ∧ P (B j).toInt) ∧ (b < n → ¬ P (B b.toNat).toInt)
theorem f_run_lt {P : Int → Prop} {B : Nat → Int32} {n a b b' : Int} (h : f_run P B n a b) (h' : f_run P B n a b') : ¬ b < b' := by
  intro q
  have h1 := h'.2.2.1 b.toNat (by have := h.1; have := h.2.1; omega) (by have := h.1; have := h.2.1; omega)
  have h2 : ((b.toNat : Nat) : Int) = b := Int.toNat_of_nonneg (by have := h.1; have := h.2.1; omega)
  exact h.2.2.2 (by omega) h1.2
theorem f_run_u {P : Int → Prop} {B : Nat → Int32} {n a b b' : Int} (h : f_run P B n a b) (h' : f_run P B n a b') : b = b' := by
  have h1 := f_run_lt h h'
  have h2 := f_run_lt h' h
  omega
def f_bl (c : Int) : Prop := c = 10 ∨ c = 32
def f_le (c : Int) : Prop := 97 ≤ c ∧ c ≤ 122
def f_di (c : Int) : Prop := 48 ≤ c ∧ c ≤ 57
def f_num (B : Nat → Int32) (s : Nat) : Nat → Int
  | 0 => 0
  | k + 1 => 10 * f_num B s k + (B (s + k)).toInt - 48
def f_nm (B : Nat → Int32) (a b : Int) : Int := f_num B a.toNat (b - a).toNat
theorem f_nm0 {B : Nat → Int32} {a : Int} : f_nm B a a = 0 := by
  unfold f_nm
  rw [show (a - a).toNat = 0 by omega]
  rfl
theorem f_nm1 {B : Nat → Int32} {a b c : Int} (h0 : 0 ≤ a) (h : a ≤ b) (hc : c = b + 1) : f_nm B a c = 10 * f_nm B a b + (B b.toNat).toInt - 48 := by
  unfold f_nm
  rw [show (c - a).toNat = (b - a).toNat + 1 by omega]
  rw [show f_num B a.toNat ((b - a).toNat + 1) = 10 * f_num B a.toNat (b - a).toNat + (B (a.toNat + (b - a).toNat)).toInt - 48 from rfl, show a.toNat + (b - a).toNat = b.toNat by omega]
def f_v (x : Int) : Int := if x ≤ 100000 then x else 100000
def f_W : List (List Int) := [[108, 101, 102, 116], [114, 105, 103, 104, 116], [119, 104, 111, 108, 101], [98, 114, 111, 107, 101, 110], [98, 117, 114, 110, 116], [103, 110, 97, 119, 101, 100]]
def f_ma (B : Nat → Int32) (s m : Int) (w : Nat) : Prop := m - s = ((f_W.getD w []).length : Int) ∧ ∀ j : Nat, j < (f_W.getD w []).length → (B (s.toNat + j)).toInt = (f_W.getD w []).getD j 0
theorem f_W_pos (w : Nat) (h : w < 6) : 0 < (f_W.getD w []).length := (show ∀ w : Nat, w < 6 → 0 < (f_W.getD w []).length by decide) w h
theorem f_W_u (w w' : Nat) (h : w < 6) (h' : w' < 6) (hl : (f_W.getD w []).length = (f_W.getD w' []).length) (h0 : (f_W.getD w []).getD 0 0 = (f_W.getD w' []).getD 0 0) : w = w' := (show ∀ w : Nat, w < 6 → ∀ w' : Nat, w' < 6 → (f_W.getD w []).length = (f_W.getD w' []).length → (f_W.getD w []).getD 0 0 = (f_W.getD w' []).getD 0 0 → w = w' by decide) w h w' h' hl h0
theorem f_ma_u {B : Nat → Int32} {s m : Int} {w w' : Nat} (hw : w < 6) (hw' : w' < 6) (h : f_ma B s m w) (h' : f_ma B s m w') : w = w' := by
  have e1 := h.2 0 (f_W_pos w hw)
  have e2 := h'.2 0 (f_W_pos w' hw')
  refine f_W_u w w' hw hw' ?_ (e1.symm.trans e2)
  have a1 := h.1
  have a2 := h'.1
  omega
def f_wo (B : Nat → Int32) (s m b k v : Int) : Prop :=
  (m < b ∧ m = s + 1 ∧ (B s.toNat).toInt = 107 ∧ k = 1 ∧ v = f_v (f_nm B m b)) ∨
  (m < b ∧ m = s + 1 ∧ (B s.toNat).toInt = 115 ∧ k = 2 ∧ v = f_v (f_nm B m b)) ∨
  (m < b ∧ ¬ (m = s + 1 ∧ ((B s.toNat).toInt = 107 ∨ (B s.toNat).toInt = 115)) ∧ k = 8) ∨
  (m = b ∧ (∃ w : Nat, w < 6 ∧ f_ma B s m w ∧ v = (w : Int)) ∧ k = 3) ∨
  (m = b ∧ (∀ w : Nat, w < 6 → ¬ f_ma B s m w) ∧ k = 8)
def f_sg (c s k b : Int) : Prop := (c = 58 ∧ k = 5 ∧ b = s + 1) ∨ (c = 59 ∧ k = 6 ∧ b = s + 1) ∨ (c = 44 ∧ k = 7 ∧ b = s + 1) ∨ (c ≠ 58 ∧ c ≠ 59 ∧ c ≠ 44 ∧ k = 8)
def f_at (B : Nat → Int32) (n s k v b : Int) : Prop :=
  (n ≤ s ∧ k = 0 ∧ b = s) ∨
  (s < n ∧ f_le (B s.toNat).toInt ∧ (∃ m : Int, f_run f_le B n s m ∧ f_run f_di B n m b ∧ f_wo B s m b k v)) ∨
  (s < n ∧ f_di (B s.toNat).toInt ∧ f_run f_di B n s b ∧ k = 4 ∧ v = f_v (f_nm B s b)) ∨
  (s < n ∧ ¬ f_le (B s.toNat).toInt ∧ ¬ f_di (B s.toNat).toInt ∧ f_sg (B s.toNat).toInt s k b)
def f_tk (B : Nat → Int32) (n a k v b : Int) : Prop := ∃ s : Int, f_run f_bl B n a s ∧ f_at B n s k v b
def f_sm (k v b k' v' b' : Int) : Prop := k = k' ∧ (k ≠ 8 → b = b') ∧ ((k = 1 ∨ k = 2 ∨ k = 3 ∨ k = 4) → v = v')
theorem f_wo_u {B : Nat → Int32} {s m b k v k' v' : Int} (h : f_wo B s m b k v) (h' : f_wo B s m b k' v') : f_sm k v b k' v' b := by
  unfold f_sm
  rcases h with ⟨h1, h2, h3, h4, h5⟩ | ⟨h1, h2, h3, h4, h5⟩ | ⟨h1, h2, h3⟩ | ⟨h1, ⟨w, hw, hm, hv⟩, h3⟩ | ⟨h1, h2, h3⟩ <;> rcases h' with ⟨g1, g2, g3, g4, g5⟩ | ⟨g1, g2, g3, g4, g5⟩ | ⟨g1, g2, g3⟩ | ⟨g1, ⟨w', gw, gm, gv⟩, g3⟩ | ⟨g1, g2, g3⟩
  all_goals first
    | (refine ⟨by omega, fun _ => rfl, fun _ => by omega⟩)
    | (exfalso; omega)
    | (exfalso; exact h2 _ gw gm)
    | (exfalso; exact g2 _ hw hm)
    | (have e := f_ma_u hw gw hm gm; subst e; exact ⟨by omega, fun _ => rfl, fun _ => by omega⟩)
theorem f_sg_u {c s k b k' b' v v' : Int} (h : f_sg c s k b) (h' : f_sg c s k' b') : f_sm k v b k' v' b' := by
  unfold f_sg at h h'
  unfold f_sm
  refine ⟨by omega, fun _ => by omega, fun _ => by omega⟩
theorem f_at_u {B : Nat → Int32} {n s k v b k' v' b' : Int} (h : f_at B n s k v b) (h' : f_at B n s k' v' b') : f_sm k v b k' v' b' := by
  rcases h with ⟨h1, h2, h3⟩ | ⟨h1, h2, m, hm, hd, hw⟩ | ⟨h1, h2, h3, h4, h5⟩ | ⟨h1, h2, h3, h4⟩ <;> rcases h' with ⟨g1, g2, g3⟩ | ⟨g1, g2, m', gm, gd, gw⟩ | ⟨g1, g2, g3, g4, g5⟩ | ⟨g1, g2, g3, g4⟩
  · exact ⟨by omega, fun _ => by omega, fun _ => by omega⟩
  · exfalso; omega
  · exfalso; omega
  · exfalso; omega
  · exfalso; omega
  · have e := f_run_u hm gm
    subst e
    have e2 := f_run_u hd gd
    subst e2
    exact f_wo_u hw gw
  · exfalso; unfold f_le at h2; unfold f_di at g2; omega
  · exact absurd h2 g2
  · exfalso; omega
  · exfalso; unfold f_le at g2; unfold f_di at h2; omega
  · have e := f_run_u h3 g3
    subst e
    exact ⟨by omega, fun _ => rfl, fun _ => by omega⟩
  · exact absurd h2 g3
  · exfalso; omega
  · exact absurd g2 h2
  · exact absurd g2 h3
  · exact f_sg_u h4 g4
theorem f_tk_u {B : Nat → Int32} {n a k v b k' v' b' : Int} (h : f_tk B n a k v b) (h' : f_tk B n a k' v' b') : f_sm k v b k' v' b' := by
  obtain ⟨s, hs, ha⟩ := h
  obtain ⟨s', hs', ha'⟩ := h'
  have e := f_run_u hs hs'
  subst e
  exact f_at_u ha ha'
def f_bit (t p : Int32) : Prop := ((t >>> (p &&& 31)) &&& 1).toInt ≠ 0
def f_set (t p : Int32) : Int32 := t ||| ((1 : Int32) <<< (p &&& 31))
def f_ok (B : Nat → Int32) (n kn : Int) : Nat → Int → Int32 → Int → Prop
  | 0, _, _, _ => False
  | f + 1, q, t, a => ∃ k v b : Int, f_tk B n a k v b ∧ (
      ((q = 0 ∨ q = 6) ∧ k = 1 ∧ v < kn ∧ f_ok B n kn f 1 0 b) ∨
      (q = 1 ∧ k = 2 ∧ v < 4 ∧ f_ok B n kn f 2 0 b) ∨
      (q = 2 ∧ k = 5 ∧ f_ok B n kn f 3 0 b) ∨
      (q = 3 ∧ k = 3 ∧ ¬ f_bit t (Int32.ofInt v) ∧ f_ok B n kn f 4 (f_set t (Int32.ofInt v)) b) ∨
      (q = 4 ∧ k = 4 ∧ v ≤ 999 ∧ f_ok B n kn f 5 t b) ∨
      (q = 5 ∧ k = 7 ∧ f_ok B n kn f 3 t b) ∨
      (q = 5 ∧ k = 6 ∧ f_ok B n kn f 6 0 b) ∨
      ((q = 5 ∨ q = 6) ∧ k = 0))
def f_E (B : Nat → Int32) (n kn q : Int) (t : Int32) (a : Int) : Prop := ∃ f : Nat, f_ok B n kn f q t a
theorem f_E_un {B : Nat → Int32} {n kn q a : Int} {t : Int32} (h : f_E B n kn q t a) : ∃ k v b : Int, f_tk B n a k v b ∧ (
      ((q = 0 ∨ q = 6) ∧ k = 1 ∧ v < kn ∧ f_E B n kn 1 0 b) ∨
      (q = 1 ∧ k = 2 ∧ v < 4 ∧ f_E B n kn 2 0 b) ∨
      (q = 2 ∧ k = 5 ∧ f_E B n kn 3 0 b) ∨
      (q = 3 ∧ k = 3 ∧ ¬ f_bit t (Int32.ofInt v) ∧ f_E B n kn 4 (f_set t (Int32.ofInt v)) b) ∨
      (q = 4 ∧ k = 4 ∧ v ≤ 999 ∧ f_E B n kn 5 t b) ∨
      (q = 5 ∧ k = 7 ∧ f_E B n kn 3 t b) ∨
      (q = 5 ∧ k = 6 ∧ f_E B n kn 6 0 b) ∨
      ((q = 5 ∨ q = 6) ∧ k = 0)) := by
  obtain ⟨f, h⟩ := h
  cases f with
  | zero => exact absurd h (by unfold f_ok; exact id)
  | succ f =>
    unfold f_ok at h
    obtain ⟨k, v, b, ht, h⟩ := h
    refine ⟨k, v, b, ht, ?_⟩
    rcases h with ⟨h1, h2, h3, h4⟩ | ⟨h1, h2, h3, h4⟩ | ⟨h1, h2, h4⟩ | ⟨h1, h2, h3, h4⟩ | ⟨h1, h2, h3, h4⟩ | ⟨h1, h2, h4⟩ | ⟨h1, h2, h4⟩ | h
    · exact Or.inl ⟨h1, h2, h3, f, h4⟩
    · exact Or.inr (Or.inl ⟨h1, h2, h3, f, h4⟩)
    · exact Or.inr (Or.inr (Or.inl ⟨h1, h2, f, h4⟩))
    · exact Or.inr (Or.inr (Or.inr (Or.inl ⟨h1, h2, h3, f, h4⟩)))
    · exact Or.inr (Or.inr (Or.inr (Or.inr (Or.inl ⟨h1, h2, h3, f, h4⟩))))
    · exact Or.inr (Or.inr (Or.inr (Or.inr (Or.inr (Or.inl ⟨h1, h2, f, h4⟩)))))
    · exact Or.inr (Or.inr (Or.inr (Or.inr (Or.inr (Or.inr (Or.inl ⟨h1, h2, f, h4⟩))))))
    · exact Or.inr (Or.inr (Or.inr (Or.inr (Or.inr (Or.inr (Or.inr h))))))
theorem f_E_mk {B : Nat → Int32} {n kn q a k v b : Int} {t : Int32} (ht : f_tk B n a k v b) (h : ((q = 0 ∨ q = 6) ∧ k = 1 ∧ v < kn ∧ f_E B n kn 1 0 b) ∨ (q = 1 ∧ k = 2 ∧ v < 4 ∧ f_E B n kn 2 0 b) ∨ (q = 2 ∧ k = 5 ∧ f_E B n kn 3 0 b) ∨ (q = 3 ∧ k = 3 ∧ ¬ f_bit t (Int32.ofInt v) ∧ f_E B n kn 4 (f_set t (Int32.ofInt v)) b) ∨ (q = 4 ∧ k = 4 ∧ v ≤ 999 ∧ f_E B n kn 5 t b) ∨ (q = 5 ∧ k = 7 ∧ f_E B n kn 3 t b) ∨ (q = 5 ∧ k = 6 ∧ f_E B n kn 6 0 b) ∨ ((q = 5 ∨ q = 6) ∧ k = 0)) : f_E B n kn q t a := by
  rcases h with ⟨h1, h2, h3, f, h4⟩ | ⟨h1, h2, h3, f, h4⟩ | ⟨h1, h2, f, h4⟩ | ⟨h1, h2, h3, f, h4⟩ | ⟨h1, h2, h3, f, h4⟩ | ⟨h1, h2, f, h4⟩ | ⟨h1, h2, f, h4⟩ | h
  · exact ⟨f + 1, by unfold f_ok; exact ⟨k, v, b, ht, Or.inl ⟨h1, h2, h3, h4⟩⟩⟩
  · exact ⟨f + 1, by unfold f_ok; exact ⟨k, v, b, ht, Or.inr (Or.inl ⟨h1, h2, h3, h4⟩)⟩⟩
  · exact ⟨f + 1, by unfold f_ok; exact ⟨k, v, b, ht, Or.inr (Or.inr (Or.inl ⟨h1, h2, h4⟩))⟩⟩
  · exact ⟨f + 1, by unfold f_ok; exact ⟨k, v, b, ht, Or.inr (Or.inr (Or.inr (Or.inl ⟨h1, h2, h3, h4⟩)))⟩⟩
  · exact ⟨f + 1, by unfold f_ok; exact ⟨k, v, b, ht, Or.inr (Or.inr (Or.inr (Or.inr (Or.inl ⟨h1, h2, h3, h4⟩))))⟩⟩
  · exact ⟨f + 1, by unfold f_ok; exact ⟨k, v, b, ht, Or.inr (Or.inr (Or.inr (Or.inr (Or.inr (Or.inl ⟨h1, h2, h4⟩)))))⟩⟩
  · exact ⟨f + 1, by unfold f_ok; exact ⟨k, v, b, ht, Or.inr (Or.inr (Or.inr (Or.inr (Or.inr (Or.inr (Or.inl ⟨h1, h2, h4⟩))))))⟩⟩
  · exact ⟨1, by unfold f_ok; exact ⟨k, v, b, ht, Or.inr (Or.inr (Or.inr (Or.inr (Or.inr (Or.inr (Or.inr (h)))))))⟩⟩
theorem f_E_iff {B : Nat → Int32} {n kn q a k v b : Int} {t : Int32} (ht : f_tk B n a k v b) : f_E B n kn q t a ↔ (((q = 0 ∨ q = 6) ∧ k = 1 ∧ v < kn ∧ f_E B n kn 1 0 b) ∨ (q = 1 ∧ k = 2 ∧ v < 4 ∧ f_E B n kn 2 0 b) ∨ (q = 2 ∧ k = 5 ∧ f_E B n kn 3 0 b) ∨ (q = 3 ∧ k = 3 ∧ ¬ f_bit t (Int32.ofInt v) ∧ f_E B n kn 4 (f_set t (Int32.ofInt v)) b) ∨ (q = 4 ∧ k = 4 ∧ v ≤ 999 ∧ f_E B n kn 5 t b) ∨ (q = 5 ∧ k = 7 ∧ f_E B n kn 3 t b) ∨ (q = 5 ∧ k = 6 ∧ f_E B n kn 6 0 b) ∨ ((q = 5 ∨ q = 6) ∧ k = 0)) := by
  refine ⟨fun h => ?_, fun h => f_E_mk ht h⟩
  obtain ⟨k', v', b', ht', h⟩ := f_E_un h
  obtain ⟨e1, e2, e3⟩ := f_tk_u ht ht'
  subst e1
  by_cases hk : k = 8
  · exfalso; subst hk; rcases h with ⟨h1, h2, h3⟩ | ⟨h1, h2, h3⟩ | ⟨h1, h2, h3⟩ | ⟨h1, h2, h3⟩ | ⟨h1, h2, h3⟩ | ⟨h1, h2, h3⟩ | ⟨h1, h2, h3⟩ | ⟨h1, h2⟩ <;> omega
  · have e2 := e2 hk
    subst e2
    by_cases hv : k = 1 ∨ k = 2 ∨ k = 3 ∨ k = 4
    · have e3 := e3 hv
      subst e3
      exact h
    · rcases h with ⟨h1, h2, h3⟩ | ⟨h1, h2, h3⟩ | ⟨h1, h2, h3⟩ | ⟨h1, h2, h3⟩ | ⟨h1, h2, h3⟩ | ⟨h1, h2, h3⟩ | ⟨h1, h2, h3⟩ | ⟨h1, h2⟩
      · (exfalso; omega)
      · (exfalso; omega)
      · exact Or.inr (Or.inr (Or.inl ⟨h1, h2, h3⟩))
      · (exfalso; omega)
      · (exfalso; omega)
      · exact Or.inr (Or.inr (Or.inr (Or.inr (Or.inr (Or.inl ⟨h1, h2, h3⟩)))))
      · exact Or.inr (Or.inr (Or.inr (Or.inr (Or.inr (Or.inr (Or.inl ⟨h1, h2, h3⟩))))))
      · exact Or.inr (Or.inr (Or.inr (Or.inr (Or.inr (Or.inr (Or.inr ⟨h1, h2⟩))))))
theorem f_E0 {B : Nat → Int32} {n kn a k v b : Int} {t : Int32} (ht : f_tk B n a k v b) (hk : k = 1) (hv : v < kn) : f_E B n kn 0 t a ↔ f_E B n kn 1 0 b := by
  rw [f_E_iff ht]
  refine ⟨fun g => ?_, fun g => Or.inl ⟨Or.inl rfl, hk, hv, g⟩⟩
  rcases g with ⟨h1, h2, h3⟩ | ⟨h1, h2, h3⟩ | ⟨h1, h2, h3⟩ | ⟨h1, h2, h3⟩ | ⟨h1, h2, h3⟩ | ⟨h1, h2, h3⟩ | ⟨h1, h2, h3⟩ | ⟨h1, h2⟩ <;> first | (exfalso; omega) | exact h3 | exact h3.2
theorem f_E0n {B : Nat → Int32} {n kn a k v b : Int} {t : Int32} (ht : f_tk B n a k v b) (h : ¬ (k = 1 ∧ v < kn)) : ¬ f_E B n kn 0 t a := by
  rw [f_E_iff ht]
  intro g
  rcases g with ⟨h1, h2, h3⟩ | ⟨h1, h2, h3⟩ | ⟨h1, h2, h3⟩ | ⟨h1, h2, h3⟩ | ⟨h1, h2, h3⟩ | ⟨h1, h2, h3⟩ | ⟨h1, h2, h3⟩ | ⟨h1, h2⟩ <;> first | omega | exact h ⟨h2, h3.1⟩
theorem f_E1 {B : Nat → Int32} {n kn a k v b : Int} {t : Int32} (ht : f_tk B n a k v b) (hk : k = 2) (hv : v < 4) : f_E B n kn 1 t a ↔ f_E B n kn 2 0 b := by
  rw [f_E_iff ht]
  refine ⟨fun g => ?_, fun g => Or.inr (Or.inl ⟨rfl, hk, hv, g⟩)⟩
  rcases g with ⟨h1, h2, h3⟩ | ⟨h1, h2, h3⟩ | ⟨h1, h2, h3⟩ | ⟨h1, h2, h3⟩ | ⟨h1, h2, h3⟩ | ⟨h1, h2, h3⟩ | ⟨h1, h2, h3⟩ | ⟨h1, h2⟩ <;> first | (exfalso; omega) | exact h3 | exact h3.2
theorem f_E1n {B : Nat → Int32} {n kn a k v b : Int} {t : Int32} (ht : f_tk B n a k v b) (h : ¬ (k = 2 ∧ v < 4)) : ¬ f_E B n kn 1 t a := by
  rw [f_E_iff ht]
  intro g
  rcases g with ⟨h1, h2, h3⟩ | ⟨h1, h2, h3⟩ | ⟨h1, h2, h3⟩ | ⟨h1, h2, h3⟩ | ⟨h1, h2, h3⟩ | ⟨h1, h2, h3⟩ | ⟨h1, h2, h3⟩ | ⟨h1, h2⟩ <;> first | omega | exact h ⟨h2, h3.1⟩
theorem f_E2 {B : Nat → Int32} {n kn a k v b : Int} {t : Int32} (ht : f_tk B n a k v b) (hk : k = 5) : f_E B n kn 2 t a ↔ f_E B n kn 3 0 b := by
  rw [f_E_iff ht]
  refine ⟨fun g => ?_, fun g => Or.inr (Or.inr (Or.inl ⟨rfl, hk, g⟩))⟩
  rcases g with ⟨h1, h2, h3⟩ | ⟨h1, h2, h3⟩ | ⟨h1, h2, h3⟩ | ⟨h1, h2, h3⟩ | ⟨h1, h2, h3⟩ | ⟨h1, h2, h3⟩ | ⟨h1, h2, h3⟩ | ⟨h1, h2⟩ <;> first | (exfalso; omega) | exact h3 | exact h3.2
theorem f_E3 {B : Nat → Int32} {n kn a k v b : Int} {t : Int32} (ht : f_tk B n a k v b) (hk : k = 3) (hv : ¬ f_bit t (Int32.ofInt v)) : f_E B n kn 3 t a ↔ f_E B n kn 4 (f_set t (Int32.ofInt v)) b := by
  rw [f_E_iff ht]
  refine ⟨fun g => ?_, fun g => Or.inr (Or.inr (Or.inr (Or.inl ⟨rfl, hk, hv, g⟩)))⟩
  rcases g with ⟨h1, h2, h3⟩ | ⟨h1, h2, h3⟩ | ⟨h1, h2, h3⟩ | ⟨h1, h2, h3⟩ | ⟨h1, h2, h3⟩ | ⟨h1, h2, h3⟩ | ⟨h1, h2, h3⟩ | ⟨h1, h2⟩ <;> first | (exfalso; omega) | exact h3 | exact h3.2
theorem f_E3n {B : Nat → Int32} {n kn a k v b : Int} {t : Int32} (ht : f_tk B n a k v b) (h : ¬ (k = 3 ∧ ¬ f_bit t (Int32.ofInt v))) : ¬ f_E B n kn 3 t a := by
  rw [f_E_iff ht]
  intro g
  rcases g with ⟨h1, h2, h3⟩ | ⟨h1, h2, h3⟩ | ⟨h1, h2, h3⟩ | ⟨h1, h2, h3⟩ | ⟨h1, h2, h3⟩ | ⟨h1, h2, h3⟩ | ⟨h1, h2, h3⟩ | ⟨h1, h2⟩ <;> first | omega | exact h ⟨h2, h3.1⟩
theorem f_E4 {B : Nat → Int32} {n kn a k v b : Int} {t : Int32} (ht : f_tk B n a k v b) (hk : k = 4) (hv : v ≤ 999) : f_E B n kn 4 t a ↔ f_E B n kn 5 t b := by
  rw [f_E_iff ht]
  refine ⟨fun g => ?_, fun g => Or.inr (Or.inr (Or.inr (Or.inr (Or.inl ⟨rfl, hk, hv, g⟩))))⟩
  rcases g with ⟨h1, h2, h3⟩ | ⟨h1, h2, h3⟩ | ⟨h1, h2, h3⟩ | ⟨h1, h2, h3⟩ | ⟨h1, h2, h3⟩ | ⟨h1, h2, h3⟩ | ⟨h1, h2, h3⟩ | ⟨h1, h2⟩ <;> first | (exfalso; omega) | exact h3 | exact h3.2
theorem f_E4n {B : Nat → Int32} {n kn a k v b : Int} {t : Int32} (ht : f_tk B n a k v b) (h : ¬ (k = 4 ∧ v ≤ 999)) : ¬ f_E B n kn 4 t a := by
  rw [f_E_iff ht]
  intro g
  rcases g with ⟨h1, h2, h3⟩ | ⟨h1, h2, h3⟩ | ⟨h1, h2, h3⟩ | ⟨h1, h2, h3⟩ | ⟨h1, h2, h3⟩ | ⟨h1, h2, h3⟩ | ⟨h1, h2, h3⟩ | ⟨h1, h2⟩ <;> first | omega | exact h ⟨h2, h3.1⟩
theorem f_E5c {B : Nat → Int32} {n kn a k v b : Int} {t : Int32} (ht : f_tk B n a k v b) (hk : k = 7) : f_E B n kn 5 t a ↔ f_E B n kn 3 t b := by
  rw [f_E_iff ht]
  refine ⟨fun g => ?_, fun g => Or.inr (Or.inr (Or.inr (Or.inr (Or.inr (Or.inl ⟨rfl, hk, g⟩)))))⟩
  rcases g with ⟨h1, h2, h3⟩ | ⟨h1, h2, h3⟩ | ⟨h1, h2, h3⟩ | ⟨h1, h2, h3⟩ | ⟨h1, h2, h3⟩ | ⟨h1, h2, h3⟩ | ⟨h1, h2, h3⟩ | ⟨h1, h2⟩ <;> first | (exfalso; omega) | exact h3 | exact h3.2
theorem f_E5s {B : Nat → Int32} {n kn a k v b : Int} {t : Int32} (ht : f_tk B n a k v b) (hk : k = 6) : f_E B n kn 5 t a ↔ f_E B n kn 6 0 b := by
  rw [f_E_iff ht]
  refine ⟨fun g => ?_, fun g => Or.inr (Or.inr (Or.inr (Or.inr (Or.inr (Or.inr (Or.inl ⟨rfl, hk, g⟩))))))⟩
  rcases g with ⟨h1, h2, h3⟩ | ⟨h1, h2, h3⟩ | ⟨h1, h2, h3⟩ | ⟨h1, h2, h3⟩ | ⟨h1, h2, h3⟩ | ⟨h1, h2, h3⟩ | ⟨h1, h2, h3⟩ | ⟨h1, h2⟩ <;> first | (exfalso; omega) | exact h3 | exact h3.2
theorem f_E5e {B : Nat → Int32} {n kn a k v b : Int} {t : Int32} (ht : f_tk B n a k v b) (hk : k = 0) : f_E B n kn 5 t a := f_E_mk ht (Or.inr (Or.inr (Or.inr (Or.inr (Or.inr (Or.inr (Or.inr ⟨Or.inl rfl, hk⟩)))))))
theorem f_E6e {B : Nat → Int32} {n kn a k v b : Int} {t : Int32} (ht : f_tk B n a k v b) (hk : k = 0) : f_E B n kn 6 t a := f_E_mk ht (Or.inr (Or.inr (Or.inr (Or.inr (Or.inr (Or.inr (Or.inr ⟨Or.inr rfl, hk⟩)))))))
def f_pre (P : Int → Prop) (B : Nat → Int32) (n a b : Int) : Prop := 0 ≤ a ∧ a ≤ b ∧ (∀ j : Nat, a ≤ (j : Int) → (j : Int) < b → (j : Int) < n ∧ P (B j).toInt)
theorem f_pre0 {P : Int → Prop} {B : Nat → Int32} {n a : Int} (h : 0 ≤ a) : f_pre P B n a a := ⟨h, Int.le_refl _, fun j h1 h2 => absurd h2 (by omega)⟩
theorem f_pre1 {P : Int → Prop} {B : Nat → Int32} {n a c : Int} {i : Int32} (h : f_pre P B n a i.toInt) (h0 : 0 ≤ i.toInt) (hn : i.toInt < n) (hp : P (B i.toNatClampNeg).toInt) (hc : c = i.toInt + 1) : f_pre P B n a c := by
  refine ⟨h.1, by have := h.2.1; omega, fun j h1 h2 => ?_⟩
  by_cases q : (j : Int) < i.toInt
  · exact h.2.2 j h1 q
  · have h4 : i.toNatClampNeg = i.toInt.toNat := rfl
    have e : j = i.toNatClampNeg := by omega
    rw [e]
    exact ⟨by omega, hp⟩
theorem f_run_of {P : Int → Prop} {B : Nat → Int32} {n a b : Int} (h : f_pre P B n a b) (q : b < n → ¬ P (B b.toNat).toInt) : f_run P B n a b := ⟨h.1, h.2.1, h.2.2, q⟩
theorem f_atb {P : Int → Prop} {r x : Int32} (e : r = x) (h : P r.toInt) : P x.toInt := e ▸ h
theorem f_atn {P : Int → Prop} {r x : Int32} (e : r = x) (h : ¬ P r.toInt) : ¬ P x.toInt := e ▸ h
theorem f_run_self {P : Int → Prop} {B : Nat → Int32} {n a b : Int} (h : f_run P B n a b) : f_run P B n b b := ⟨by have := h.1; have := h.2.1; omega, Int.le_refl _, fun j h1 h2 => absurd h2 (by omega), h.2.2.2⟩
theorem f_run_skip {P : Int → Prop} {B : Nat → Int32} {n a b s : Int} (h : f_run P B n a b) (h' : f_run P B n b s) : s = b := f_run_u h' (f_run_self h)
theorem f_tk_skip {B : Nat → Int32} {n a s k v b : Int} (h : f_run f_bl B n a s) : f_tk B n a k v b ↔ f_tk B n s k v b := by
  refine ⟨fun q => ?_, fun q => ?_⟩
  · obtain ⟨s', h1, h2⟩ := q
    have e := f_run_u h h1
    subst e
    exact ⟨s, f_run_self h, h2⟩
  · obtain ⟨s', h1, h2⟩ := q
    have e := f_run_skip h h1
    subst e
    exact ⟨s', h, h2⟩
theorem f_ok_skip {B : Nat → Int32} {n kn a s : Int} (h : f_run f_bl B n a s) {f : Nat} {q : Int} {t : Int32} : f_ok B n kn f q t a ↔ f_ok B n kn f q t s := by
  cases f with
  | zero => exact Iff.rfl
  | succ f =>
    unfold f_ok
    refine ⟨fun g => ?_, fun g => ?_⟩
    · obtain ⟨k, v, b, h1, h2⟩ := g
      exact ⟨k, v, b, (f_tk_skip h).mp h1, h2⟩
    · obtain ⟨k, v, b, h1, h2⟩ := g
      exact ⟨k, v, b, (f_tk_skip h).mpr h1, h2⟩
theorem f_E_skip {B : Nat → Int32} {n kn a s : Int} (h : f_run f_bl B n a s) {q : Int} {t : Int32} : f_E B n kn q t a ↔ f_E B n kn q t s := ⟨fun ⟨f, g⟩ => ⟨f, (f_ok_skip h).mp g⟩, fun ⟨f, g⟩ => ⟨f, (f_ok_skip h).mpr g⟩⟩
def f_sC (c sg a b : Int) : Prop := (c ≠ 60 → c ≠ 62 → sg = c ∧ b = a + 1) ∧ ((c = 60 ∨ c = 62) → sg ≠ 58 ∧ sg ≠ 59 ∧ sg ≠ 44 ∧ sg ≠ 40 ∧ sg ≠ 41)
def f_C (B : Nat → Int32) (n so sg st en : Int) : Prop := f_run f_bl B n st st ∧ (
  (n ≤ st ∧ so = 0 ∧ sg = -1 ∧ en = st) ∨
  (st < n ∧ f_le (B st.toNat).toInt ∧ so = 1 ∧ sg = -1 ∧ (∃ m : Int, f_run f_le B n st m ∧ f_run f_di B n m en)) ∨
  (st < n ∧ f_di (B st.toNat).toInt ∧ so = 2 ∧ sg = -1 ∧ f_run f_di B n st en) ∨
  (st < n ∧ ¬ f_le (B st.toNat).toInt ∧ ¬ f_di (B st.toNat).toInt ∧ so = 3 ∧ f_sC (B st.toNat).toInt sg st en))
theorem f_C_e {B : Nat → Int32} {n so sg st en a : Int} (h : f_run f_bl B n a st) (h1 : n ≤ st) (h2 : so = 0) (h3 : sg = -1) (h4 : en = st) : f_C B n so sg st en := ⟨f_run_self h, Or.inl ⟨h1, h2, h3, h4⟩⟩
theorem f_C_w {B : Nat → Int32} {n so sg st en a m : Int} (h : f_run f_bl B n a st) (h1 : st < n) (hl : f_le (B st.toNat).toInt) (h2 : so = 1) (h3 : sg = -1) (hm : f_run f_le B n st m) (hd : f_run f_di B n m en) : f_C B n so sg st en := ⟨f_run_self h, Or.inr (Or.inl ⟨h1, hl, h2, h3, m, hm, hd⟩)⟩
theorem f_C_n {B : Nat → Int32} {n so sg st en a : Int} (h : f_run f_bl B n a st) (h1 : st < n) (hl : f_di (B st.toNat).toInt) (h2 : so = 2) (h3 : sg = -1) (hd : f_run f_di B n st en) : f_C B n so sg st en := ⟨f_run_self h, Or.inr (Or.inr (Or.inl ⟨h1, hl, h2, h3, hd⟩))⟩
theorem f_C_s {B : Nat → Int32} {n so sg st en a : Int} (h : f_run f_bl B n a st) (h1 : st < n) (hl : ¬ f_le (B st.toNat).toInt) (hd : ¬ f_di (B st.toNat).toInt) (h2 : so = 3) (h3 : f_sC (B st.toNat).toInt sg st en) : f_C B n so sg st en := ⟨f_run_self h, Or.inr (Or.inr (Or.inr ⟨h1, hl, hd, h2, h3⟩))⟩
theorem f_nm_nn {B : Nat → Int32} {n a b : Int} (h : f_pre f_di B n a b) : 0 ≤ f_nm B a b := by
  have hk : ∀ k : Nat, a + (k : Int) ≤ b → 0 ≤ f_num B a.toNat k := by
    intro k
    induction k with
    | zero => intro _; exact Int.le_refl _
    | succ k ih =>
      intro hb
      have h1 := ih (by omega)
      have h2 := (h.2.2 (a.toNat + k) (by have := h.1; omega) (by have := h.1; omega)).2
      unfold f_di at h2
      unfold f_num
      omega
  exact hk _ (by have := h.2.1; omega)
theorem f_sC_e {r x : Int32} {sg a b : Int} (e : r = x) (h : f_sC r.toInt sg a b) : f_sC x.toInt sg a b := e ▸ h
theorem f_bl_n {r1 r2 x : Int32} (e1 : r1 = x) (e2 : r2 = x) (h1 : r1.toInt ≠ 10) (h2 : r2.toInt ≠ 32) : ¬ f_bl x.toInt := by
  subst e1
  subst e2
  unfold f_bl
  omega
def f_pg (so st en : Int) : Prop := so ≠ 0 → st < en
theorem f_run_pos {P : Int → Prop} {B : Nat → Int32} {n a b : Int} (h : f_run P B n a b) (hn : a < n) (hp : P (B a.toNat).toInt) : a < b := by
  have h1 := h.2.1
  by_cases e : b = a
  · subst e
    exact absurd hp (h.2.2.2 hn)
  · omega
theorem f_C_word {B : Nat → Int32} {n so sg st en : Int} (hC : f_C B n so sg st en) (hl : f_le (B st.toNat).toInt) (hn : st < n) : so = 1 ∧ sg = -1 ∧ (∃ m : Int, f_run f_le B n st m ∧ f_run f_di B n m en) := by
  obtain ⟨hs, h⟩ := hC
  rcases h with ⟨h1, _⟩ | ⟨_, _, h3, h4, h5⟩ | ⟨_, h2, _⟩ | ⟨_, h2, _⟩
  · omega
  · exact ⟨h3, h4, h5⟩
  · exfalso; unfold f_le at hl; unfold f_di at h2; omega
  · exact absurd hl h2
theorem f_C_1 {B : Nat → Int32} {n so sg st en : Int} (hC : f_C B n so sg st en) (h : so = 1) : st < n ∧ f_le (B st.toNat).toInt ∧ (∃ m : Int, f_run f_le B n st m ∧ f_run f_di B n m en) := by
  obtain ⟨hs, g⟩ := hC
  rcases g with ⟨_, h2, _⟩ | ⟨h1, h2, _, _, h5⟩ | ⟨_, _, h3, _⟩ | ⟨_, _, _, h4, _⟩
  · omega
  · exact ⟨h1, h2, h5⟩
  · omega
  · omega
theorem f_nb {B : Nat → Int32} {n so sg st en c kk : Int} (hck : (c = 107 ∧ kk = 1) ∨ (c = 115 ∧ kk = 2)) (hC : f_C B n so sg st en) (h1 : so = 1) (h2 : 2 ≤ en - st) (h3 : (B st.toNat).toInt = c) (h4 : f_di (B (st + 1).toNat).toInt) : f_run f_di B n (st + 1) en ∧ f_tk B n st kk (f_v (f_nm B (st + 1) en)) en := by
  obtain ⟨hn, hl, m, hm, hd⟩ := f_C_1 hC h1
  have p1 := f_run_pos hm hn hl
  have p0 := hm.1
  have e : m = st + 1 := by
    by_cases q : st + 1 < m
    · have g := (hm.2.2.1 (st + 1).toNat (by omega) (by omega)).2
      exfalso; unfold f_le at g; unfold f_di at h4; omega
    · omega
  subst e
  refine ⟨hd, st, hC.1, Or.inr (Or.inl ⟨hn, hl, st + 1, hm, hd, ?_⟩)⟩
  rcases hck with ⟨c1, c2⟩ | ⟨c1, c2⟩
  · exact Or.inl ⟨by omega, rfl, by omega, c2, rfl⟩
  · exact Or.inr (Or.inl ⟨by omega, rfl, by omega, c2, rfl⟩)
theorem f_nbn {B : Nat → Int32} {n so sg st en c kk : Int} (hck : (c = 107 ∧ kk = 1) ∨ (c = 115 ∧ kk = 2)) (hC : f_C B n so sg st en) (h : so ≠ 1 ∨ en - st < 2 ∨ (B st.toNat).toInt ≠ c ∨ ¬ f_di (B (st + 1).toNat).toInt) {k v b : Int} (ht : f_tk B n st k v b) : k ≠ kk := by
  intro hk
  obtain ⟨s', hs, ha⟩ := ht
  have e := f_run_u hs hC.1
  subst e
  have p0 := hs.1
  rcases ha with ⟨_, a2, _⟩ | ⟨a1, a2, m, hm, hd, hw⟩ | ⟨_, _, _, a4, _⟩ | ⟨_, _, _, a4⟩
  · omega
  · obtain ⟨c1, _, m', hm', hd'⟩ := f_C_word hC a2 a1
    have e1 := f_run_u hm hm'
    subst e1
    have e2 := f_run_u hd hd'
    subst e2
    have hq : m < b ∧ m = s' + 1 ∧ (B s'.toNat).toInt = c := by
      rcases hw with ⟨w1, w2, w3, w4, _⟩ | ⟨w1, w2, w3, w4, _⟩ | ⟨_, _, w3⟩ | ⟨_, _, w3⟩ | ⟨_, _, w3⟩ <;> omega
    obtain ⟨q1, q2, q3⟩ := hq
    have q4 := (hd.2.2.1 m.toNat (by omega) (by omega)).2
    rw [q2] at q4
    rcases h with h | h | h | h
    · omega
    · omega
    · exact h q3
    · exact h q4
  · omega
  · unfold f_sg at a4; omega
theorem f_tk_num {B : Nat → Int32} {n so sg st en : Int} (hC : f_C B n so sg st en) (h : so = 2) : f_run f_di B n st en ∧ f_tk B n st 4 (f_v (f_nm B st en)) en := by
  obtain ⟨hs, g⟩ := hC
  rcases g with ⟨_, h2, _⟩ | ⟨_, _, h3, _⟩ | ⟨h1, h2, _, _, h5⟩ | ⟨_, _, _, h4, _⟩
  · omega
  · omega
  · exact ⟨h5, st, hs, Or.inr (Or.inr (Or.inl ⟨h1, h2, h5, rfl, rfl⟩))⟩
  · omega
theorem f_tk_numn {B : Nat → Int32} {n so sg st en k v b : Int} (hC : f_C B n so sg st en) (h : so ≠ 2) (ht : f_tk B n st k v b) : k ≠ 4 := by
  intro hk
  obtain ⟨s', hs, ha⟩ := ht
  have e := f_run_u hs hC.1
  subst e
  obtain ⟨_, g⟩ := hC
  rcases ha with ⟨_, a2, _⟩ | ⟨a1, a2, m, hm, hd, hw⟩ | ⟨a1, a2, _, a4, _⟩ | ⟨_, _, _, a4⟩
  · omega
  · rcases hw with ⟨_, _, _, w4, _⟩ | ⟨_, _, _, w4, _⟩ | ⟨_, _, w3⟩ | ⟨_, _, w3⟩ | ⟨_, _, w3⟩ <;> omega
  · rcases g with ⟨g1, _⟩ | ⟨_, g2, _⟩ | ⟨_, _, g3, _⟩ | ⟨_, _, g3, _⟩
    · omega
    · unfold f_le at g2; unfold f_di at a2; omega
    · exact h g3
    · exact g3 a2
  · unfold f_sg at a4; omega
theorem f_tk_end {B : Nat → Int32} {n so sg st en : Int} (hC : f_C B n so sg st en) (h : so = 0) : f_tk B n st 0 0 en := by
  obtain ⟨hs, g⟩ := hC
  rcases g with ⟨h1, _, _, h4⟩ | ⟨_, _, h3, _⟩ | ⟨_, _, h3, _⟩ | ⟨_, _, _, h4, _⟩
  · exact ⟨st, hs, Or.inl ⟨h1, rfl, h4⟩⟩
  · omega
  · omega
  · omega
theorem f_tk_endn {B : Nat → Int32} {n so sg st en k v b : Int} (hC : f_C B n so sg st en) (h : so ≠ 0) (ht : f_tk B n st k v b) : k ≠ 0 := by
  intro hk
  obtain ⟨s', hs, ha⟩ := ht
  have e := f_run_u hs hC.1
  subst e
  obtain ⟨_, g⟩ := hC
  rcases ha with ⟨a1, _, _⟩ | ⟨a1, a2, m, hm, hd, hw⟩ | ⟨a1, a2, _, a4, _⟩ | ⟨_, _, _, a4⟩
  · rcases g with ⟨_, g2, _⟩ | ⟨g1, _⟩ | ⟨g1, _⟩ | ⟨g1, _⟩
    · exact h g2
    · omega
    · omega
    · omega
  · rcases hw with ⟨_, _, _, w4, _⟩ | ⟨_, _, _, w4, _⟩ | ⟨_, _, w3⟩ | ⟨_, _, w3⟩ | ⟨_, _, w3⟩ <;> omega
  · omega
  · unfold f_sg at a4; omega
theorem f_tk_sig {B : Nat → Int32} {n so sg st en kk : Int} (hC : f_C B n so sg st en) (h : (sg = 58 ∧ kk = 5) ∨ (sg = 59 ∧ kk = 6) ∨ (sg = 44 ∧ kk = 7)) : f_tk B n st kk 0 en := by
  obtain ⟨hs, g⟩ := hC
  rcases g with ⟨_, _, h3, _⟩ | ⟨_, _, _, h4, _⟩ | ⟨_, _, _, h4, _⟩ | ⟨h1, h2, h3, h4, h5⟩
  · omega
  · omega
  · omega
  · refine ⟨st, hs, Or.inr (Or.inr (Or.inr ⟨h1, h2, h3, ?_⟩))⟩
    obtain ⟨q1, q2⟩ := h5
    unfold f_sg
    by_cases e : (B st.toNat).toInt = 60 ∨ (B st.toNat).toInt = 62
    · have := q2 e
      omega
    · have := q1 (by omega) (by omega)
      omega
theorem f_tk_sign {B : Nat → Int32} {n so sg st en kk k v b : Int} (hC : f_C B n so sg st en) (h : (sg ≠ 58 ∧ kk = 5) ∨ (sg ≠ 59 ∧ kk = 6) ∨ (sg ≠ 44 ∧ kk = 7)) (ht : f_tk B n st k v b) : k ≠ kk := by
  intro hk
  obtain ⟨s', hs, ha⟩ := ht
  have e := f_run_u hs hC.1
  subst e
  obtain ⟨_, g⟩ := hC
  rcases ha with ⟨a1, _, _⟩ | ⟨a1, a2, m, hm, hd, hw⟩ | ⟨a1, a2, _, a4, _⟩ | ⟨a1, a2, a3, a4⟩
  · omega
  · rcases hw with ⟨_, _, _, w4, _⟩ | ⟨_, _, _, w4, _⟩ | ⟨_, _, w3⟩ | ⟨_, _, w3⟩ | ⟨_, _, w3⟩ <;> omega
  · omega
  · rcases g with ⟨g1, _⟩ | ⟨_, g2, _⟩ | ⟨_, g2, _⟩ | ⟨_, _, _, _, q1, q2⟩
    · omega
    · exact a2 g2
    · exact a3 g2
    · unfold f_sg at a4
      have := q1 (by omega) (by omega)
      omega
theorem f_dig {B : Nat → Int32} {n a b : Int} {i r : Int32} (h : f_pre f_di B n a b) (h0 : 0 ≤ i.toInt) (h1 : a ≤ i.toInt) (h2 : i.toInt < b) (e : r = B i.toNatClampNeg) : 48 ≤ r.toInt ∧ r.toInt ≤ 57 := by
  have h4 : i.toNatClampNeg = i.toInt.toNat := rfl
  have h3 := (h.2.2 i.toNatClampNeg (by omega) (by omega)).2
  rw [← e] at h3
  exact h3
theorem f_pre_cut {P : Int → Prop} {B : Nat → Int32} {n a b c : Int} (h : f_pre P B n a b) (h1 : a ≤ c) (h2 : c ≤ b) : f_pre P B n a c := ⟨h.1, h1, fun j q1 q2 => h.2.2 j q1 (by omega)⟩
theorem f_v_s {B : Nat → Int32} {n a b c x y : Int} {i r : Int32} (hdg : f_pre f_di B n a b) (h : f_v x = f_v (f_nm B a i.toInt)) (hx : 0 ≤ x) (h0 : a ≤ i.toInt) (h1 : i.toInt < b) (e : r = B i.toNatClampNeg) (hc : c = i.toInt + 1) (hy : (y = 10 * x + r.toInt - 48 ∨ y = 1000000) ∧ y ≤ 10 * x + r.toInt - 48 ∧ y ≤ 1000000) : f_v y = f_v (f_nm B a c) := by
  have ha := hdg.1
  have hd := f_dig hdg (by omega) h0 h1 e
  have hN := f_nm_nn (f_pre_cut hdg h0 (by omega))
  have h4 : i.toNatClampNeg = i.toInt.toNat := rfl
  rw [f_nm1 ha h0 hc, ← h4, ← e]
  generalize f_nm B a i.toInt = N at h hN ⊢
  unfold f_v at h ⊢
  split at h <;> split at h <;> split <;> split <;> omega
def f_nbA (B : Nat → Int32) (n st en kk r : Int) : Prop := (r = -1 ∧ ∀ k v b : Int, f_tk B n st k v b → k ≠ kk) ∨ (0 ≤ r ∧ f_tk B n st kk (f_v r) en)
theorem f_run_pre {P : Int → Prop} {B : Nat → Int32} {n a b : Int} (h : f_run P B n a b) : f_pre P B n a b := ⟨h.1, h.2.1, h.2.2.1⟩
def f_wiT : List Nat := [0, 0, 0, 0, 0, 1, 1, 1, 1, 1, 1, 2, 2, 2, 2, 2, 2, 3, 3, 3, 3, 3, 3, 3, 4, 4, 4, 4, 4, 4, 5, 5, 5, 5, 5, 5, 5, 6]
def f_woT : List Nat := [0, 1, 2, 3, 4, 0, 1, 2, 3, 4, 5, 0, 1, 2, 3, 4, 5, 0, 1, 2, 3, 4, 5, 6, 0, 1, 2, 3, 4, 5, 0, 1, 2, 3, 4, 5, 6, 0]
def f_wI (B : Nat → Int32) (st en : Int) (i : Nat) (w pl sm : Int) : Prop :=
  w = ((f_wiT.getD i 0 : Nat) : Int) ∧ pl = st + ((f_woT.getD i 0 : Nat) : Int) ∧
  (∀ v : Nat, v < f_wiT.getD i 0 → ¬ f_ma B st en v) ∧
  (sm = 1 → ∀ j : Nat, j < f_woT.getD i 0 → st + (j : Int) < en ∧ (B (st.toNat + j)).toInt = (f_W.getD (f_wiT.getD i 0) []).getD j 0) ∧
  (sm = 0 → ∃ j : Nat, j < f_woT.getD i 0 ∧ ¬ (st + (j : Int) < en ∧ (B (st.toNat + j)).toInt = (f_W.getD (f_wiT.getD i 0) []).getD j 0))
theorem f_wI_0 {B : Nat → Int32} {st en : Int} : f_wI B st en 0 0 st 1 := by
  refine ⟨rfl, ?_, ?_, ?_, ?_⟩
  · show st = st + ((0 : Nat) : Int)
    omega
  · intro v hv
    exact absurd hv (Nat.not_lt_zero _)
  · intro _ j hj
    exact absurd hj (Nat.not_lt_zero _)
  · intro h
    exact absurd h (by decide)
theorem f_T1 (i : Nat) (h : i < 37) (hc : i = 36 ∨ (z_chr 0 i).toInt = 32) : f_woT.getD i 0 = (f_W.getD (f_wiT.getD i 0) []).length ∧ f_wiT.getD (i + 1) 0 = f_wiT.getD i 0 + 1 ∧ f_woT.getD (i + 1) 0 = 0 := (show ∀ i : Nat, i < 37 → (i = 36 ∨ (z_chr 0 i).toInt = 32) → f_woT.getD i 0 = (f_W.getD (f_wiT.getD i 0) []).length ∧ f_wiT.getD (i + 1) 0 = f_wiT.getD i 0 + 1 ∧ f_woT.getD (i + 1) 0 = 0 by decide +kernel) i h hc
theorem f_T2 (i : Nat) (h : i < 36) (hc : (z_chr 0 i).toInt ≠ 32) : f_woT.getD i 0 < (f_W.getD (f_wiT.getD i 0) []).length ∧ (f_W.getD (f_wiT.getD i 0) []).getD (f_woT.getD i 0) 0 = (z_chr 0 i).toInt ∧ f_wiT.getD (i + 1) 0 = f_wiT.getD i 0 ∧ f_woT.getD (i + 1) 0 = f_woT.getD i 0 + 1 := (show ∀ i : Nat, i < 36 → (z_chr 0 i).toInt ≠ 32 → f_woT.getD i 0 < (f_W.getD (f_wiT.getD i 0) []).length ∧ (f_W.getD (f_wiT.getD i 0) []).getD (f_woT.getD i 0) 0 = (z_chr 0 i).toInt ∧ f_wiT.getD (i + 1) 0 = f_wiT.getD i 0 ∧ f_woT.getD (i + 1) 0 = f_woT.getD i 0 + 1 by decide +kernel) i h hc
theorem f_T3 (i : Nat) (h : i < 37) : f_wiT.getD i 0 < 6 := (show ∀ i : Nat, i < 37 → f_wiT.getD i 0 < 6 by decide +kernel) i h
theorem f_wI_y {B : Nat → Int32} {st en w q sm : Int} {sx : Nat} {i i' c r pl : Int32} (hs : sx = 0) (e : i' = i + 1) (h0 : 0 ≤ i.toInt) (hn : i.toInt < ((z_len.getD sx 0 : Nat) : Int)) (hc : c = z_chr sx i.toNatClampNeg) (hc32 : c.toInt ≠ 32) (h : f_wI B st en i.toNatClampNeg w pl.toInt sm) (hsm : sm = 1) (hst : 0 ≤ st) (hpe : pl.toInt < en) (hr : r = B pl.toNatClampNeg) (hrc : r.toInt = c.toInt) (hq : q = pl.toInt + 1) : f_wI B st en i'.toNatClampNeg w q 1 := by
  subst hs
  have hl : i.toNatClampNeg < 36 := z_ncl h0 hn
  rw [z_nc1 e h0 (by have : z_len.getD 0 0 = 36 := rfl; omega)]
  generalize i.toNatClampNeg = k at hc h hl ⊢
  subst hc
  obtain ⟨t1, t2, t3, t4⟩ := f_T2 k hl hc32
  obtain ⟨h1, h2, h3, h4, h5⟩ := h
  unfold f_wI
  rw [t3, t4]
  refine ⟨h1, by omega, h3, fun _ j hj => ?_, fun h9 => absurd h9 (by decide)⟩
  by_cases g : j < f_woT.getD k 0
  · exact h4 hsm j g
  · have ej : j = f_woT.getD k 0 := by omega
    subst ej
    refine ⟨by omega, ?_⟩
    have hpn : pl.toNatClampNeg = st.toNat + f_woT.getD k 0 := by
      have h7 : pl.toNatClampNeg = pl.toInt.toNat := rfl
      omega
    rw [← hpn, ← hr, hrc, t2]
theorem f_wI_n {B : Nat → Int32} {st en w q sm : Int} {sx : Nat} {i i' c pl : Int32} (hs : sx = 0) (e : i' = i + 1) (h0 : 0 ≤ i.toInt) (hn : i.toInt < ((z_len.getD sx 0 : Nat) : Int)) (hc : c = z_chr sx i.toNatClampNeg) (hc32 : c.toInt ≠ 32) (h : f_wI B st en i.toNatClampNeg w pl.toInt sm) (hst : 0 ≤ st) (hq : q = pl.toInt + 1) (hw : sm = 0 ∨ en ≤ pl.toInt ∨ ∃ r : Int32, r = B pl.toNatClampNeg ∧ r.toInt ≠ c.toInt) : f_wI B st en i'.toNatClampNeg w q 0 := by
  subst hs
  have hl : i.toNatClampNeg < 36 := z_ncl h0 hn
  rw [z_nc1 e h0 (by have : z_len.getD 0 0 = 36 := rfl; omega)]
  generalize i.toNatClampNeg = k at hc h hl ⊢
  subst hc
  obtain ⟨t1, t2, t3, t4⟩ := f_T2 k hl hc32
  obtain ⟨h1, h2, h3, h4, h5⟩ := h
  unfold f_wI
  rw [t3, t4]
  refine ⟨h1, by omega, h3, fun h9 => absurd h9 (by decide), fun _ => ?_⟩
  rcases hw with hw | hw | ⟨r, hr, hw⟩
  · obtain ⟨j, g1, g2⟩ := h5 hw
    exact ⟨j, by omega, g2⟩
  · exact ⟨f_woT.getD k 0, by omega, fun g => by have := g.1; omega⟩
  · refine ⟨f_woT.getD k 0, by omega, fun g => hw ?_⟩
    have hpn : pl.toNatClampNeg = st.toNat + f_woT.getD k 0 := by
      have h7 : pl.toNatClampNeg = pl.toInt.toNat := rfl
      omega
    rw [hr, hpn, g.2, t2]
theorem f_wI_hit {B : Nat → Int32} {st en w sm pl : Int} {sx : Nat} {i : Int32} (hs : sx = 0) (h0 : 0 ≤ i.toInt) (hn : i.toInt ≤ ((z_len.getD sx 0 : Nat) : Int)) (hc : i.toNatClampNeg = z_len.getD sx 0 ∨ (z_chr sx i.toNatClampNeg).toInt = 32) (h : f_wI B st en i.toNatClampNeg w pl sm) (hsm : sm = 1) (hpe : pl = en) : ∃ v : Nat, v < 6 ∧ f_ma B st en v ∧ w = (v : Int) := by
  subst hs
  have hl : i.toNatClampNeg ≤ 36 := z_ncle hn
  generalize i.toNatClampNeg = k at hc h hl
  obtain ⟨t1, t2, t3⟩ := f_T1 k (by omega) hc
  obtain ⟨h1, h2, h3, h4, h5⟩ := h
  refine ⟨f_wiT.getD k 0, f_T3 k (by omega), ⟨by omega, fun j hj => ?_⟩, h1⟩
  exact (h4 hsm j (by omega)).2
theorem f_wI_b {B : Nat → Int32} {st en w w' sm pl : Int} {sx : Nat} {i i' : Int32} (hs : sx = 0) (e : i' = i + 1) (h0 : 0 ≤ i.toInt) (hn : i.toInt ≤ ((z_len.getD sx 0 : Nat) : Int)) (hc : i.toNatClampNeg = z_len.getD sx 0 ∨ (z_chr sx i.toNatClampNeg).toInt = 32) (h : f_wI B st en i.toNatClampNeg w pl sm) (hw' : w' = w + 1) (hm : sm = 0 ∨ pl ≠ en) : f_wI B st en i'.toNatClampNeg w' st 1 := by
  subst hs
  have hl : i.toNatClampNeg ≤ 36 := z_ncle hn
  rw [z_nc1 e h0 (by have : z_len.getD 0 0 = 36 := rfl; omega)]
  generalize i.toNatClampNeg = k at hc h hl ⊢
  obtain ⟨t1, t2, t3⟩ := f_T1 k (by omega) hc
  obtain ⟨h1, h2, h3, h4, h5⟩ := h
  unfold f_wI
  rw [t2, t3]
  refine ⟨by omega, by omega, fun v hv => ?_, fun _ j hj => absurd hj (Nat.not_lt_zero _), fun h9 => absurd h9 (by decide)⟩
  by_cases g : v < f_wiT.getD k 0
  · exact h3 v g
  · have ev : v = f_wiT.getD k 0 := by omega
    subst ev
    rintro ⟨m1, m2⟩
    rcases hm with hm | hm
    · obtain ⟨j, g1, g2⟩ := h5 hm
      exact g2 ⟨by omega, m2 j (by omega)⟩
    · exact hm (by omega)
theorem f_wI_end {B : Nat → Int32} {st en w sm pl : Int} {sx : Nat} {i : Int32} (hs : sx = 0) (hn : ((z_len.getD sx 0 : Nat) : Int) < i.toInt) (hn2 : i.toInt ≤ ((z_len.getD sx 0 : Nat) : Int) + 1) (h : f_wI B st en i.toNatClampNeg w pl sm) : ∀ v : Nat, v < 6 → ¬ f_ma B st en v := by
  subst hs
  have hk : i.toNatClampNeg = 37 := z_ncn (by have : z_len.getD 0 0 = 36 := rfl; omega)
  rw [hk] at h
  exact fun v hv => h.2.2.1 v hv
def f_wiA (B : Nat → Int32) (n st en r : Int) : Prop := (r = -1 ∧ ∀ k v b : Int, f_tk B n st k v b → k ≠ 3) ∨ (0 ≤ r ∧ r ≤ 5 ∧ f_tk B n st 3 r en)
theorem f_ma_le {B : Nat → Int32} {s m : Int} {w : Nat} (hw : w < 6) (h : f_ma B s m w) (j : Nat) (hj : s + (j : Int) < m) : f_le (B (s.toNat + j)).toInt := by
  have hj2 : j < (f_W.getD w []).length := by have := h.1; omega
  rw [h.2 j hj2]
  exact (show ∀ w : Nat, w < 6 → ∀ j : Nat, j < (f_W.getD w []).length → (97 ≤ (f_W.getD w []).getD j 0 ∧ (f_W.getD w []).getD j 0 ≤ 122) by decide +kernel) w hw j hj2
theorem f_wi_y {B : Nat → Int32} {n so sg st en r : Int} {v : Nat} (hC : f_C B n so sg st en) (h1 : so = 1) (hv : v < 6) (hm : f_ma B st en v) (hr : r = (v : Int)) : f_wiA B n st en r := by
  obtain ⟨hn, hl, m, hmm, hd⟩ := f_C_1 hC h1
  have p0 := hmm.1
  have p1 := hmm.2.1
  have p2 := hd.2.1
  have e : m = en := by
    by_cases q : m < en
    · exfalso
      have g := (hd.2.2.1 m.toNat (by omega) (by omega)).2
      have g2 := f_ma_le hv hm (m - st).toNat (by omega)
      rw [show st.toNat + (m - st).toNat = m.toNat by omega] at g2
      unfold f_le at g2
      unfold f_di at g
      omega
    · omega
  subst e
  exact Or.inr ⟨by omega, by omega, st, hC.1, Or.inr (Or.inl ⟨hn, hl, m, hmm, hd, Or.inr (Or.inr (Or.inr (Or.inl ⟨rfl, ⟨v, hv, hm, hr⟩, rfl⟩)))⟩)⟩
theorem f_wi_n {B : Nat → Int32} {n so sg st en r : Int} (hC : f_C B n so sg st en) (h : so ≠ 1 ∨ ∀ v : Nat, v < 6 → ¬ f_ma B st en v) (hr : r = -1) : f_wiA B n st en r := by
  refine Or.inl ⟨hr, fun k v b ht hk => ?_⟩
  obtain ⟨s', hs, ha⟩ := ht
  have e := f_run_u hs hC.1
  subst e
  rcases ha with ⟨_, a2, _⟩ | ⟨a1, a2, m, hm, hd, hw⟩ | ⟨_, _, _, a4, _⟩ | ⟨_, _, _, a4⟩
  · omega
  · obtain ⟨c1, _, m', hm', hd'⟩ := f_C_word hC a2 a1
    have e1 := f_run_u hm hm'
    subst e1
    have e2 := f_run_u hd hd'
    subst e2
    rcases hw with ⟨_, _, _, w4, _⟩ | ⟨_, _, _, w4, _⟩ | ⟨_, _, w3⟩ | ⟨w1, ⟨v', w2, w3, w5⟩, w4⟩ | ⟨_, _, w3⟩
    · omega
    · omega
    · omega
    · subst w1
      rcases h with h | h
      · exact h c1
      · exact h v' w2 w3
    · omega
  · omega
  · unfold f_sg at a4; omega
theorem f_Ex {B : Nat → Int32} {n kn q a : Int} {t : Int32} (h : ∀ k v b : Int, f_tk B n a k v b → ((q = 0 ∨ q = 6) → k ≠ 1) ∧ (q = 1 → k ≠ 2) ∧ (q = 2 → k ≠ 5) ∧ (q = 3 → k ≠ 3) ∧ (q = 4 → k ≠ 4) ∧ (q = 5 → k ≠ 7 ∧ k ≠ 6) ∧ ((q = 5 ∨ q = 6) → k ≠ 0)) : ¬ f_E B n kn q t a := by
  intro g
  obtain ⟨k, v, b, ht, hd⟩ := f_E_un g
  obtain ⟨a1, a2, a3, a4, a5, a6, a7⟩ := h k v b ht
  rcases hd with ⟨h1, h2, _⟩ | ⟨h1, h2, _⟩ | ⟨h1, h2, _⟩ | ⟨h1, h2, _⟩ | ⟨h1, h2, _⟩ | ⟨h1, h2, _⟩ | ⟨h1, h2, _⟩ | ⟨h1, h2⟩
  · exact a1 h1 h2
  · exact a2 h1 h2
  · exact a3 h1 h2
  · exact a4 h1 h2
  · exact a5 h1 h2
  · exact (a6 h1).1 h2
  · exact (a6 h1).2 h2
  · exact a7 h1 h2
theorem f_E0x {B : Nat → Int32} {n kn a : Int} {t : Int32} (h : ∀ k v b : Int, f_tk B n a k v b → k ≠ 1) : ¬ f_E B n kn 0 t a := f_Ex fun k v b ht => by
  have := h k v b ht
  refine ⟨fun _ => this, ?_, ?_, ?_, ?_, ?_, ?_⟩ <;> omega
theorem f_E1x {B : Nat → Int32} {n kn a : Int} {t : Int32} (h : ∀ k v b : Int, f_tk B n a k v b → k ≠ 2) : ¬ f_E B n kn 1 t a := f_Ex fun k v b ht => by
  have := h k v b ht
  refine ⟨?_, fun _ => this, ?_, ?_, ?_, ?_, ?_⟩ <;> omega
theorem f_E2x {B : Nat → Int32} {n kn a : Int} {t : Int32} (h : ∀ k v b : Int, f_tk B n a k v b → k ≠ 5) : ¬ f_E B n kn 2 t a := f_Ex fun k v b ht => by
  have := h k v b ht
  refine ⟨?_, ?_, fun _ => this, ?_, ?_, ?_, ?_⟩ <;> omega
theorem f_E3x {B : Nat → Int32} {n kn a : Int} {t : Int32} (h : ∀ k v b : Int, f_tk B n a k v b → k ≠ 3) : ¬ f_E B n kn 3 t a := f_Ex fun k v b ht => by
  have := h k v b ht
  refine ⟨?_, ?_, ?_, fun _ => this, ?_, ?_, ?_⟩ <;> omega
theorem f_E4x {B : Nat → Int32} {n kn a : Int} {t : Int32} (h : ∀ k v b : Int, f_tk B n a k v b → k ≠ 4) : ¬ f_E B n kn 4 t a := f_Ex fun k v b ht => by
  have := h k v b ht
  refine ⟨?_, ?_, ?_, ?_, fun _ => this, ?_, ?_⟩ <;> omega
theorem f_E5x {B : Nat → Int32} {n kn a : Int} {t : Int32} (h : ∀ k v b : Int, f_tk B n a k v b → k ≠ 0 ∧ k ≠ 6 ∧ k ≠ 7) : ¬ f_E B n kn 5 t a := f_Ex fun k v b ht => by
  have := h k v b ht
  refine ⟨?_, ?_, ?_, ?_, ?_, fun _ => ⟨this.2.2, this.2.1⟩, fun _ => this.1⟩ <;> omega
theorem f_E6x {B : Nat → Int32} {n kn a : Int} {t t' : Int32} (h : ∀ k v b : Int, f_tk B n a k v b → k ≠ 0) : f_E B n kn 6 t a ↔ f_E B n kn 0 t' a := by
  refine ⟨fun g => ?_, fun g => ?_⟩
  · obtain ⟨k, v, b, ht, hd⟩ := f_E_un g
    have hk := h k v b ht
    rcases hd with ⟨h1, h2, h3⟩ | ⟨h1, h2, _⟩ | ⟨h1, h2, _⟩ | ⟨h1, h2, _⟩ | ⟨h1, h2, _⟩ | ⟨h1, h2, _⟩ | ⟨h1, h2, _⟩ | ⟨h1, h2⟩
    · exact f_E_mk ht (Or.inl ⟨Or.inl rfl, h2, h3⟩)
    all_goals (exfalso; omega)
  · obtain ⟨k, v, b, ht, hd⟩ := f_E_un g
    have hk := h k v b ht
    rcases hd with ⟨h1, h2, h3⟩ | ⟨h1, h2, _⟩ | ⟨h1, h2, _⟩ | ⟨h1, h2, _⟩ | ⟨h1, h2, _⟩ | ⟨h1, h2, _⟩ | ⟨h1, h2, _⟩ | ⟨h1, h2⟩
    · exact f_E_mk ht (Or.inl ⟨Or.inr rfl, h2, h3⟩)
    all_goals (exfalso; omega)
theorem f_E_sk {B : Nat → Int32} {n kn a b s q : Int} {t : Int32} (h : f_run f_bl B n a s) (e : b = a) : f_E B n kn q t b ↔ f_E B n kn q t s := by
  subst e
  exact f_E_skip h
theorem f_tk_lt {B : Nat → Int32} {n so sg st en k v b : Int} (hC : f_C B n so sg st en) (hpg : f_pg so st en) (ht : f_tk B n st k v b) (hk : k ≠ 0) : st < en := hpg fun h0 => hk (f_tk_u (f_tk_end hC h0) ht).1.symm
theorem f_v_lt {r c : Int} (h : r < c) (hc : c ≤ 1000) : f_v r < c := by
  unfold f_v
  split <;> omega
theorem f_v_ge {r c : Int} (h : c ≤ r) (hc : c ≤ 1000) : ¬ f_v r < c := by
  unfold f_v
  split <;> omega
theorem f_nbA_y {B : Nat → Int32} {n st en kk r : Int} (h : f_nbA B n st en kk r) (hr : r ≠ -1) : 0 ≤ r ∧ f_tk B n st kk (f_v r) en := by
  rcases h with h | h
  · exact absurd h.1 hr
  · exact h
theorem f_nbA_n {B : Nat → Int32} {n st en kk r : Int} (h : f_nbA B n st en kk r) (hr : r = -1) : ∀ k v b : Int, f_tk B n st k v b → k ≠ kk := by
  rcases h with h | h
  · exact h.2
  · exact absurd h.1 (by omega)
theorem f_wiA_y {B : Nat → Int32} {n st en r : Int} (h : f_wiA B n st en r) (hr : r ≠ -1) : 0 ≤ r ∧ r ≤ 5 ∧ f_tk B n st 3 r en := by
  rcases h with h | h
  · exact absurd h.1 hr
  · exact h
theorem f_wiA_n {B : Nat → Int32} {n st en r : Int} (h : f_wiA B n st en r) (hr : r = -1) : ∀ k v b : Int, f_tk B n st k v b → k ≠ 3 := by
  rcases h with h | h
  · exact h.2
  · exact absurd h.1 (by omega)
theorem f_not {P Q : Prop} (h : P ↔ Q) (n : ¬ Q) : ¬ P := fun p => n (h.mp p)
theorem f_bit_of {t p z : Int32} {v : Int} (hv : v = p.toInt) (e : z = (t >>> (p &&& 31)) &&& 1) (h : z.toInt ≠ 0) : f_bit t (Int32.ofInt v) := by
  subst hv
  unfold f_bit
  rw [Int32.ofInt_toInt, ← e]
  exact h
theorem f_bit_no {t p z : Int32} {v : Int} (hv : v = p.toInt) (e : z = (t >>> (p &&& 31)) &&& 1) (h : z.toInt = 0) : ¬ f_bit t (Int32.ofInt v) := by
  subst hv
  unfold f_bit
  rw [Int32.ofInt_toInt, ← e]
  exact fun g => g h
theorem f_set_of {t p t' : Int32} {v : Int} (hv : v = p.toInt) (e : t' = t ||| ((1 : Int32) <<< (p &&& 31))) : f_set t (Int32.ofInt v) = t' := by
  subst hv
  unfold f_set
  rw [Int32.ofInt_toInt, ← e]
theorem f_v4y {r N : Int} (e : f_v r = f_v N) (h : r ≤ 999) : f_v N ≤ 999 := by
  rw [← e]
  unfold f_v
  split <;> omega
theorem f_v4n {r N : Int} (e : f_v r = f_v N) (h : 999 < r) : ¬ f_v N ≤ 999 := by
  rw [← e]
  unfold f_v
  split <;> omega
def f_oT : List Nat := [0, 5, 11, 17, 24, 30, 37, 43, 46, 50, 54, 59, 64, 68, 75, 80, 87, 92, 97, 103, 110, 115]
def f_lT : List Nat := [4, 5, 5, 6, 5, 6, 5, 2, 3, 3, 4, 4, 3, 6, 4, 6, 4, 4, 5, 6, 4]
theorem f_O1 (k : Nat) (h : k < 21) : f_oT.getD k 0 + f_lT.getD k 0 < 115 ∧ f_lT.getD k 0 ≤ 6 ∧ (z_words (f_oT.getD k 0 + f_lT.getD k 0)).toInt = 32 ∧ f_oT.getD (k + 1) 0 = f_oT.getD k 0 + f_lT.getD k 0 + 1 := (show ∀ k : Nat, k < 21 → f_oT.getD k 0 + f_lT.getD k 0 < 115 ∧ f_lT.getD k 0 ≤ 6 ∧ (z_words (f_oT.getD k 0 + f_lT.getD k 0)).toInt = 32 ∧ f_oT.getD (k + 1) 0 = f_oT.getD k 0 + f_lT.getD k 0 + 1 by decide +kernel) k h
theorem f_O2 (k : Nat) (h : k < 21) (j : Nat) (hj : j < f_lT.getD k 0) : (z_words (f_oT.getD k 0 + j)).toInt ≠ 32 := (show ∀ k : Nat, k < 21 → ∀ j : Nat, j < f_lT.getD k 0 → (z_words (f_oT.getD k 0 + j)).toInt ≠ 32 by decide +kernel) k h j hj
theorem f_O3 (k : Nat) (h : k < 6) : f_lT.getD k 0 = (f_W.getD k []).length ∧ ∀ j : Nat, j < f_lT.getD k 0 → (z_words (f_oT.getD k 0 + j)).toInt = (f_W.getD k []).getD j 0 := (show ∀ k : Nat, k < 6 → f_lT.getD k 0 = (f_W.getD k []).length ∧ ∀ j : Nat, j < f_lT.getD k 0 → (z_words (f_oT.getD k 0 + j)).toInt = (f_W.getD k []).getD j 0 by decide +kernel) k h
theorem f_O4 (k : Nat) (h : k < 21) : f_oT.getD k 0 < 115 := by
  have := (f_O1 k h).1
  omega
def f_wA (B : Nat → Int32) (s m r : Int) : Prop := (0 ≤ r ∧ r ≤ 5 ∧ f_ma B s m r.toNat) ∨ ((r < 0 ∨ 5 < r) ∧ ∀ w : Nat, w < 6 → ¬ f_ma B s m w)
def f_wO (B : Nat → Int32) (s m k at' : Int) : Prop := 0 ≤ k ∧ k ≤ 21 ∧ at' = ((f_oT.getD k.toNat 0 : Nat) : Int) ∧ ∀ w : Nat, w < 6 → (w : Int) < k → ¬ f_ma B s m w
def f_wN (k n : Int) : Prop := 0 ≤ n ∧ n ≤ ((f_lT.getD k.toNat 0 : Nat) : Int)
def f_wS (B V : Nat → Int32) (s m at' n i sm : Int) : Prop := (sm = 1 → n = m - s ∧ ∀ j : Nat, (j : Int) < i → (V (at'.toNat + j)).toInt = (B (s.toNat + j)).toInt) ∧ (sm = 0 → ¬ (n = m - s ∧ ∀ j : Nat, (j : Int) < n → (V (at'.toNat + j)).toInt = (B (s.toNat + j)).toInt))
theorem f_wO_0 {B : Nat → Int32} {s m : Int} : f_wO B s m 0 0 := ⟨by omega, by omega, rfl, fun w _ h => absurd h (by omega)⟩
theorem f_wO_lt {B : Nat → Int32} {s m k a : Int} (h : f_wO B s m k a) (ha : a < 115) : k < 21 ∧ a + 6 < 121 := by
  obtain ⟨h1, h2, h3, h4⟩ := h
  refine ⟨?_, by omega⟩
  by_cases e : k = 21
  · subst e
    exfalso
    have : f_oT.getD (Int.toNat 21) 0 = 115 := rfl
    omega
  · omega
theorem f_wO_end {B : Nat → Int32} {s m k a : Int} (h : f_wO B s m k a) (ha : 115 ≤ a) : f_wA B s m (-1) := by
  obtain ⟨h1, h2, h3, h4⟩ := h
  have hk : k = 21 := by
    by_cases e : k < 21
    · exfalso
      have := f_O4 k.toNat (by omega)
      omega
    · omega
  exact Or.inr ⟨Or.inl (by omega), fun w hw => h4 w hw (by omega)⟩
theorem f_wN_0 {k : Int} : f_wN k 0 := ⟨by omega, by omega⟩
theorem f_wN_s {B V : Nat → Int32} {s m k a n n' : Int} {i z : Int32} (hV : ∀ j : Nat, j < 115 → V j = z_words j) (h : f_wO B s m k a) (hk : k < 21) (hn : f_wN k n) (hi : i.toInt = a + n) (e : z = V i.toNatClampNeg) (hz : z.toInt ≠ 32) (hn' : n' = n + 1) : f_wN k n' := by
  obtain ⟨h1, h2, h3, h4⟩ := h
  obtain ⟨g1, g2⟩ := hn
  have o1 := f_O1 k.toNat (by omega)
  refine ⟨by omega, ?_⟩
  by_cases q : n = ((f_lT.getD k.toNat 0 : Nat) : Int)
  · exfalso
    have h5 : i.toNatClampNeg = i.toInt.toNat := rfl
    have h6 : i.toNatClampNeg = f_oT.getD k.toNat 0 + f_lT.getD k.toNat 0 := by omega
    rw [e, hV _ (by omega), h6] at hz
    exact hz o1.2.2.1
  · omega
theorem f_wN_b {B : Nat → Int32} {s m k a n : Int} (h : f_wO B s m k a) (hk : k < 21) (hn : f_wN k n) : 0 ≤ n ∧ n ≤ 6 ∧ a + n < 115 ∧ 0 ≤ a := by
  obtain ⟨h1, h2, h3, h4⟩ := h
  obtain ⟨g1, g2⟩ := hn
  have o1 := f_O1 k.toNat (by omega)
  refine ⟨g1, by omega, by omega, by omega⟩
theorem f_wN_e {B V : Nat → Int32} {s m k a n : Int} {i z : Int32} (hV : ∀ j : Nat, j < 115 → V j = z_words j) (h : f_wO B s m k a) (hk : k < 21) (hn : f_wN k n) (hi : i.toInt = a + n) (e : z = V i.toNatClampNeg) (hz : z.toInt = 32) : n = ((f_lT.getD k.toNat 0 : Nat) : Int) := by
  obtain ⟨h1, h2, h3, h4⟩ := h
  obtain ⟨g1, g2⟩ := hn
  have o1 := f_O1 k.toNat (by omega)
  by_cases q : n < ((f_lT.getD k.toNat 0 : Nat) : Int)
  · exfalso
    have h5 : i.toNatClampNeg = i.toInt.toNat := rfl
    have h6 : i.toNatClampNeg = f_oT.getD k.toNat 0 + n.toNat := by omega
    rw [e, hV _ (by omega), h6] at hz
    exact f_O2 k.toNat (by omega) n.toNat (by omega) hz
  · omega
theorem f_wS_0 {B V : Nat → Int32} {s m a n sm : Int} (h1 : sm = 1 → n = m - s) (h0 : sm = 0 → n ≠ m - s) : f_wS B V s m a n 0 sm := ⟨fun q => ⟨h1 q, fun j hj => absurd hj (by omega)⟩, fun q g => h0 q g.1⟩
theorem f_wS_y {B V : Nat → Int32} {s m a n i' sm : Int} {i ia ib x y : Int32} (h : f_wS B V s m a n i.toInt sm) (hsm : sm = 1) (h0 : 0 ≤ i.toInt) (ha : 0 ≤ a) (hs : 0 ≤ s) (hia : ia.toInt = a + i.toInt) (hib : ib.toInt = s + i.toInt) (ex : x = V ia.toNatClampNeg) (ey : y = B ib.toNatClampNeg) (hxy : x.toInt = y.toInt) (hi : i' = i.toInt + 1) : f_wS B V s m a n i' 1 := by
  refine ⟨fun _ => ⟨(h.1 hsm).1, fun j hj => ?_⟩, fun q => absurd q (by decide)⟩
  by_cases g : (j : Int) < i.toInt
  · exact (h.1 hsm).2 j g
  · have e1 : ia.toNatClampNeg = ia.toInt.toNat := rfl
    have e2 : ib.toNatClampNeg = ib.toInt.toNat := rfl
    rw [show a.toNat + j = ia.toNatClampNeg by omega, show s.toNat + j = ib.toNatClampNeg by omega, ← ex, ← ey]
    exact hxy
theorem f_wS_n {B V : Nat → Int32} {s m a n i' sm : Int} {i ia ib x y : Int32} (h : f_wS B V s m a n i.toInt sm) (h0 : 0 ≤ i.toInt) (hn : i.toInt < n) (ha : 0 ≤ a) (hs : 0 ≤ s) (hia : ia.toInt = a + i.toInt) (hib : ib.toInt = s + i.toInt) (ex : x = V ia.toNatClampNeg) (ey : y = B ib.toNatClampNeg) (hxy : x.toInt ≠ y.toInt) : f_wS B V s m a n i' 0 := by
  refine ⟨fun q => absurd q (by decide), fun _ g => hxy ?_⟩
  have h9 := g.2 i.toInt.toNat (by omega)
  have e1 : ia.toNatClampNeg = ia.toInt.toNat := rfl
  have e2 : ib.toNatClampNeg = ib.toInt.toNat := rfl
  rw [show a.toNat + i.toInt.toNat = ia.toNatClampNeg by omega, show s.toNat + i.toInt.toNat = ib.toNatClampNeg by omega, ← ex, ← ey] at h9
  exact h9
theorem f_wS_ma {B V : Nat → Int32} {s m k a n i : Int} (hV : ∀ j : Nat, j < 115 → V j = z_words j) (h : f_wO B s m k a) (hk : k < 6) (hn : n = ((f_lT.getD k.toNat 0 : Nat) : Int)) : (n = m - s ∧ ∀ j : Nat, (j : Int) < n → (V (a.toNat + j)).toInt = (B (s.toNat + j)).toInt) ↔ f_ma B s m k.toNat := by
  obtain ⟨h1, h2, h3, h4⟩ := h
  have o1 := f_O1 k.toNat (by omega)
  obtain ⟨o3, o4⟩ := f_O3 k.toNat (by omega)
  have hV2 : ∀ j : Nat, (j : Int) < n → (V (a.toNat + j)).toInt = (f_W.getD k.toNat []).getD j 0 := fun j hj => by
    rw [hV _ (by omega), show a.toNat + j = f_oT.getD k.toNat 0 + j by omega]
    exact o4 j (by omega)
  refine ⟨fun g => ⟨by omega, fun j hj => ?_⟩, fun g => ⟨by have := g.1; omega, fun j hj => ?_⟩⟩
  · rw [← g.2 j (by omega)]
    exact hV2 j (by omega)
  · rw [hV2 j hj]
    exact (g.2 j (by omega)).symm
theorem f_wS_hit {B V : Nat → Int32} {s m k a n i sm : Int} (hV : ∀ j : Nat, j < 115 → V j = z_words j) (h : f_wO B s m k a) (hk : k < 21) (hn : n = ((f_lT.getD k.toNat 0 : Nat) : Int)) (hS : f_wS B V s m a n i sm) (hsm : sm = 1) (hi : n ≤ i) : f_wA B s m k := by
  have hq := hS.1 hsm
  by_cases q : k < 6
  · exact Or.inl ⟨h.1, by omega, (f_wS_ma (i := i) hV h q hn).mp ⟨hq.1, fun j hj => hq.2 j (by omega)⟩⟩
  · exact Or.inr ⟨Or.inr (by omega), fun w hw => h.2.2.2 w hw (by omega)⟩
theorem f_wS_no {B V : Nat → Int32} {s m k k' a a' n i sm : Int} (hV : ∀ j : Nat, j < 115 → V j = z_words j) (h : f_wO B s m k a) (hk : k < 21) (hn : n = ((f_lT.getD k.toNat 0 : Nat) : Int)) (hS : f_wS B V s m a n i sm) (hsm : sm = 0) (hk' : k' = k + 1) (ha' : a' = a + (n + 1)) : f_wO B s m k' a' := by
  have hq := hS.2 hsm
  have o1 := f_O1 k.toNat (by have := h.1; omega)
  refine ⟨by have := h.1; omega, by omega, ?_, fun w hw hwk => ?_⟩
  · have h3 := h.2.2.1
    rw [show k'.toNat = k.toNat + 1 by have := h.1; omega, o1.2.2.2]
    omega
  · by_cases q : (w : Int) < k
    · exact h.2.2.2 w hw q
    · have e : w = k.toNat := by omega
      subst e
      exact fun g => hq ((f_wS_ma (i := i) hV h (by have := h.1; omega) hn).mpr g)
def f_so (c r : Int) : Prop := (c = 58 → r = 58) ∧ (c = 59 → r = 59) ∧ (c = 44 → r = 44) ∧ (r = 58 → c = 58) ∧ (r = 59 → c = 59) ∧ (r = 44 → c = 44)
theorem f_v_s2 {B : Nat → Int32} {n a c x y : Int} {i r : Int32} (hdg : f_pre f_di B n a i.toInt) (h : f_v x = f_v (f_nm B a i.toInt)) (hx : 0 ≤ x) (hd : f_di (B i.toNatClampNeg).toInt) (e : r = B i.toNatClampNeg) (hc : c = i.toInt + 1) (hy : (99999 < x ∧ y = x) ∨ (x ≤ 99999 ∧ y = 10 * x + r.toInt - 48)) : f_v y = f_v (f_nm B a c) := by
  have ha := hdg.1
  have hai := hdg.2.1
  have hN := f_nm_nn hdg
  have h4 : i.toNatClampNeg = i.toInt.toNat := rfl
  rw [f_nm1 ha hai hc, ← h4, ← e]
  rw [← e] at hd
  unfold f_di at hd
  generalize f_nm B a i.toInt = N at h hN ⊢
  unfold f_v at h ⊢
  rcases hy with ⟨y1, y2⟩ | ⟨y1, y2⟩ <;> (subst y2; split at h <;> split at h <;> split <;> split <;> omega)
def f_M (B : Nat → Int32) (n a kd wh nx : Int) : Prop := ∃ k v b : Int, f_tk B n a k v b ∧ (kd = 6 ↔ k = 1) ∧ (kd = 7 ↔ k = 2) ∧ ((kd = 1 ∧ wh ≤ 5) ↔ k = 3) ∧ (kd = 3 ↔ k = 4) ∧ ((kd = 4 ∧ wh = 58) ↔ k = 5) ∧ ((kd = 4 ∧ wh = 59) ↔ k = 6) ∧ ((kd = 4 ∧ wh = 44) ↔ k = 7) ∧ (kd = 0 ↔ k = 0) ∧ (k ≠ 8 → b = nx) ∧ ((k = 1 ∨ k = 2 ∨ k = 4) → v = f_v wh ∧ 0 ≤ wh) ∧ (k = 3 → v = wh ∧ 0 ≤ wh)
theorem f_M_e {B : Nat → Int32} {n a s wh : Int} (hs : f_run f_bl B n a s) (hn : n ≤ s) : f_M B n a 0 wh s := ⟨0, 0, s, ⟨s, hs, Or.inl ⟨hn, rfl, rfl⟩⟩, by omega, by omega, by omega, by omega, by omega, by omega, by omega, by omega, fun _ => rfl, by omega, by omega⟩
theorem f_M_w {B : Nat → Int32} {n a s m kd wh : Int} (hs : f_run f_bl B n a s) (hn : s < n) (hl : f_le (B s.toNat).toInt) (hm : f_run f_le B n s m) (hd : m < n → ¬ f_di (B m.toNat).toInt) (hw : f_wA B s m wh) (hk : (kd = 1 ∧ 0 ≤ wh) ∨ ((kd = 2 ∨ kd = 5) ∧ wh < 0)) : f_M B n a kd wh m := by
  have hr : f_run f_di B n m m := ⟨by have := hm.1; have := hm.2.1; omega, Int.le_refl _, fun j h1 h2 => absurd h2 (by omega), hd⟩
  rcases hw with ⟨w1, w2, w3⟩ | ⟨w1, w2⟩
  · refine ⟨3, wh, m, ⟨s, hs, Or.inr (Or.inl ⟨hn, hl, m, hm, hr, Or.inr (Or.inr (Or.inr (Or.inl ⟨rfl, ⟨wh.toNat, by omega, w3, by omega⟩, rfl⟩)))⟩)⟩, by omega, by omega, by omega, by omega, by omega, by omega, by omega, by omega, fun _ => rfl, by omega, by omega⟩
  · refine ⟨8, 0, m, ⟨s, hs, Or.inr (Or.inl ⟨hn, hl, m, hm, hr, Or.inr (Or.inr (Or.inr (Or.inr ⟨rfl, w2, rfl⟩)))⟩)⟩, by omega, by omega, by omega, by omega, by omega, by omega, by omega, by omega, fun _ => rfl, by omega, by omega⟩
theorem f_M_k {B : Nat → Int32} {n a s m b kd wh : Int} (hs : f_run f_bl B n a s) (hn : s < n) (hl : f_le (B s.toNat).toInt) (hm : f_run f_le B n s m) (hd : f_run f_di B n m b) (hmb : m < b) (hv : f_v wh = f_v (f_nm B m b)) (h0 : 0 ≤ wh) (hk : (m = s + 1 ∧ (B s.toNat).toInt = 107 ∧ kd = 6) ∨ (m = s + 1 ∧ (B s.toNat).toInt = 115 ∧ kd = 7) ∨ (¬ (m = s + 1 ∧ ((B s.toNat).toInt = 107 ∨ (B s.toNat).toInt = 115)) ∧ kd = 5)) : f_M B n a kd wh b := by
  rcases hk with ⟨k1, k2, k3⟩ | ⟨k1, k2, k3⟩ | ⟨k1, k3⟩
  · exact ⟨1, f_v (f_nm B m b), b, ⟨s, hs, Or.inr (Or.inl ⟨hn, hl, m, hm, hd, Or.inl ⟨hmb, k1, k2, rfl, rfl⟩⟩)⟩, by omega, by omega, by omega, by omega, by omega, by omega, by omega, by omega, fun _ => rfl, fun _ => ⟨hv.symm, h0⟩, by omega⟩
  · exact ⟨2, f_v (f_nm B m b), b, ⟨s, hs, Or.inr (Or.inl ⟨hn, hl, m, hm, hd, Or.inr (Or.inl ⟨hmb, k1, k2, rfl, rfl⟩)⟩)⟩, by omega, by omega, by omega, by omega, by omega, by omega, by omega, by omega, fun _ => rfl, fun _ => ⟨hv.symm, h0⟩, by omega⟩
  · exact ⟨8, 0, b, ⟨s, hs, Or.inr (Or.inl ⟨hn, hl, m, hm, hd, Or.inr (Or.inr (Or.inl ⟨hmb, k1, rfl⟩))⟩)⟩, by omega, by omega, by omega, by omega, by omega, by omega, by omega, by omega, fun _ => rfl, by omega, by omega⟩
theorem f_M_n {B : Nat → Int32} {n a s b wh : Int} (hs : f_run f_bl B n a s) (hn : s < n) (hl : f_di (B s.toNat).toInt) (hd : f_run f_di B n s b) (hv : f_v wh = f_v (f_nm B s b)) (h0 : 0 ≤ wh) : f_M B n a 3 wh b := ⟨4, f_v (f_nm B s b), b, ⟨s, hs, Or.inr (Or.inr (Or.inl ⟨hn, hl, hd, rfl, rfl⟩))⟩, by omega, by omega, by omega, by omega, by omega, by omega, by omega, by omega, fun _ => rfl, fun _ => ⟨hv.symm, h0⟩, by omega⟩
theorem f_M_s {B : Nat → Int32} {n a s c kd wh nx : Int} (hs : f_run f_bl B n a s) (hn : s < n) (hl : ¬ f_le (B s.toNat).toInt) (hd : ¬ f_di (B s.toNat).toInt) (hc : (B s.toNat).toInt = c) (hso : f_so c wh) (hk : (kd = 4 ∧ 0 ≤ wh) ∨ (kd = 5 ∧ wh < 0)) (hnx : wh ≠ 2 → wh ≠ 4 → wh ≠ 5 → nx = s + 1) : f_M B n a kd wh nx := by
  obtain ⟨s1, s2, s3, s4, s5, s6⟩ := hso
  by_cases c1 : c = 58
  · exact ⟨5, 0, s + 1, ⟨s, hs, Or.inr (Or.inr (Or.inr ⟨hn, hl, hd, Or.inl ⟨by omega, rfl, rfl⟩⟩))⟩, by omega, by omega, by omega, by omega, by omega, by omega, by omega, by omega, by omega, by omega, by omega⟩
  · by_cases c2 : c = 59
    · exact ⟨6, 0, s + 1, ⟨s, hs, Or.inr (Or.inr (Or.inr ⟨hn, hl, hd, Or.inr (Or.inl ⟨by omega, rfl, rfl⟩)⟩))⟩, by omega, by omega, by omega, by omega, by omega, by omega, by omega, by omega, by omega, by omega, by omega⟩
    · by_cases c3 : c = 44
      · exact ⟨7, 0, s + 1, ⟨s, hs, Or.inr (Or.inr (Or.inr ⟨hn, hl, hd, Or.inr (Or.inr (Or.inl ⟨by omega, rfl, rfl⟩))⟩))⟩, by omega, by omega, by omega, by omega, by omega, by omega, by omega, by omega, by omega, by omega, by omega⟩
      · exact ⟨8, 0, s + 1, ⟨s, hs, Or.inr (Or.inr (Or.inr ⟨hn, hl, hd, Or.inr (Or.inr (Or.inr ⟨by omega, by omega, by omega, rfl⟩))⟩))⟩, by omega, by omega, by omega, by omega, by omega, by omega, by omega, by omega, by omega, by omega, by omega⟩
theorem f_M_x1 {B : Nat → Int32} {n a kd wh nx : Int} (h : f_M B n a kd wh nx) (hk : ¬ (kd = 6)) : ∀ k v b : Int, f_tk B n a k v b → k ≠ 1 := by
  intro k v b ht e
  obtain ⟨k2, v2, b2, ht2, m1, m2, m3, m4, m5, m6, m7, m0, _⟩ := h
  have hu := (f_tk_u ht ht2).1
  exact hk (m1.mpr (by omega))
theorem f_M_y1 {B : Nat → Int32} {n a kd wh nx : Int} (h : f_M B n a kd wh nx) (hk : kd = 6) : 0 ≤ wh ∧ f_tk B n a 1 (f_v wh) nx := by
  obtain ⟨k2, v2, b2, ht2, m1, m2, m3, m4, m5, m6, m7, m0, m8, m9, m10⟩ := h
  have e : k2 = 1 := m1.mp hk
  subst e
  have e2 : b2 = nx := m8 (by decide)
  subst e2
  obtain ⟨e3, e4⟩ := m9 (by decide)
  subst e3
  exact ⟨e4, ht2⟩
theorem f_M_x2 {B : Nat → Int32} {n a kd wh nx : Int} (h : f_M B n a kd wh nx) (hk : ¬ (kd = 7)) : ∀ k v b : Int, f_tk B n a k v b → k ≠ 2 := by
  intro k v b ht e
  obtain ⟨k2, v2, b2, ht2, m1, m2, m3, m4, m5, m6, m7, m0, _⟩ := h
  have hu := (f_tk_u ht ht2).1
  exact hk (m2.mpr (by omega))
theorem f_M_y2 {B : Nat → Int32} {n a kd wh nx : Int} (h : f_M B n a kd wh nx) (hk : kd = 7) : 0 ≤ wh ∧ f_tk B n a 2 (f_v wh) nx := by
  obtain ⟨k2, v2, b2, ht2, m1, m2, m3, m4, m5, m6, m7, m0, m8, m9, m10⟩ := h
  have e : k2 = 2 := m2.mp hk
  subst e
  have e2 : b2 = nx := m8 (by decide)
  subst e2
  obtain ⟨e3, e4⟩ := m9 (by decide)
  subst e3
  exact ⟨e4, ht2⟩
theorem f_M_x3 {B : Nat → Int32} {n a kd wh nx : Int} (h : f_M B n a kd wh nx) (hk : ¬ (kd = 1 ∧ wh ≤ 5)) : ∀ k v b : Int, f_tk B n a k v b → k ≠ 3 := by
  intro k v b ht e
  obtain ⟨k2, v2, b2, ht2, m1, m2, m3, m4, m5, m6, m7, m0, _⟩ := h
  have hu := (f_tk_u ht ht2).1
  exact hk (m3.mpr (by omega))
theorem f_M_y3 {B : Nat → Int32} {n a kd wh nx : Int} (h : f_M B n a kd wh nx) (hk : kd = 1 ∧ wh ≤ 5) : 0 ≤ wh ∧ f_tk B n a 3 wh nx := by
  obtain ⟨k2, v2, b2, ht2, m1, m2, m3, m4, m5, m6, m7, m0, m8, m9, m10⟩ := h
  have e : k2 = 3 := m3.mp hk
  subst e
  have e2 : b2 = nx := m8 (by decide)
  subst e2
  obtain ⟨e3, e4⟩ := m10 rfl
  subst e3
  exact ⟨e4, ht2⟩
theorem f_M_x4 {B : Nat → Int32} {n a kd wh nx : Int} (h : f_M B n a kd wh nx) (hk : ¬ (kd = 3)) : ∀ k v b : Int, f_tk B n a k v b → k ≠ 4 := by
  intro k v b ht e
  obtain ⟨k2, v2, b2, ht2, m1, m2, m3, m4, m5, m6, m7, m0, _⟩ := h
  have hu := (f_tk_u ht ht2).1
  exact hk (m4.mpr (by omega))
theorem f_M_y4 {B : Nat → Int32} {n a kd wh nx : Int} (h : f_M B n a kd wh nx) (hk : kd = 3) : 0 ≤ wh ∧ f_tk B n a 4 (f_v wh) nx := by
  obtain ⟨k2, v2, b2, ht2, m1, m2, m3, m4, m5, m6, m7, m0, m8, m9, m10⟩ := h
  have e : k2 = 4 := m4.mp hk
  subst e
  have e2 : b2 = nx := m8 (by decide)
  subst e2
  obtain ⟨e3, e4⟩ := m9 (by decide)
  subst e3
  exact ⟨e4, ht2⟩
theorem f_M_x5 {B : Nat → Int32} {n a kd wh nx : Int} (h : f_M B n a kd wh nx) (hk : ¬ (kd = 4 ∧ wh = 58)) : ∀ k v b : Int, f_tk B n a k v b → k ≠ 5 := by
  intro k v b ht e
  obtain ⟨k2, v2, b2, ht2, m1, m2, m3, m4, m5, m6, m7, m0, _⟩ := h
  have hu := (f_tk_u ht ht2).1
  exact hk (m5.mpr (by omega))
theorem f_M_y5 {B : Nat → Int32} {n a kd wh nx : Int} (h : f_M B n a kd wh nx) (hk : kd = 4 ∧ wh = 58) : ∃ v : Int, f_tk B n a 5 v nx := by
  obtain ⟨k2, v2, b2, ht2, m1, m2, m3, m4, m5, m6, m7, m0, m8, m9, m10⟩ := h
  have e : k2 = 5 := m5.mp hk
  subst e
  have e2 : b2 = nx := m8 (by decide)
  subst e2
  exact ⟨v2, ht2⟩
theorem f_M_x6 {B : Nat → Int32} {n a kd wh nx : Int} (h : f_M B n a kd wh nx) (hk : ¬ (kd = 4 ∧ wh = 59)) : ∀ k v b : Int, f_tk B n a k v b → k ≠ 6 := by
  intro k v b ht e
  obtain ⟨k2, v2, b2, ht2, m1, m2, m3, m4, m5, m6, m7, m0, _⟩ := h
  have hu := (f_tk_u ht ht2).1
  exact hk (m6.mpr (by omega))
theorem f_M_y6 {B : Nat → Int32} {n a kd wh nx : Int} (h : f_M B n a kd wh nx) (hk : kd = 4 ∧ wh = 59) : ∃ v : Int, f_tk B n a 6 v nx := by
  obtain ⟨k2, v2, b2, ht2, m1, m2, m3, m4, m5, m6, m7, m0, m8, m9, m10⟩ := h
  have e : k2 = 6 := m6.mp hk
  subst e
  have e2 : b2 = nx := m8 (by decide)
  subst e2
  exact ⟨v2, ht2⟩
theorem f_M_x7 {B : Nat → Int32} {n a kd wh nx : Int} (h : f_M B n a kd wh nx) (hk : ¬ (kd = 4 ∧ wh = 44)) : ∀ k v b : Int, f_tk B n a k v b → k ≠ 7 := by
  intro k v b ht e
  obtain ⟨k2, v2, b2, ht2, m1, m2, m3, m4, m5, m6, m7, m0, _⟩ := h
  have hu := (f_tk_u ht ht2).1
  exact hk (m7.mpr (by omega))
theorem f_M_y7 {B : Nat → Int32} {n a kd wh nx : Int} (h : f_M B n a kd wh nx) (hk : kd = 4 ∧ wh = 44) : ∃ v : Int, f_tk B n a 7 v nx := by
  obtain ⟨k2, v2, b2, ht2, m1, m2, m3, m4, m5, m6, m7, m0, m8, m9, m10⟩ := h
  have e : k2 = 7 := m7.mp hk
  subst e
  have e2 : b2 = nx := m8 (by decide)
  subst e2
  exact ⟨v2, ht2⟩
theorem f_M_x0 {B : Nat → Int32} {n a kd wh nx : Int} (h : f_M B n a kd wh nx) (hk : ¬ (kd = 0)) : ∀ k v b : Int, f_tk B n a k v b → k ≠ 0 := by
  intro k v b ht e
  obtain ⟨k2, v2, b2, ht2, m1, m2, m3, m4, m5, m6, m7, m0, _⟩ := h
  have hu := (f_tk_u ht ht2).1
  exact hk (m0.mpr (by omega))
theorem f_M_y0 {B : Nat → Int32} {n a kd wh nx : Int} (h : f_M B n a kd wh nx) (hk : kd = 0) : ∃ v : Int, f_tk B n a 0 v nx := by
  obtain ⟨k2, v2, b2, ht2, m1, m2, m3, m4, m5, m6, m7, m0, m8, m9, m10⟩ := h
  have e : k2 = 0 := m0.mp hk
  subst e
  have e2 : b2 = nx := m8 (by decide)
  subst e2
  exact ⟨v2, ht2⟩
def f_L (B : Nat → Int32) (n kn pa : Int) (t : Int32) (mo kd wh nx : Int) : Prop := (mo = 1 → (f_E B n kn 0 0 pa ↔ f_E B n kn 3 t nx)) ∧ (mo = 0 → ∃ a : Int, f_M B n a kd wh nx ∧ (f_E B n kn 0 0 pa ↔ f_E B n kn 5 t a) ∧ ¬ (kd = 4 ∧ wh = 44))
theorem f_L_1 {B : Nat → Int32} {n kn pa mo kd wh nx : Int} {t : Int32} (hm : mo = 1) (h : f_E B n kn 0 0 pa ↔ f_E B n kn 3 t nx) : f_L B n kn pa t mo kd wh nx := ⟨fun _ => h, fun g => by exfalso; omega⟩
theorem f_L_0 {B : Nat → Int32} {n kn pa mo kd wh nx a : Int} {t : Int32} (hm : mo = 0) (hM : f_M B n a kd wh nx) (h : f_E B n kn 0 0 pa ↔ f_E B n kn 5 t a) (hn : ¬ (kd = 4 ∧ wh = 44)) : f_L B n kn pa t mo kd wh nx := ⟨fun g => by exfalso; omega, fun _ => ⟨a, hM, h, hn⟩⟩
theorem f_L_7 {B : Nat → Int32} {n kn pa mo kd wh nx a : Int} {t : Int32} (hm : mo = 1) (hM : f_M B n a kd wh nx) (h : f_E B n kn 0 0 pa ↔ f_E B n kn 5 t a) (hk : kd = 4 ∧ wh = 44) : f_L B n kn pa t mo kd wh nx := by
  obtain ⟨v, ht⟩ := f_M_y7 hM hk
  exact f_L_1 hm (h.trans (f_E5c ht rfl))
def f_L2 (B : Nat → Int32) (n kn pa kd wh nx : Int) : Prop := ∃ a : Int, f_M B n a kd wh nx ∧ (f_E B n kn 0 0 pa ↔ f_E B n kn 0 0 a)
theorem f_M5e {B : Nat → Int32} {n kn a kd wh nx : Int} {t : Int32} (hM : f_M B n a kd wh nx) (hk : kd = 0) : f_E B n kn 5 t a := by
  obtain ⟨v, ht⟩ := f_M_y0 hM hk
  exact f_E5e ht rfl
theorem f_M6e {B : Nat → Int32} {n kn a kd wh nx : Int} {t : Int32} (hM : f_M B n a kd wh nx) (hk : kd = 0) : f_E B n kn 6 t a := by
  obtain ⟨v, ht⟩ := f_M_y0 hM hk
  exact f_E6e ht rfl
theorem f_M5n {B : Nat → Int32} {n kn a kd wh nx : Int} {t : Int32} (hM : f_M B n a kd wh nx) (h0 : kd ≠ 0) (h6 : ¬ (kd = 4 ∧ wh = 59)) (h7 : ¬ (kd = 4 ∧ wh = 44)) : ¬ f_E B n kn 5 t a := f_E5x fun k v b ht => ⟨f_M_x0 hM h0 k v b ht, f_M_x6 hM h6 k v b ht, f_M_x7 hM h7 k v b ht⟩
theorem f_M5s {B : Nat → Int32} {n kn a kd wh nx : Int} {t : Int32} (hM : f_M B n a kd wh nx) (hk : kd = 4 ∧ wh = 59) : f_E B n kn 5 t a ↔ f_E B n kn 6 0 nx := by
  obtain ⟨v, ht⟩ := f_M_y6 hM hk
  exact f_E5s ht rfl
theorem f_M2 {B : Nat → Int32} {n kn a kd wh nx : Int} {t : Int32} (hM : f_M B n a kd wh nx) (hk : kd = 4 ∧ wh = 58) : f_E B n kn 2 t a ↔ f_E B n kn 3 0 nx := by
  obtain ⟨v, ht⟩ := f_M_y5 hM hk
  exact f_E2 ht rfl
theorem f_M6 {B : Nat → Int32} {n kn a kd wh nx : Int} {t t' : Int32} (hM : f_M B n a kd wh nx) (h0 : kd ≠ 0) : f_E B n kn 6 t a ↔ f_E B n kn 0 t' a := f_E6x (fun k v b ht => f_M_x0 hM h0 k v b ht)
theorem f_m8 : ∀ i : Nat, i < 32 → 8 ≤ i → (255#32).getLsbD i = false := by decide
theorem f_bv (x : BitVec 32) (s : Nat) (hs : s ≤ 24) : (x >>> s) &&& 255#32 = (x.sshiftRight s) &&& 255#32 := by
  apply BitVec.eq_of_getLsbD_eq
  intro i hi
  rw [BitVec.getLsbD_and, BitVec.getLsbD_and]
  by_cases h : i < 8
  · rw [BitVec.getLsbD_ushiftRight, BitVec.getLsbD_sshiftRight]
    rw [if_pos (show s + i < 32 by omega)]
    simp [show ¬ (32 ≤ i) by omega]
  · rw [f_m8 i hi (by omega), Bool.and_false, Bool.and_false]
def f_shT : List Int32 := [24, 16, 8, 0]
def f_b4 (x : Int32) (k : Nat) : Int32 := (x >>> (f_shT.getD k 0 &&& 31)) &&& 255
theorem f_us0 (x : Int32) : (x.toUInt32 >>> ((24 : Int32).toUInt32 &&& Int32.toUInt32 31)).toInt32 &&& 255 = f_b4 x 0 := Int32.toBitVec_inj.mp (f_bv x.toBitVec 24 (by decide))
theorem f_us1 (x : Int32) : (x.toUInt32 >>> ((16 : Int32).toUInt32 &&& Int32.toUInt32 31)).toInt32 &&& 255 = f_b4 x 1 := Int32.toBitVec_inj.mp (f_bv x.toBitVec 16 (by decide))
theorem f_us2 (x : Int32) : (x.toUInt32 >>> ((8 : Int32).toUInt32 &&& Int32.toUInt32 31)).toInt32 &&& 255 = f_b4 x 2 := Int32.toBitVec_inj.mp (f_bv x.toBitVec 8 (by decide))
theorem f_us3 (x : Int32) : (x.toUInt32 >>> ((0 : Int32).toUInt32 &&& Int32.toUInt32 31)).toInt32 &&& 255 = f_b4 x 3 := Int32.toBitVec_inj.mp (f_bv x.toBitVec 0 (by decide))
def f_by (a b c d e : Int32) (k : Nat) : Int32 := f_b4 (([a, b, c, d, e] : List Int32).getD (k / 4) 0) (k % 4)
def f_fe (B : Nat → Int32) (s : Nat) (w : Nat → Int32) : Nat → Nat → Int32
  | 0 => B
  | k + 1 => upd (f_fe B s w k) (s + k) (w k)
theorem f_fe_s {B C : Nat → Int32} {s k i : Nat} {w : Nat → Int32} {v : Int32} (h : C = f_fe B s w k) (hi : i = s + k) (hv : v = w k) : upd C i v = f_fe B s w (k + 1) := by
  subst h
  subst hi
  subst hv
  rfl
theorem f_fe_a {B : Nat → Int32} {s k : Nat} {w w' : Nat → Int32} : ∀ m : Nat, (∀ j : Nat, j < m → w' j = w (k + j)) → f_fe (f_fe B s w k) (s + k) w' m = f_fe B s w (k + m) := by
  intro m
  induction m with
  | zero => intro _; rfl
  | succ m ih =>
    intro h
    show upd (f_fe (f_fe B s w k) (s + k) w' m) (s + k + m) (w' m) = upd (f_fe B s w (k + m)) (s + (k + m)) (w (k + m))
    rw [ih (fun j hj => h j (by omega)), h m (by omega), Nat.add_assoc]
theorem f_fe_j {B C D : Nat → Int32} {s t k : Nat} {w w' : Nat → Int32} (hC : C = f_fe B s w k) (hD : D = f_fe C t w' 4) (ht : t = s + k) (hw : ∀ j : Nat, j < 4 → w' j = w (k + j)) : D = f_fe B s w (k + 4) := by
  subst hC
  subst ht
  rw [hD]
  exact f_fe_a 4 hw
theorem f_by4_0 (a b c d e : Int32) : ∀ j : Nat, j < 4 → f_b4 a j = f_by a b c d e (0 + j)
  | 0, _ => rfl
  | 1, _ => rfl
  | 2, _ => rfl
  | 3, _ => rfl
  | j + 4, h => absurd h (by omega)
theorem f_by4_1 (a b c d e : Int32) : ∀ j : Nat, j < 4 → f_b4 b j = f_by a b c d e (4 + j)
  | 0, _ => rfl
  | 1, _ => rfl
  | 2, _ => rfl
  | 3, _ => rfl
  | j + 4, h => absurd h (by omega)
theorem f_by4_2 (a b c d e : Int32) : ∀ j : Nat, j < 4 → f_b4 c j = f_by a b c d e (8 + j)
  | 0, _ => rfl
  | 1, _ => rfl
  | 2, _ => rfl
  | 3, _ => rfl
  | j + 4, h => absurd h (by omega)
theorem f_by4_3 (a b c d e : Int32) : ∀ j : Nat, j < 4 → f_b4 d j = f_by a b c d e (12 + j)
  | 0, _ => rfl
  | 1, _ => rfl
  | 2, _ => rfl
  | 3, _ => rfl
  | j + 4, h => absurd h (by omega)
theorem f_by4_4 (a b c d e : Int32) : ∀ j : Nat, j < 4 → f_b4 e j = f_by a b c d e (16 + j)
  | 0, _ => rfl
  | 1, _ => rfl
  | 2, _ => rfl
  | 3, _ => rfl
  | j + 4, h => absurd h (by omega)
def v_feA (f : Int32) : Int32 := if f.toInt ≤ 680 then f + 20 else (-1)
def v_feN (f : Int32) : Int32 := if f.toInt ≤ 680 then f + 20 else f
def v_feB (B : Nat → Int32) (f a b c d e : Int32) : Nat → Int32 := if f.toInt ≤ 680 then f_fe B f.toNatClampNeg (f_by a b c d e) 20 else B
def v_ruT (f n : Int32) : Int32 := if (0 ≤ n.toInt ∧ n.toInt ≤ f.toInt) then 0 else f
def v_wrA (n : Int32) : Int32 := if n.toInt < 80 then n else (-1)
def v_wrN (n : Int32) : Int32 := if n.toInt < 80 then n + 1 else n
theorem v_ite {P Q : Prop} [Decidable P] [Decidable Q] {α : Type} {a b : α} (h : P ↔ Q) : (if P then a else b) = (if Q then a else b) := by
  by_cases p : P
  · rw [if_pos p, if_pos (h.mp p)]
  · rw [if_neg p, if_neg (fun q => p (h.mpr q))]
def v_nok (l n s a b c : Int32) : Prop := 0 ≤ a.toInt ∧ a.toInt < l.toInt ∧ n.toInt < 80 ∧ ((s.toInt = 3 ∧ 0 ≤ b.toInt ∧ b.toInt ≤ c.toInt ∧ c.toInt ≤ 9999) ∨ (0 ≤ s.toInt ∧ s.toInt ≤ 2 ∧ 0 ≤ b.toInt ∧ b.toInt < l.toInt ∧ a.toInt ≠ b.toInt))
noncomputable def v_noA (l n s a b c : Int32) : Int32 := @ite _ (v_nok l n s a b c) (Classical.propDecidable _) n (-1)
noncomputable def v_noN (l n s a b c : Int32) : Int32 := @ite _ (v_nok l n s a b c) (Classical.propDecidable _) (n + 1) n
theorem v_noA_y {l n s a b c : Int32} (h : v_nok l n s a b c) : v_noA l n s a b c = n := if_pos h
theorem v_noA_n {l n s a b c : Int32} (h : ¬ v_nok l n s a b c) : v_noA l n s a b c = (-1) := if_neg h
theorem v_noN_y {l n s a b c : Int32} (h : v_nok l n s a b c) : v_noN l n s a b c = n + 1 := if_pos h
theorem v_noN_n {l n s a b c : Int32} (h : ¬ v_nok l n s a b c) : v_noN l n s a b c = n := if_neg h
theorem v_noA_w {l n s a b c r : Int32} (e : r = v_wrA n) (h : n.toInt < 80 ↔ v_nok l n s a b c) : r = v_noA l n s a b c := by
  rw [e]
  unfold v_wrA
  by_cases q : n.toInt < 80
  · rw [if_pos q, v_noA_y (h.mp q)]
  · rw [if_neg q, v_noA_n (fun g => q (h.mpr g))]
theorem v_noN_w {l n s a b c r : Int32} (e : r = v_wrN n) (h : n.toInt < 80 ↔ v_nok l n s a b c) : r = v_noN l n s a b c := by
  rw [e]
  unfold v_wrN
  by_cases q : n.toInt < 80
  · rw [if_pos q, v_noN_y (h.mp q)]
  · rw [if_neg q, v_noN_n (fun g => q (h.mpr g))]
def v_stA (n k : Int32) : Int32 := if (0 ≤ k.toInt ∧ k.toInt < n.toInt ∧ n.toInt < 80) then n else (-1)
def v_stN (n k : Int32) : Int32 := if (0 ≤ k.toInt ∧ k.toInt < n.toInt ∧ n.toInt < 80) then n + 1 else n
def v_fok (f n l k a : Int32) : Prop := 0 ≤ k.toInt ∧ k.toInt ≤ f.toInt ∧ 0 ≤ a.toInt ∧ a.toInt < l.toInt ∧ n.toInt < 80
noncomputable def v_fiA (B : Nat → Int32) (f n l q k a : Int32) : Int32 := @ite _ (v_fok f n l k a) (Classical.propDecidable _) (@ite _ (f_E B k.toInt q.toInt 0 0 0) (Classical.propDecidable _) n (-1)) (-2)
noncomputable def v_fiN (B : Nat → Int32) (f n l q k a : Int32) : Int32 := @ite _ (v_fok f n l k a) (Classical.propDecidable _) (@ite _ (f_E B k.toInt q.toInt 0 0 0) (Classical.propDecidable _) (n + 1) n) n
noncomputable def v_fiT (f n l k a : Int32) : Int32 := @ite _ (v_fok f n l k a) (Classical.propDecidable _) 0 f
theorem v_fiA_r {B : Nat → Int32} {f n l q k a : Int32} (h : ¬ v_fok f n l k a) : v_fiA B f n l q k a = (-2) := if_neg h
theorem v_fiA_n {B : Nat → Int32} {f n l q k a : Int32} (h : v_fok f n l k a) (g : ¬ f_E B k.toInt q.toInt 0 0 0) : v_fiA B f n l q k a = (-1) := (if_pos h).trans (if_neg g)
theorem v_fiA_y {B : Nat → Int32} {f n l q k a : Int32} (h : v_fok f n l k a) (g : f_E B k.toInt q.toInt 0 0 0) : v_fiA B f n l q k a = n := (if_pos h).trans (if_pos g)
theorem v_fiN_r {B : Nat → Int32} {f n l q k a : Int32} (h : ¬ v_fok f n l k a) : v_fiN B f n l q k a = n := if_neg h
theorem v_fiN_n {B : Nat → Int32} {f n l q k a : Int32} (h : v_fok f n l k a) (g : ¬ f_E B k.toInt q.toInt 0 0 0) : v_fiN B f n l q k a = n := (if_pos h).trans (if_neg g)
theorem v_fiN_y {B : Nat → Int32} {f n l q k a : Int32} (h : v_fok f n l k a) (g : f_E B k.toInt q.toInt 0 0 0) : v_fiN B f n l q k a = n + 1 := (if_pos h).trans (if_pos g)
theorem v_fiT_r {f n l k a : Int32} (h : ¬ v_fok f n l k a) : v_fiT f n l k a = f := if_neg h
theorem v_fiT_y {f n l k a : Int32} (h : v_fok f n l k a) : v_fiT f n l k a = 0 := if_pos h
