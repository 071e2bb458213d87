theorem z_ii {x y : Int32} (h : x.toInt = y.toInt) : x = y := Int32.toInt_inj.mp h
def v_layA (x : Int32) : Int32 := if x.toInt < 12 then x else (-1)
def v_layN (x : Int32) : Int32 := if x.toInt < 12 then x + 1 else x
def v_kiA (k m v : Int32) : Int32 := if (0 ≤ m.toInt ∧ m.toInt ≤ 999 ∧ 1 ≤ v.toInt ∧ v.toInt ≤ 2 ∧ k.toInt < 6) then k else (-1)
def v_kiN (k m v : Int32) : Int32 := if (0 ≤ m.toInt ∧ m.toInt ≤ 999 ∧ 1 ≤ v.toInt ∧ v.toInt ≤ 2 ∧ k.toInt < 6) then k + 1 else k
def v_keA (k a s o : Int32) : Int32 := if (0 ≤ a.toInt ∧ a.toInt < k.toInt ∧ 0 ≤ s.toInt ∧ s.toInt ≤ 3 ∧ 1 ≤ o.toInt ∧ o.toInt ≤ 16) then 1 else 0
def v_meA (l n a s r w : Int32) : Int32 := if (0 ≤ a.toInt ∧ a.toInt < l.toInt ∧ n.toInt < 200 ∧ 0 ≤ s.toInt ∧ s.toInt ≤ 99 ∧ 0 ≤ r.toInt ∧ r.toInt ≤ 30 ∧ 0 ≤ w.toInt ∧ w.toInt ≤ 99) then n + 1 else (-1)
def v_meN (l n a s r w : Int32) : Int32 := if (0 ≤ a.toInt ∧ a.toInt < l.toInt ∧ n.toInt < 200 ∧ 0 ≤ s.toInt ∧ s.toInt ≤ 99 ∧ 0 ≤ r.toInt ∧ r.toInt ≤ 30 ∧ 0 ≤ w.toInt ∧ w.toInt ≤ 99) then n + 1 else n
def v_hpW (w a b : Int32) : Int32 := if (2 ≤ a.toInt ∧ a.toInt ≤ 12 ∧ 2 ≤ b.toInt ∧ b.toInt ≤ 12) then a else w
def v_hpH (h a b : Int32) : Int32 := if (2 ≤ a.toInt ∧ a.toInt ≤ 12 ∧ 2 ≤ b.toInt ∧ b.toInt ≤ 12) then b else h
def v_hpC (c a b : Int32) : Int32 := if (2 ≤ a.toInt ∧ a.toInt ≤ 12 ∧ 2 ≤ b.toInt ∧ b.toInt ≤ 12) then 0 else c
def v_thA (c n k a m : Int32) : Int32 := if (0 ≤ k.toInt ∧ k.toInt < c.toInt ∧ 0 ≤ a.toInt ∧ a.toInt < n.toInt ∧ 0 ≤ m.toInt ∧ m.toInt ≤ 500) then 1 else 0
def v_no (xs ys : Nat → Int32) (n : Int) (x y : Int32) : Prop := ∀ j : Nat, (j : Int) < n → ¬ ((xs j).toInt = x.toInt ∧ (ys j).toInt = y.toInt)
theorem v_no_0 {xs ys : Nat → Int32} {n : Int} {x y : Int32} (h : n ≤ 0) : v_no xs ys n x y := fun j hj => absurd hj (by omega)
theorem v_no_s {xs ys : Nat → Int32} {i x y : Int32} {n : Int} (h : v_no xs ys i.toInt x y) (hi : (0 : Int) ≤ i.toInt) (hn : n = i.toInt + 1) (hne : ¬ ((xs i.toNatClampNeg).toInt = x.toInt ∧ (ys i.toNatClampNeg).toInt = y.toInt)) : v_no xs ys n x y := by
  intro j hj
  by_cases hji : (j : Int) < i.toInt
  · exact h j hji
  · have e : ((i.toNatClampNeg : Nat) : Int) = i.toInt := Int.toNat_of_nonneg hi
    have e2 : j = i.toNatClampNeg := by omega
    rw [e2]; exact hne
theorem v_no_end {xs ys : Nat → Int32} {n c : Int} {x y : Int32} (h : v_no xs ys n x y) (hc : c ≤ n) : v_no xs ys c x y := fun j hj => h j (by omega)
def v_cok (w h c : Int32) (xs ys : Nat → Int32) (x y : Int32) : Prop := ((0 : Int) ≤ x.toInt ∧ x.toInt < w.toInt ∧ (0 : Int) ≤ y.toInt ∧ y.toInt < h.toInt ∧ c.toInt < (10 : Int)) ∧ v_no xs ys c.toInt x y
theorem v_cok_mk {w h c x y : Int32} {xs ys : Nat → Int32} (h1 : (0 : Int) ≤ x.toInt ∧ x.toInt < w.toInt ∧ (0 : Int) ≤ y.toInt ∧ y.toInt < h.toInt ∧ c.toInt < (10 : Int)) (h2 : v_no xs ys c.toInt x y) : v_cok w h c xs ys x y := ⟨h1, h2⟩
theorem v_cok_out {w h c x y : Int32} {xs ys : Nat → Int32} (h1 : ¬ ((0 : Int) ≤ x.toInt ∧ x.toInt < w.toInt ∧ (0 : Int) ≤ y.toInt ∧ y.toInt < h.toInt ∧ c.toInt < (10 : Int))) : ¬ v_cok w h c xs ys x y := fun q => h1 q.1
theorem v_cok_hit {w h c x y : Int32} {xs ys : Nat → Int32} {i : Int32} (hi : (0 : Int) ≤ i.toInt) (hc : i.toInt < c.toInt) (he : (xs i.toNatClampNeg).toInt = x.toInt ∧ (ys i.toNatClampNeg).toInt = y.toInt) : ¬ v_cok w h c xs ys x y := fun q => by
  have e : ((i.toNatClampNeg : Nat) : Int) = i.toInt := Int.toNat_of_nonneg hi
  exact q.2 i.toNatClampNeg (by omega) he
noncomputable def v_coA (w h c : Int32) (xs ys : Nat → Int32) (x y : Int32) : Int32 := @ite _ (v_cok w h c xs ys x y) (Classical.propDecidable _) c (-1)
noncomputable def v_coN (w h c : Int32) (xs ys : Nat → Int32) (x y : Int32) : Int32 := @ite _ (v_cok w h c xs ys x y) (Classical.propDecidable _) (c + 1) c
noncomputable def v_coX (w h c : Int32) (xs ys : Nat → Int32) (x y : Int32) : Nat → Int32 := @ite _ (v_cok w h c xs ys x y) (Classical.propDecidable _) (upd xs c.toNatClampNeg x) xs
noncomputable def v_coY (w h c : Int32) (xs ys : Nat → Int32) (x y : Int32) : Nat → Int32 := @ite _ (v_cok w h c xs ys x y) (Classical.propDecidable _) (upd ys c.toNatClampNeg y) ys
theorem v_coA_pos {w h c x y : Int32} {xs ys : Nat → Int32} (q : v_cok w h c xs ys x y) : v_coA w h c xs ys x y = c := if_pos q
theorem v_coA_neg {w h c x y : Int32} {xs ys : Nat → Int32} (q : ¬ v_cok w h c xs ys x y) : v_coA w h c xs ys x y = (-1) := if_neg q
theorem v_coN_pos {w h c x y : Int32} {xs ys : Nat → Int32} (q : v_cok w h c xs ys x y) : v_coN w h c xs ys x y = c + 1 := if_pos q
theorem v_coN_neg {w h c x y : Int32} {xs ys : Nat → Int32} (q : ¬ v_cok w h c xs ys x y) : v_coN w h c xs ys x y = c := if_neg q
theorem v_coX_pos {w h c x y : Int32} {xs ys : Nat → Int32} (q : v_cok w h c xs ys x y) : v_coX w h c xs ys x y = upd xs c.toNatClampNeg x := if_pos q
theorem v_coX_neg {w h c x y : Int32} {xs ys : Nat → Int32} (q : ¬ v_cok w h c xs ys x y) : v_coX w h c xs ys x y = xs := if_neg q
theorem v_coY_pos {w h c x y : Int32} {xs ys : Nat → Int32} (q : v_cok w h c xs ys x y) : v_coY w h c xs ys x y = upd ys c.toNatClampNeg y := if_pos q
theorem v_coY_neg {w h c x y : Int32} {xs ys : Nat → Int32} (q : ¬ v_cok w h c xs ys x y) : v_coY w h c xs ys x y = ys := if_neg q
theorem z_add1 {c : Int32} (h : (0 : Int) ≤ c.toInt ∧ c.toInt ≤ (1000 : Int)) : (c + 1).toInt = c.toInt + 1 := z_add (a := c.toInt) (b := (1 : Int)) rfl rfl (by omega) (by omega)
def u_s_X6_hasA : List Cond := .code yX6_has cX6_has 1 (some .boolean) :: ([])
set_option maxHeartbeats 4000000 in
set_option maxRecDepth 100000 in
theorem s_X6_hasA (l : Launch) (dC : Nat → ClassId) (dI : Nat → Nat → Nat) (sz : Nat) (p0 : Int32) : Met l yX6_has u_s_X6_hasA ({ frames := 0, cells := 0, slots := 0, locals := 0 }) (va_Pc [.int p0] (z_C (dC, dI) vwCl [] [] sz)) (va_Qi (fun (r : Int32) (_ : Unit) => (r = 1 ∧ (0 ≤ p0.toInt ∧ p0.toInt < 3)) ∨ (r = 0 ∧ ¬ (0 ≤ p0.toInt ∧ p0.toInt < 3))) (fun (_ : Unit) (_ : State) => True) (va_A [] sz)) 0 0 (va_A [] sz) := by
  refine Met.ofW (cc := cX6_has) (maxL := 1) (ret := (some .boolean)) (by decide) rfl ?_
  intro p e s m args below meth c s₁ B hml hv
  obtain ⟨rfl, hsz, hP, hK, hD0⟩ := hv
  have hx := B.exec
  have hb := B.bytes
  have hr := B.returns
  have hts := atoms_spec (ws := u_s_X6_hasA) B.pre
  have hown : s.vm.findClass RX6 = some m.cls := findClass_of_methodNamed B.named
  have hlocks := B.notSynchronized
  subst hsz
  have hD := hD0
  generalize hAe : va_A [] s.heap.size = A
  have hA : ∀ q : Nat, s.heap.size ≤ q → A q := fun q h => by rw [← hAe]; exact Or.inr h
  have hS : va_S A s.heap s.heap [] := va_S.rf
  have hP : va_P (dC, dI) vwCl [] s.heap := hP
  have krr_p0 := z_rng p0
  have hl := lv_entry ([.int p0]) (n := 1) (Nat.le_of_ble_eq_true rfl)
  rw [lg_entry_eq]
  generalize (lg_sl ([.int p0]) ++ List.replicate (1 - (lg_sl ([.int p0])).length) Slot.unset).toArray = ls at hl ⊢
  have hl : lv_has ls 1 [(0, .int p0)] := hl
  refine lv_iload_n hx hb dX6_has_0 rfl (lv_at hl 0 rfl) ?_
  refine lv_if_lt (tgt := 13) hx hb dX6_has_1 (by decide) (fun c_1 => ?_) (fun c_1 => ?_)
  · have k_2 : (p0).toInt < (0 : Int) := z_lt c_1
    refine lv_iconst (v := 0) hx hb dX6_has_13 (by decide) ?_
    refine W.widen (k := 0) (n := 0) (Nat.le_of_ble_eq_true rfl) (Nat.le_of_ble_eq_true rfl) ?_
    exact W.zret (v := 0) hx hb hr (by rfl) (fun t ht hW => ⟨⟨0, (), rfl, (Or.inr (⟨rfl, by first | omega | decide⟩)), trivial⟩, hS.F ht⟩) hS.2.2 dX6_has_14
  · have k_3 : (p0).toInt ≥ (0 : Int) := z_nlt c_1
    refine lv_iload_n hx hb dX6_has_4 rfl (lv_at hl 0 rfl) ?_
    refine lv_iconst (v := 3) hx hb dX6_has_5 (by decide) ?_
    refine lv_icmp_ge (tgt := 13) hx hb dX6_has_6 (by decide) (fun c_4 => ?_) (fun c_4 => ?_)
    · have k_5 : (3 : Int) ≤ (p0).toInt := z_le c_4
      refine lv_iconst (v := 0) hx hb dX6_has_13 (by decide) ?_
      refine W.widen (k := 0) (n := 0) (Nat.le_of_ble_eq_true rfl) (Nat.le_of_ble_eq_true rfl) ?_
      exact W.zret (v := 0) hx hb hr (by rfl) (fun t ht hW => ⟨⟨0, (), rfl, (Or.inr (⟨rfl, by first | omega | decide⟩)), trivial⟩, hS.F ht⟩) hS.2.2 dX6_has_14
    · have k_6 : (3 : Int) > (p0).toInt := z_nle c_4
      refine lv_iconst (v := 1) hx hb dX6_has_9 (by decide) ?_
      refine lv_goto (tgt := 14) hx hb dX6_has_10 (by decide) ?_
      refine W.widen (k := 0) (n := 0) (Nat.le_of_ble_eq_true rfl) (Nat.le_of_ble_eq_true rfl) ?_
      exact W.zret (v := 1) hx hb hr (by rfl) (fun t ht hW => ⟨⟨1, (), rfl, (Or.inl (⟨rfl, by first | omega | decide⟩)), trivial⟩, hS.F ht⟩) hS.2.2 dX6_has_14
def u_s_X12_isReaderA : List Cond := .code yX12_isReader cX12_isReader 1 (some .boolean) :: ([])
set_option maxHeartbeats 4000000 in
set_option maxRecDepth 100000 in
theorem s_X12_isReaderA (l : Launch) (dC : Nat → ClassId) (dI : Nat → Nat → Nat) (sz : Nat) (p0 : Int32) : Met l yX12_isReader u_s_X12_isReaderA ({ frames := 0, cells := 0, slots := 0, locals := 0 }) (va_Pc [.int p0] (z_C (dC, dI) vwCl [] [] sz)) (va_Qi (fun (r : Int32) (_ : Unit) => (r = 1 ∧ (0 ≤ p0.toInt ∧ p0.toInt < 3)) ∨ (r = 0 ∧ ¬ (0 ≤ p0.toInt ∧ p0.toInt < 3))) (fun (_ : Unit) (_ : State) => True) (va_A [] sz)) 0 0 (va_A [] sz) := by
  refine Met.ofW (cc := cX12_isReader) (maxL := 1) (ret := (some .boolean)) (by decide) rfl ?_
  intro p e s m args below meth c s₁ B hml hv
  obtain ⟨rfl, hsz, hP, hK, hD0⟩ := hv
  have hx := B.exec
  have hb := B.bytes
  have hr := B.returns
  have hts := atoms_spec (ws := u_s_X12_isReaderA) B.pre
  have hown : s.vm.findClass RX12 = some m.cls := findClass_of_methodNamed B.named
  have hlocks := B.notSynchronized
  subst hsz
  have hD := hD0
  generalize hAe : va_A [] s.heap.size = A
  have hA : ∀ q : Nat, s.heap.size ≤ q → A q := fun q h => by rw [← hAe]; exact Or.inr h
  have hS : va_S A s.heap s.heap [] := va_S.rf
  have hP : va_P (dC, dI) vwCl [] s.heap := hP
  have krr_p0 := z_rng p0
  have hl := lv_entry ([.int p0]) (n := 1) (Nat.le_of_ble_eq_true rfl)
  rw [lg_entry_eq]
  generalize (lg_sl ([.int p0]) ++ List.replicate (1 - (lg_sl ([.int p0])).length) Slot.unset).toArray = ls at hl ⊢
  have hl : lv_has ls 1 [(0, .int p0)] := hl
  refine lv_iload_n hx hb dX12_isReader_0 rfl (lv_at hl 0 rfl) ?_
  refine lv_if_lt (tgt := 13) hx hb dX12_isReader_1 (by decide) (fun c_1 => ?_) (fun c_1 => ?_)
  · have k_2 : (p0).toInt < (0 : Int) := z_lt c_1
    refine lv_iconst (v := 0) hx hb dX12_isReader_13 (by decide) ?_
    refine W.widen (k := 0) (n := 0) (Nat.le_of_ble_eq_true rfl) (Nat.le_of_ble_eq_true rfl) ?_
    exact W.zret (v := 0) hx hb hr (by rfl) (fun t ht hW => ⟨⟨0, (), rfl, (Or.inr (⟨rfl, by first | omega | decide⟩)), trivial⟩, hS.F ht⟩) hS.2.2 dX12_isReader_14
  · have k_3 : (p0).toInt ≥ (0 : Int) := z_nlt c_1
    refine lv_iload_n hx hb dX12_isReader_4 rfl (lv_at hl 0 rfl) ?_
    refine lv_iconst (v := 3) hx hb dX12_isReader_5 (by decide) ?_
    refine lv_icmp_ge (tgt := 13) hx hb dX12_isReader_6 (by decide) (fun c_4 => ?_) (fun c_4 => ?_)
    · have k_5 : (3 : Int) ≤ (p0).toInt := z_le c_4
      refine lv_iconst (v := 0) hx hb dX12_isReader_13 (by decide) ?_
      refine W.widen (k := 0) (n := 0) (Nat.le_of_ble_eq_true rfl) (Nat.le_of_ble_eq_true rfl) ?_
      exact W.zret (v := 0) hx hb hr (by rfl) (fun t ht hW => ⟨⟨0, (), rfl, (Or.inr (⟨rfl, by first | omega | decide⟩)), trivial⟩, hS.F ht⟩) hS.2.2 dX12_isReader_14
    · have k_6 : (3 : Int) > (p0).toInt := z_nle c_4
      refine lv_iconst (v := 1) hx hb dX12_isReader_9 (by decide) ?_
      refine lv_goto (tgt := 14) hx hb dX12_isReader_10 (by decide) ?_
      refine W.widen (k := 0) (n := 0) (Nat.le_of_ble_eq_true rfl) (Nat.le_of_ble_eq_true rfl) ?_
      exact W.zret (v := 1) hx hb hr (by rfl) (fun t ht hW => ⟨⟨1, (), rfl, (Or.inl (⟨rfl, by first | omega | decide⟩)), trivial⟩, hS.F ht⟩) hS.2.2 dX12_isReader_14
def u_s_X6_areWithinA : List Cond := .code yX6_areWithin cX6_areWithin 5 (some .boolean) :: ([])
set_option maxHeartbeats 4000000 in
set_option maxRecDepth 100000 in
theorem s_X6_areWithinA (l : Launch) (dC : Nat → ClassId) (dI : Nat → Nat → Nat) (sz : Nat) (p0 : Int32) (p1 : Int32) (p2 : Int32) (p3 : Int32) (p4 : Int32) : Met l yX6_areWithin u_s_X6_areWithinA ({ frames := 0, cells := 0, slots := 0, locals := 0 }) (va_Pc [.int p0, .int p1, .int p2, .int p3, .int p4] (z_C (dC, dI) vwCl [] [] sz)) (va_Qi (fun (r : Int32) (_ : Unit) => (r = 1 ∧ (0 ≤ p1.toInt ∧ p1.toInt ≤ p0.toInt ∧ 0 ≤ p2.toInt ∧ p2.toInt ≤ p0.toInt ∧ 0 ≤ p3.toInt ∧ p3.toInt ≤ p0.toInt ∧ 0 ≤ p4.toInt ∧ p4.toInt ≤ p0.toInt)) ∨ (r = 0 ∧ ¬ (0 ≤ p1.toInt ∧ p1.toInt ≤ p0.toInt ∧ 0 ≤ p2.toInt ∧ p2.toInt ≤ p0.toInt ∧ 0 ≤ p3.toInt ∧ p3.toInt ≤ p0.toInt ∧ 0 ≤ p4.toInt ∧ p4.toInt ≤ p0.toInt))) (fun (_ : Unit) (_ : State) => True) (va_A [] sz)) 0 0 (va_A [] sz) := by
  refine Met.ofW (cc := cX6_areWithin) (maxL := 5) (ret := (some .boolean)) (by decide) rfl ?_
  intro p e s m args below meth c s₁ B hml hv
  obtain ⟨rfl, hsz, hP, hK, hD0⟩ := hv
  have hx := B.exec
  have hb := B.bytes
  have hr := B.returns
  have hts := atoms_spec (ws := u_s_X6_areWithinA) B.pre
  have hown : s.vm.findClass RX6 = some m.cls := findClass_of_methodNamed B.named
  have hlocks := B.notSynchronized
  subst hsz
  have hD := hD0
  generalize hAe : va_A [] s.heap.size = A
  have hA : ∀ q : Nat, s.heap.size ≤ q → A q := fun q h => by rw [← hAe]; exact Or.inr h
  have hS : va_S A s.heap s.heap [] := va_S.rf
  have hP : va_P (dC, dI) vwCl [] s.heap := hP
  have krr_p0 := z_rng p0
  have krr_p1 := z_rng p1
  have krr_p2 := z_rng p2
  have krr_p3 := z_rng p3
  have krr_p4 := z_rng p4
  have hl := lv_entry ([.int p0, .int p1, .int p2, .int p3, .int p4]) (n := 5) (Nat.le_of_ble_eq_true rfl)
  rw [lg_entry_eq]
  generalize (lg_sl ([.int p0, .int p1, .int p2, .int p3, .int p4]) ++ List.replicate (5 - (lg_sl ([.int p0, .int p1, .int p2, .int p3, .int p4])).length) Slot.unset).toArray = ls at hl ⊢
  have hl : lv_has ls 5 [(0, .int p0), (1, .int p1), (2, .int p2), (3, .int p3), (4, .int p4)] := hl
  refine lv_iload_n hx hb dX6_areWithin_0 rfl (lv_at hl 1 rfl) ?_
  refine lv_if_lt (tgt := 42) hx hb dX6_areWithin_1 (by decide) (fun c_1 => ?_) (fun c_1 => ?_)
  · have k_2 : (p1).toInt < (0 : Int) := z_lt c_1
    refine lv_iconst (v := 0) hx hb dX6_areWithin_42 (by decide) ?_
    refine W.widen (k := 0) (n := 0) (Nat.le_of_ble_eq_true rfl) (Nat.le_of_ble_eq_true rfl) ?_
    exact W.zret (v := 0) hx hb hr (by rfl) (fun t ht hW => ⟨⟨0, (), rfl, (Or.inr (⟨rfl, by first | omega | decide⟩)), trivial⟩, hS.F ht⟩) hS.2.2 dX6_areWithin_43
  · have k_3 : (p1).toInt ≥ (0 : Int) := z_nlt c_1
    refine lv_iload_n hx hb dX6_areWithin_4 rfl (lv_at hl 1 rfl) ?_
    refine lv_iload_n hx hb dX6_areWithin_5 rfl (lv_at hl 0 rfl) ?_
    refine lv_icmp_gt (tgt := 42) hx hb dX6_areWithin_6 (by decide) (fun c_4 => ?_) (fun c_4 => ?_)
    · have k_5 : (p0).toInt < (p1).toInt := z_lt c_4
      refine lv_iconst (v := 0) hx hb dX6_areWithin_42 (by decide) ?_
      refine W.widen (k := 0) (n := 0) (Nat.le_of_ble_eq_true rfl) (Nat.le_of_ble_eq_true rfl) ?_
      exact W.zret (v := 0) hx hb hr (by rfl) (fun t ht hW => ⟨⟨0, (), rfl, (Or.inr (⟨rfl, by first | omega | decide⟩)), trivial⟩, hS.F ht⟩) hS.2.2 dX6_areWithin_43
    · have k_6 : (p0).toInt ≥ (p1).toInt := z_nlt c_4
      refine lv_iload_n hx hb dX6_areWithin_9 rfl (lv_at hl 2 rfl) ?_
      refine lv_if_lt (tgt := 42) hx hb dX6_areWithin_10 (by decide) (fun c_7 => ?_) (fun c_7 => ?_)
      · have k_8 : (p2).toInt < (0 : Int) := z_lt c_7
        refine lv_iconst (v := 0) hx hb dX6_areWithin_42 (by decide) ?_
        refine W.widen (k := 0) (n := 0) (Nat.le_of_ble_eq_true rfl) (Nat.le_of_ble_eq_true rfl) ?_
        exact W.zret (v := 0) hx hb hr (by rfl) (fun t ht hW => ⟨⟨0, (), rfl, (Or.inr (⟨rfl, by first | omega | decide⟩)), trivial⟩, hS.F ht⟩) hS.2.2 dX6_areWithin_43
      · have k_9 : (p2).toInt ≥ (0 : Int) := z_nlt c_7
        refine lv_iload_n hx hb dX6_areWithin_13 rfl (lv_at hl 2 rfl) ?_
        refine lv_iload_n hx hb dX6_areWithin_14 rfl (lv_at hl 0 rfl) ?_
        refine lv_icmp_gt (tgt := 42) hx hb dX6_areWithin_15 (by decide) (fun c_10 => ?_) (fun c_10 => ?_)
        · have k_11 : (p0).toInt < (p2).toInt := z_lt c_10
          refine lv_iconst (v := 0) hx hb dX6_areWithin_42 (by decide) ?_
          refine W.widen (k := 0) (n := 0) (Nat.le_of_ble_eq_true rfl) (Nat.le_of_ble_eq_true rfl) ?_
          exact W.zret (v := 0) hx hb hr (by rfl) (fun t ht hW => ⟨⟨0, (), rfl, (Or.inr (⟨rfl, by first | omega | decide⟩)), trivial⟩, hS.F ht⟩) hS.2.2 dX6_areWithin_43
        · have k_12 : (p0).toInt ≥ (p2).toInt := z_nlt c_10
          refine lv_iload_n hx hb dX6_areWithin_18 rfl (lv_at hl 3 rfl) ?_
          refine lv_if_lt (tgt := 42) hx hb dX6_areWithin_19 (by decide) (fun c_13 => ?_) (fun c_13 => ?_)
          · have k_14 : (p3).toInt < (0 : Int) := z_lt c_13
            refine lv_iconst (v := 0) hx hb dX6_areWithin_42 (by decide) ?_
            refine W.widen (k := 0) (n := 0) (Nat.le_of_ble_eq_true rfl) (Nat.le_of_ble_eq_true rfl) ?_
            exact W.zret (v := 0) hx hb hr (by rfl) (fun t ht hW => ⟨⟨0, (), rfl, (Or.inr (⟨rfl, by first | omega | decide⟩)), trivial⟩, hS.F ht⟩) hS.2.2 dX6_areWithin_43
          · have k_15 : (p3).toInt ≥ (0 : Int) := z_nlt c_13
            refine lv_iload_n hx hb dX6_areWithin_22 rfl (lv_at hl 3 rfl) ?_
            refine lv_iload_n hx hb dX6_areWithin_23 rfl (lv_at hl 0 rfl) ?_
            refine lv_icmp_gt (tgt := 42) hx hb dX6_areWithin_24 (by decide) (fun c_16 => ?_) (fun c_16 => ?_)
            · have k_17 : (p0).toInt < (p3).toInt := z_lt c_16
              refine lv_iconst (v := 0) hx hb dX6_areWithin_42 (by decide) ?_
              refine W.widen (k := 0) (n := 0) (Nat.le_of_ble_eq_true rfl) (Nat.le_of_ble_eq_true rfl) ?_
              exact W.zret (v := 0) hx hb hr (by rfl) (fun t ht hW => ⟨⟨0, (), rfl, (Or.inr (⟨rfl, by first | omega | decide⟩)), trivial⟩, hS.F ht⟩) hS.2.2 dX6_areWithin_43
            · have k_18 : (p0).toInt ≥ (p3).toInt := z_nlt c_16
              refine lv_iload hx hb dX6_areWithin_27 (lv_at hl 4 rfl) ?_
              refine lv_if_lt (tgt := 42) hx hb dX6_areWithin_29 (by decide) (fun c_19 => ?_) (fun c_19 => ?_)
              · have k_20 : (p4).toInt < (0 : Int) := z_lt c_19
                refine lv_iconst (v := 0) hx hb dX6_areWithin_42 (by decide) ?_
                refine W.widen (k := 0) (n := 0) (Nat.le_of_ble_eq_true rfl) (Nat.le_of_ble_eq_true rfl) ?_
                exact W.zret (v := 0) hx hb hr (by rfl) (fun t ht hW => ⟨⟨0, (), rfl, (Or.inr (⟨rfl, by first | omega | decide⟩)), trivial⟩, hS.F ht⟩) hS.2.2 dX6_areWithin_43
              · have k_21 : (p4).toInt ≥ (0 : Int) := z_nlt c_19
                refine lv_iload hx hb dX6_areWithin_32 (lv_at hl 4 rfl) ?_
                refine lv_iload_n hx hb dX6_areWithin_34 rfl (lv_at hl 0 rfl) ?_
                refine lv_icmp_gt (tgt := 42) hx hb dX6_areWithin_35 (by decide) (fun c_22 => ?_) (fun c_22 => ?_)
                · have k_23 : (p0).toInt < (p4).toInt := z_lt c_22
                  refine lv_iconst (v := 0) hx hb dX6_areWithin_42 (by decide) ?_
                  refine W.widen (k := 0) (n := 0) (Nat.le_of_ble_eq_true rfl) (Nat.le_of_ble_eq_true rfl) ?_
                  exact W.zret (v := 0) hx hb hr (by rfl) (fun t ht hW => ⟨⟨0, (), rfl, (Or.inr (⟨rfl, by first | omega | decide⟩)), trivial⟩, hS.F ht⟩) hS.2.2 dX6_areWithin_43
                · have k_24 : (p0).toInt ≥ (p4).toInt := z_nlt c_22
                  refine lv_iconst (v := 1) hx hb dX6_areWithin_38 (by decide) ?_
                  refine lv_goto (tgt := 43) hx hb dX6_areWithin_39 (by decide) ?_
                  refine W.widen (k := 0) (n := 0) (Nat.le_of_ble_eq_true rfl) (Nat.le_of_ble_eq_true rfl) ?_
                  exact W.zret (v := 1) hx hb hr (by rfl) (fun t ht hW => ⟨⟨1, (), rfl, (Or.inl (⟨rfl, by first | omega | decide⟩)), trivial⟩, hS.F ht⟩) hS.2.2 dX6_areWithin_43
def u_s_X11_readsA : List Cond := .code yX11_reads cX11_reads 7 (some .boolean) :: ([.methodLink RX11 234 yX6_has, .static yX6_has, .initialized RX6, .code yX6_has cX6_has 1 (some .boolean), .methodLink RX11 237 yX6_areWithin, .static yX6_areWithin, .code yX6_areWithin cX6_areWithin 5 (some .boolean), .fieldLink RX11 49 "ShellHeap" "readers" "LShellHeap$Readers;", .methodLink RX11 241 yX6_setRow, .instanceMethod yX6_setRow, .selects RX6 yX6_setRow yX6_setRow, .code yX6_setRow cX6_setRow 8 none, .fieldLink RX6 11 "ShellHeap$Readers" "rows" "[I"] ++ wsX110 ++ wsX60)
set_option maxRecDepth 20000 in
theorem gw_s_X11_readsA_s_X6_hasA_234 : GoodIn u_s_X11_readsA (va_wsS RX11 234 yX6_has u_s_X6_hasA) := z_gr _ [1, 2, 3, 4] rfl (by decide +kernel)
set_option maxRecDepth 20000 in
theorem gw_s_X11_readsA_s_X6_areWithinA_237 : GoodIn u_s_X11_readsA (va_wsS RX11 237 yX6_areWithin u_s_X6_areWithinA) := z_gr _ [5, 6, 3, 7] rfl (by decide +kernel)
set_option maxRecDepth 20000 in
theorem gw_s_X11_readsA_s_X6_setRow_241 : GoodIn u_s_X11_readsA (wsV RX11 241 RX6 yX6_setRow u_s_X6_setRow) := z_gr _ [9, 10, 11, 3, 12, 13, 24, 25, 26, 27, 28, 29, 30] rfl (by decide +kernel)
set_option maxHeartbeats 4000000 in
set_option maxRecDepth 100000 in
theorem s_X11_readsA (l : Launch) (dC : Nat → ClassId) (dI : Nat → Nat → Nat) (sz : Nat) (h0 : Nat) (p1 : Int32) (p2 : Int32) (p3 : Int32) (p4 : Int32) (p5 : Int32) (p6 : Int32) (h0_0 : Value) (h0_1 : Value) (h0_2 : Value) (h0_3 : Value) (h0_4 : Value) (hrd : Nat) (h0_6 : Value) (h0_7 : Value) (h0_8 : Value) (h0_9 : Value) (h1 : Nat) (hrd_1 : Value) (hrd_2 : Value) (hrd_3 : Value) (hrd_4 : Value) (hrd_5 : Value) (hrd_6 : Value) (ch1 : ClassId) (fh1 : Nat → Int32) : Met l yX11_reads u_s_X11_readsA ({ frames := 1, cells := 0, slots := 0, locals := 27 }) (va_Pc [.ref h0, .int p1, .int p2, .int p3, .int p4, .int p5, .int p6] (z_C (dC, dI) vwCl [(h0, .inr (11, [h0_0, h0_1, h0_2, h0_3, h0_4, .ref hrd, h0_6, h0_7, h0_8, h0_9])), (hrd, .inr (6, [.ref h1, hrd_1, hrd_2, hrd_3, hrd_4, hrd_5, hrd_6])), (h1, .inl (ch1, 48, .inl fh1))] [(ch1, .int)] sz)) (va_Qi (fun (r : Int32) (_ : Unit) => r = v_reads p1 p2 p3 p4 p5 p6) (fun (_ : Unit) (t : State) => ∃ (g_h1 : Nat → Int32), va_P (dC, dI) vwCl [(h0, .inr (11, [h0_0, h0_1, h0_2, h0_3, h0_4, .ref hrd, h0_6, h0_7, h0_8, h0_9])), (hrd, .inr (6, [.ref h1, hrd_1, hrd_2, hrd_3, hrd_4, hrd_5, hrd_6])), (h1, .inl (ch1, 48, .inl g_h1))] t.heap ∧ va_K (dC, dI) vwCl [] t ∧ va_D (va_A [(h0, .inr (11, [h0_0, h0_1, h0_2, h0_3, h0_4, .ref hrd, h0_6, h0_7, h0_8, h0_9])), (hrd, .inr (6, [.ref h1, hrd_1, hrd_2, hrd_3, hrd_4, hrd_5, hrd_6])), (h1, .inl (ch1, 48, .inl fh1))] sz) [(h0, .inr (11, [h0_0, h0_1, h0_2, h0_3, h0_4, .ref hrd, h0_6, h0_7, h0_8, h0_9])), (hrd, .inr (6, [.ref h1, hrd_1, hrd_2, hrd_3, hrd_4, hrd_5, hrd_6])), (h1, .inl (ch1, 48, .inl g_h1))]) (va_A [(h0, .inr (11, [h0_0, h0_1, h0_2, h0_3, h0_4, .ref hrd, h0_6, h0_7, h0_8, h0_9])), (hrd, .inr (6, [.ref h1, hrd_1, hrd_2, hrd_3, hrd_4, hrd_5, hrd_6])), (h1, .inl (ch1, 48, .inl fh1))] sz)) 0 0 (va_A [(h0, .inr (11, [h0_0, h0_1, h0_2, h0_3, h0_4, .ref hrd, h0_6, h0_7, h0_8, h0_9])), (hrd, .inr (6, [.ref h1, hrd_1, hrd_2, hrd_3, hrd_4, hrd_5, hrd_6])), (h1, .inl (ch1, 48, .inl fh1))] sz) := by
  refine Met.ofW (cc := cX11_reads) (maxL := 7) (ret := (some .boolean)) (by decide) rfl ?_
  intro p e s m args below meth c s₁ B hml hv
  obtain ⟨rfl, hsz, hP, hK, hD0⟩ := hv
  have hx := B.exec
  have hb := B.bytes
  have hr := B.returns
  have hts := atoms_spec (ws := u_s_X11_readsA) B.pre
  have hown : s.vm.findClass RX11 = some m.cls := findClass_of_methodNamed B.named
  have hlocks := B.notSynchronized
  subst hsz
  have hD := hD0.self (sz := s.heap.size)
  generalize hAe : va_A [(h0, .inr (11, [h0_0, h0_1, h0_2, h0_3, h0_4, .ref hrd, h0_6, h0_7, h0_8, h0_9])), (hrd, .inr (6, [.ref h1, hrd_1, hrd_2, hrd_3, hrd_4, hrd_5, hrd_6])), (h1, .inl (ch1, 48, .inl fh1))] s.heap.size = A at hD ⊢
  have hA : ∀ q : Nat, s.heap.size ≤ q → A q := fun q h => by rw [← hAe]; exact Or.inr h
  have hS : va_S A s.heap s.heap [] := va_S.rf
  have hP : va_P (dC, dI) vwCl [(h0, .inr (11, [h0_0, h0_1, h0_2, h0_3, h0_4, .ref hrd, h0_6, h0_7, h0_8, h0_9])), (hrd, .inr (6, [.ref h1, hrd_1, hrd_2, hrd_3, hrd_4, hrd_5, hrd_6])), (h1, .inl (ch1, 48, .inl fh1))] s.heap := hP
  have w__fieldLink_RX11_49_ShellHeap_readers_LShellHeap_Readers_ := hts (.fieldLink RX11 49 "ShellHeap" "readers" "LShellHeap$Readers;") (by decide +kernel)
  have hiX11 := show ∀ w ∈ u_ws RX11 TX11 10, w ∈ u_s_X11_readsA by decide +kernel
  have krr_p1 := z_rng p1
  have krr_p2 := z_rng p2
  have krr_p3 := z_rng p3
  have krr_p4 := z_rng p4
  have krr_p5 := z_rng p5
  have krr_p6 := z_rng p6
  have hl := lv_entry ([.ref h0, .int p1, .int p2, .int p3, .int p4, .int p5, .int p6]) (n := 7) (Nat.le_of_ble_eq_true rfl)
  rw [lg_entry_eq]
  generalize (lg_sl ([.ref h0, .int p1, .int p2, .int p3, .int p4, .int p5, .int p6]) ++ List.replicate (7 - (lg_sl ([.ref h0, .int p1, .int p2, .int p3, .int p4, .int p5, .int p6])).length) Slot.unset).toArray = ls at hl ⊢
  have hl : lv_has ls 7 [(0, .ref h0), (1, .int p1), (2, .int p2), (3, .int p3), (4, .int p4), (5, .int p5), (6, .int p6)] := hl
  refine lv_iload_n hx hb dX11_reads_0 rfl (lv_at hl 1 rfl) ?_
  have hPc := hP.sub (ws' := []) [] rfl
  have hDc := hD.sub (ws' := []) [] (by decide) rfl
  have hKc := hK.sub (tys' := []) [] rfl
  have hFc := va_free (ws := []) (wc := []) (z_D0 _) hS hA [] rfl
  refine va_calli (va_runS (As := [.int p1]) (rest := []) ⟨hx, hb, hml, hown, hts⟩ (s_X6_hasA l dC dI s.heap.size p1) (va_cwS 1 hts gw_s_X11_readsA_s_X6_hasA_234 rfl rfl rfl (by decide +kernel) ⟨Nat.le_of_ble_eq_true rfl, Nat.le_of_ble_eq_true rfl⟩) ⟨z_blind, z_pre hPc hKc hDc⟩ rfl rfl hl.1 rfl (lv_room (Nat.le_of_ble_eq_true rfl)) dX11_reads_1 ⟨Nat.le_of_ble_eq_true rfl, Nat.le_of_ble_eq_true rfl⟩) hS (fun q _ h => hFc q h) hFc (fun r_2 u t H_1 locs ht hvm hw_3 hB hz1 hk1 hS => ?_)
  have hP := z_pure hP hk1
  have hP : va_P (dC, dI) vwCl [(h0, .inr (11, [h0_0, h0_1, h0_2, h0_3, h0_4, .ref hrd, h0_6, h0_7, h0_8, h0_9])), (hrd, .inr (6, [.ref h1, hrd_1, hrd_2, hrd_3, hrd_4, hrd_5, hrd_6])), (h1, .inl (ch1, 48, .inl fh1))] H_1 := hP
  have hD : va_D A [(h0, .inr (11, [h0_0, h0_1, h0_2, h0_3, h0_4, .ref hrd, h0_6, h0_7, h0_8, h0_9])), (hrd, .inr (6, [.ref h1, hrd_1, hrd_2, hrd_3, hrd_4, hrd_5, hrd_6])), (h1, .inl (ch1, 48, .inl fh1))] := hD
  clear hPc hDc hKc
  rcases hw_3 with ⟨rfl, hw_3⟩ | ⟨rfl, hw_3⟩
  · have hw_3 : (0 ≤ p1.toInt ∧ p1.toInt < 3) := hw_3
    refine lv_if_eq (tgt := 16) hx hb dX11_reads_4 (by decide) (fun c_4 => absurd c_4 (by decide)) (fun _ => ?_)
    refine lv_iload_n hx hb dX11_reads_7 rfl (lv_at hl 2 rfl) ?_
    refine lv_if_lt (tgt := 16) hx hb dX11_reads_8 (by decide) (fun c_5 => ?_) (fun c_5 => ?_)
    · have k_6 : (p2).toInt < (0 : Int) := z_lt c_5
      refine lv_iconst (v := 0) hx hb dX11_reads_16 (by decide) ?_
      have hP9 := hP.sub (ws' := [(h0, .inr (11, [h0_0, h0_1, h0_2, h0_3, h0_4, .ref hrd, h0_6, h0_7, h0_8, h0_9])), (hrd, .inr (6, [.ref h1, hrd_1, hrd_2, hrd_3, hrd_4, hrd_5, hrd_6])), (h1, .inl (ch1, 48, .inl fh1))]) [0, 1, 2] rfl
      have hD9 := hD.sub (ws' := [(h0, .inr (11, [h0_0, h0_1, h0_2, h0_3, h0_4, .ref hrd, h0_6, h0_7, h0_8, h0_9])), (hrd, .inr (6, [.ref h1, hrd_1, hrd_2, hrd_3, hrd_4, hrd_5, hrd_6])), (h1, .inl (ch1, 48, .inl fh1))]) [0, 1, 2] (by decide) rfl
      have hK9 := hK.sub (tys' := []) [] rfl
      refine W.widen (k := 0) (n := 0) (Nat.le_of_ble_eq_true rfl) (Nat.le_of_ble_eq_true rfl) ?_
      exact W.zret (v := 0) hx hb hr (by rfl) (fun t ht hW => ⟨⟨0, (), rfl, (show 0 = v_reads p1 p2 p3 p4 p5 p6 by unfold v_reads; rw [if_neg (by omega)]), ⟨fh1, by rw [ht]; exact hP9, va_K.moved hW.alike hK9, hD9⟩⟩, hS.F ht⟩) hS.2.2 dX11_reads_17
    · have k_7 : (p2).toInt ≥ (0 : Int) := z_nlt c_5
      refine lv_iload_n hx hb dX11_reads_11 rfl (lv_at hl 2 rfl) ?_
      refine lv_iconst (v := 4) hx hb dX11_reads_12 (by decide) ?_
      refine lv_icmp_lt (tgt := 18) hx hb dX11_reads_13 (by decide) (fun c_8 => ?_) (fun c_8 => ?_)
      · have k_9 : (p2).toInt < (4 : Int) := z_lt c_8
        refine lv_bipush (v := 16) hx hb dX11_reads_18 (by decide) ?_
        refine lv_iload_n hx hb dX11_reads_20 rfl (lv_at hl 3 rfl) ?_
        refine lv_iload hx hb dX11_reads_21 (lv_at hl 4 rfl) ?_
        refine lv_iload hx hb dX11_reads_23 (lv_at hl 5 rfl) ?_
        refine lv_iload hx hb dX11_reads_25 (lv_at hl 6 rfl) ?_
        have hPc := hP.sub (ws' := []) [] rfl
        have hDc := hD.sub (ws' := []) [] (by decide) rfl
        have hKc := hK.sub (tys' := []) [] rfl
        have hFc := va_free (ws := []) (wc := []) (z_D0 _) hS hA [] rfl
        refine va_calli (va_runS (As := [.int 16, .int p3, .int p4, .int p5, .int p6]) (rest := []) ⟨hx, hb, hml, hown, hts⟩ (s_X6_areWithinA l dC dI H_1.size 16 p3 p4 p5 p6) (va_cwS 5 hts gw_s_X11_readsA_s_X6_areWithinA_237 rfl rfl rfl (by decide +kernel) ⟨Nat.le_of_ble_eq_true rfl, Nat.le_of_ble_eq_true rfl⟩) ⟨z_blind, z_pre hPc hKc hDc⟩ rfl rfl hl.1 rfl (lv_room (Nat.le_of_ble_eq_true rfl)) dX11_reads_27 ⟨Nat.le_of_ble_eq_true rfl, Nat.le_of_ble_eq_true rfl⟩) hS (fun q _ h => hFc q h) hFc (fun r_11 u t H_10 locs ht hvm hw_12 hB hz1 hk1 hS => ?_)
        have hP := z_pure hP hk1
        have hP : va_P (dC, dI) vwCl [(h0, .inr (11, [h0_0, h0_1, h0_2, h0_3, h0_4, .ref hrd, h0_6, h0_7, h0_8, h0_9])), (hrd, .inr (6, [.ref h1, hrd_1, hrd_2, hrd_3, hrd_4, hrd_5, hrd_6])), (h1, .inl (ch1, 48, .inl fh1))] H_10 := hP
        have hD : va_D A [(h0, .inr (11, [h0_0, h0_1, h0_2, h0_3, h0_4, .ref hrd, h0_6, h0_7, h0_8, h0_9])), (hrd, .inr (6, [.ref h1, hrd_1, hrd_2, hrd_3, hrd_4, hrd_5, hrd_6])), (h1, .inl (ch1, 48, .inl fh1))] := hD
        clear hPc hDc hKc
        rcases hw_12 with ⟨rfl, hw_12⟩ | ⟨rfl, hw_12⟩
        · have hw_12 : (0 ≤ p3.toInt ∧ p3.toInt ≤ (16 : Int) ∧ 0 ≤ p4.toInt ∧ p4.toInt ≤ (16 : Int) ∧ 0 ≤ p5.toInt ∧ p5.toInt ≤ (16 : Int) ∧ 0 ≤ p6.toInt ∧ p6.toInt ≤ (16 : Int)) := hw_12
          refine lv_if_eq (tgt := 48) hx hb dX11_reads_30 (by decide) (fun c_13 => absurd c_13 (by decide)) (fun _ => ?_)
          refine lv_iload_n hx hb dX11_reads_33 rfl (lv_at hl 3 rfl) ?_
          refine lv_iload hx hb dX11_reads_34 (lv_at hl 4 rfl) ?_
          refine lv_iadd hx hb dX11_reads_36 ?_
          refine lv_topi (fun z_14 ez_14 => ?_)
          refine lv_iload hx hb dX11_reads_37 (lv_at hl 5 rfl) ?_
          refine lv_iadd hx hb dX11_reads_39 ?_
          refine lv_topi (fun z_15 ez_15 => ?_)
          refine lv_iload hx hb dX11_reads_40 (lv_at hl 6 rfl) ?_
          refine lv_iadd hx hb dX11_reads_42 ?_
          refine lv_topi (fun z_16 ez_16 => ?_)
          refine lv_bipush (v := 16) hx hb dX11_reads_43 (by decide) ?_
          refine lv_icmp_eq (tgt := 50) hx hb dX11_reads_45 (by decide) (fun c_17 => ?_) (fun c_17 => ?_)
          · have k_18 : (z_16).toInt = (16 : Int) := z_eq c_17
            obtain rfl : z_16 = 16 := z_eq' (show (z_16).toInt = (16 : Int) by omega)
            refine lv_aload_n hx hb dX11_reads_50 rfl (lv_at hl 0 rfl) ?_
            refine va_get (D := (dC, dI)) (ci := 11) (v := .ref hrd) (C := RX11) (T := TX11) (N := 10) hx hb hts hiX11 hown hK hP 0 rfl rfl 5 (by decide) w__fieldLink_RX11_49_ShellHeap_readers_LShellHeap_Readers_ (fun _ h9 => h9) rfl dX11_reads_51 ?_
            refine lv_iload_n hx hb dX11_reads_54 rfl (lv_at hl 1 rfl) ?_
            refine lv_iload_n hx hb dX11_reads_55 rfl (lv_at hl 2 rfl) ?_
            refine lv_iload_n hx hb dX11_reads_56 rfl (lv_at hl 3 rfl) ?_
            refine lv_iload hx hb dX11_reads_57 (lv_at hl 4 rfl) ?_
            refine lv_iload hx hb dX11_reads_59 (lv_at hl 5 rfl) ?_
            refine lv_iload hx hb dX11_reads_61 (lv_at hl 6 rfl) ?_
            have hPc := hP.sub (ws' := [(hrd, .inr (6, [.ref h1, hrd_1, hrd_2, hrd_3, hrd_4, hrd_5, hrd_6])), (h1, .inl (ch1, 48, .inl fh1))]) [1, 2] rfl
            have hDc := hD.sub (ws' := [(hrd, .inr (6, [.ref h1, hrd_1, hrd_2, hrd_3, hrd_4, hrd_5, hrd_6])), (h1, .inl (ch1, 48, .inl fh1))]) [1, 2] (by decide) rfl
            have hKc := hK.sub (tys' := [(ch1, .int)]) [0] rfl
            have hFc := va_free (wc := [(hrd, .inr (6, [.ref h1, hrd_1, hrd_2, hrd_3, hrd_4, hrd_5, hrd_6])), (h1, .inl (ch1, 48, .inl fh1))]) hD hS hA [1, 2] rfl
            refine va_callv (va_runV (As := [.int p1, .int p2, .int p3, .int p4, .int p5, .int p6]) (rest := []) ⟨hx, hb, hml, hown, hts⟩ (s_X6_setRow l dC dI H_10.size hrd p1 p2 p3 p4 p5 p6 h1 hrd_1 hrd_2 hrd_3 hrd_4 hrd_5 hrd_6 ch1 fh1 (by first | omega | decide) (by first | omega | decide)) (cwV 6 hts gw_s_X11_readsA_s_X6_setRow_241 rfl rfl rfl (by decide +kernel) ⟨Nat.le_of_ble_eq_true rfl, Nat.le_of_ble_eq_true rfl⟩) ⟨z_blind, va_recv hKc hPc (ci := 6) (q0 := 0) rfl rfl, z_pre hPc hKc hDc⟩ rfl rfl hl.1 rfl (lv_room (Nat.le_of_ble_eq_true rfl)) dX11_reads_63 ⟨Nat.le_of_ble_eq_true rfl, Nat.le_of_ble_eq_true rfl⟩) hS (fun q _ h => hFc q h) hFc (fun u t H_20 locs ht hvm hw_22 hB hz1 hk1 hS => ?_)
            obtain ⟨g_h1_23, hP1, hK1, hD1⟩ := hB
            rw [ht] at hP1
            have hK1 := va_K.moved hvm.symm hK1
            obtain ⟨hP, hD⟩ := va_join (wr := [(h0, .inr (11, [h0_0, h0_1, h0_2, h0_3, h0_4, .ref hrd, h0_6, h0_7, h0_8, h0_9]))]) (w1 := [(hrd, .inr (6, [.ref h1, hrd_1, hrd_2, hrd_3, hrd_4, hrd_5, hrd_6])), (h1, .inl (ch1, 48, .inl g_h1_23))]) hP hD [1, 2] [0] rfl rfl (by decide) (by decide) hk1 hFc hP1 hD1
            have hP : va_P (dC, dI) vwCl [(h0, .inr (11, [h0_0, h0_1, h0_2, h0_3, h0_4, .ref hrd, h0_6, h0_7, h0_8, h0_9])), (hrd, .inr (6, [.ref h1, hrd_1, hrd_2, hrd_3, hrd_4, hrd_5, hrd_6])), (h1, .inl (ch1, 48, .inl g_h1_23))] H_20 := hP
            have hD : va_D A [(h0, .inr (11, [h0_0, h0_1, h0_2, h0_3, h0_4, .ref hrd, h0_6, h0_7, h0_8, h0_9])), (hrd, .inr (6, [.ref h1, hrd_1, hrd_2, hrd_3, hrd_4, hrd_5, hrd_6])), (h1, .inl (ch1, 48, .inl g_h1_23))] := hD
            clear hPc hDc hKc
            refine lv_iconst (v := 1) hx hb dX11_reads_66 (by decide) ?_
            have hP9 := hP.sub (ws' := [(h0, .inr (11, [h0_0, h0_1, h0_2, h0_3, h0_4, .ref hrd, h0_6, h0_7, h0_8, h0_9])), (hrd, .inr (6, [.ref h1, hrd_1, hrd_2, hrd_3, hrd_4, hrd_5, hrd_6])), (h1, .inl (ch1, 48, .inl g_h1_23))]) [0, 1, 2] rfl
            have hD9 := hD.sub (ws' := [(h0, .inr (11, [h0_0, h0_1, h0_2, h0_3, h0_4, .ref hrd, h0_6, h0_7, h0_8, h0_9])), (hrd, .inr (6, [.ref h1, hrd_1, hrd_2, hrd_3, hrd_4, hrd_5, hrd_6])), (h1, .inl (ch1, 48, .inl g_h1_23))]) [0, 1, 2] (by decide) rfl
            have hK9 := hK.sub (tys' := []) [] rfl
            refine W.widen (k := 0) (n := 0) (Nat.le_of_ble_eq_true rfl) (Nat.le_of_ble_eq_true rfl) ?_
            exact W.zret (v := 1) hx hb hr (by rfl) (fun t ht hW => ⟨⟨1, (), rfl, (show 1 = v_reads p1 p2 p3 p4 p5 p6 by unfold v_reads; rw [← ez_14, ← ez_15, ← ez_16, if_pos (by omega)]), ⟨g_h1_23, by rw [ht]; exact hP9, va_K.moved hW.alike hK9, hD9⟩⟩, hS.F ht⟩) hS.2.2 dX11_reads_67
          · have k_24 : (z_16).toInt ≠ (16 : Int) := z_ne c_17
            refine lv_iconst (v := 0) hx hb dX11_reads_48 (by decide) ?_
            have hP9 := hP.sub (ws' := [(h0, .inr (11, [h0_0, h0_1, h0_2, h0_3, h0_4, .ref hrd, h0_6, h0_7, h0_8, h0_9])), (hrd, .inr (6, [.ref h1, hrd_1, hrd_2, hrd_3, hrd_4, hrd_5, hrd_6])), (h1, .inl (ch1, 48, .inl fh1))]) [0, 1, 2] rfl
            have hD9 := hD.sub (ws' := [(h0, .inr (11, [h0_0, h0_1, h0_2, h0_3, h0_4, .ref hrd, h0_6, h0_7, h0_8, h0_9])), (hrd, .inr (6, [.ref h1, hrd_1, hrd_2, hrd_3, hrd_4, hrd_5, hrd_6])), (h1, .inl (ch1, 48, .inl fh1))]) [0, 1, 2] (by decide) rfl
            have hK9 := hK.sub (tys' := []) [] rfl
            refine W.widen (k := 0) (n := 0) (Nat.le_of_ble_eq_true rfl) (Nat.le_of_ble_eq_true rfl) ?_
            exact W.zret (v := 0) hx hb hr (by rfl) (fun t ht hW => ⟨⟨0, (), rfl, (show 0 = v_reads p1 p2 p3 p4 p5 p6 by unfold v_reads; rw [← ez_14, ← ez_15, ← ez_16, if_neg (by omega)]), ⟨fh1, by rw [ht]; exact hP9, va_K.moved hW.alike hK9, hD9⟩⟩, hS.F ht⟩) hS.2.2 dX11_reads_49
        · have hw_12 : ¬ (0 ≤ p3.toInt ∧ p3.toInt ≤ (16 : Int) ∧ 0 ≤ p4.toInt ∧ p4.toInt ≤ (16 : Int) ∧ 0 ≤ p5.toInt ∧ p5.toInt ≤ (16 : Int) ∧ 0 ≤ p6.toInt ∧ p6.toInt ≤ (16 : Int)) := hw_12
          refine lv_if_eq (tgt := 48) hx hb dX11_reads_30 (by decide) (fun _ => ?_) (fun c_25 => absurd (by decide) c_25)
          refine lv_iconst (v := 0) hx hb dX11_reads_48 (by decide) ?_
          have hP9 := hP.sub (ws' := [(h0, .inr (11, [h0_0, h0_1, h0_2, h0_3, h0_4, .ref hrd, h0_6, h0_7, h0_8, h0_9])), (hrd, .inr (6, [.ref h1, hrd_1, hrd_2, hrd_3, hrd_4, hrd_5, hrd_6])), (h1, .inl (ch1, 48, .inl fh1))]) [0, 1, 2] rfl
          have hD9 := hD.sub (ws' := [(h0, .inr (11, [h0_0, h0_1, h0_2, h0_3, h0_4, .ref hrd, h0_6, h0_7, h0_8, h0_9])), (hrd, .inr (6, [.ref h1, hrd_1, hrd_2, hrd_3, hrd_4, hrd_5, hrd_6])), (h1, .inl (ch1, 48, .inl fh1))]) [0, 1, 2] (by decide) rfl
          have hK9 := hK.sub (tys' := []) [] rfl
          refine W.widen (k := 0) (n := 0) (Nat.le_of_ble_eq_true rfl) (Nat.le_of_ble_eq_true rfl) ?_
          exact W.zret (v := 0) hx hb hr (by rfl) (fun t ht hW => ⟨⟨0, (), rfl, (show 0 = v_reads p1 p2 p3 p4 p5 p6 by unfold v_reads; rw [if_neg (by omega)]), ⟨fh1, by rw [ht]; exact hP9, va_K.moved hW.alike hK9, hD9⟩⟩, hS.F ht⟩) hS.2.2 dX11_reads_49
      · have k_26 : (p2).toInt ≥ (4 : Int) := z_nlt c_8
        refine lv_iconst (v := 0) hx hb dX11_reads_16 (by decide) ?_
        have hP9 := hP.sub (ws' := [(h0, .inr (11, [h0_0, h0_1, h0_2, h0_3, h0_4, .ref hrd, h0_6, h0_7, h0_8, h0_9])), (hrd, .inr (6, [.ref h1, hrd_1, hrd_2, hrd_3, hrd_4, hrd_5, hrd_6])), (h1, .inl (ch1, 48, .inl fh1))]) [0, 1, 2] rfl
        have hD9 := hD.sub (ws' := [(h0, .inr (11, [h0_0, h0_1, h0_2, h0_3, h0_4, .ref hrd, h0_6, h0_7, h0_8, h0_9])), (hrd, .inr (6, [.ref h1, hrd_1, hrd_2, hrd_3, hrd_4, hrd_5, hrd_6])), (h1, .inl (ch1, 48, .inl fh1))]) [0, 1, 2] (by decide) rfl
        have hK9 := hK.sub (tys' := []) [] rfl
        refine W.widen (k := 0) (n := 0) (Nat.le_of_ble_eq_true rfl) (Nat.le_of_ble_eq_true rfl) ?_
        exact W.zret (v := 0) hx hb hr (by rfl) (fun t ht hW => ⟨⟨0, (), rfl, (show 0 = v_reads p1 p2 p3 p4 p5 p6 by unfold v_reads; rw [if_neg (by omega)]), ⟨fh1, by rw [ht]; exact hP9, va_K.moved hW.alike hK9, hD9⟩⟩, hS.F ht⟩) hS.2.2 dX11_reads_17
  · have hw_3 : ¬ (0 ≤ p1.toInt ∧ p1.toInt < 3) := hw_3
    refine lv_if_eq (tgt := 16) hx hb dX11_reads_4 (by decide) (fun _ => ?_) (fun c_27 => absurd (by decide) c_27)
    refine lv_iconst (v := 0) hx hb dX11_reads_16 (by decide) ?_
    have hP9 := hP.sub (ws' := [(h0, .inr (11, [h0_0, h0_1, h0_2, h0_3, h0_4, .ref hrd, h0_6, h0_7, h0_8, h0_9])), (hrd, .inr (6, [.ref h1, hrd_1, hrd_2, hrd_3, hrd_4, hrd_5, hrd_6])), (h1, .inl (ch1, 48, .inl fh1))]) [0, 1, 2] rfl
    have hD9 := hD.sub (ws' := [(h0, .inr (11, [h0_0, h0_1, h0_2, h0_3, h0_4, .ref hrd, h0_6, h0_7, h0_8, h0_9])), (hrd, .inr (6, [.ref h1, hrd_1, hrd_2, hrd_3, hrd_4, hrd_5, hrd_6])), (h1, .inl (ch1, 48, .inl fh1))]) [0, 1, 2] (by decide) rfl
    have hK9 := hK.sub (tys' := []) [] rfl
    refine W.widen (k := 0) (n := 0) (Nat.le_of_ble_eq_true rfl) (Nat.le_of_ble_eq_true rfl) ?_
    exact W.zret (v := 0) hx hb hr (by rfl) (fun t ht hW => ⟨⟨0, (), rfl, (show 0 = v_reads p1 p2 p3 p4 p5 p6 by unfold v_reads; rw [if_neg (by omega)]), ⟨fh1, by rw [ht]; exact hP9, va_K.moved hW.alike hK9, hD9⟩⟩, hS.F ht⟩) hS.2.2 dX11_reads_17
def u_s_X12_readsA : List Cond := .code yX12_reads cX12_reads 8 (some .boolean) :: ([.fieldLink RX12 145 "ShellHeapModel" "thrown" "I", .methodLink RX12 288 yX12_isReader, .static yX12_isReader, .initialized RX12, .code yX12_isReader cX12_isReader 1 (some .boolean), .fieldLink RX12 78 "ShellHeapModel" "reads" "[I"] ++ wsX120)
set_option maxRecDepth 20000 in
theorem gw_s_X12_readsA_s_X12_isReaderA_288 : GoodIn u_s_X12_readsA (va_wsS RX12 288 yX12_isReader u_s_X12_isReaderA) := z_gr _ [2, 3, 4, 5] rfl (by decide +kernel)
set_option maxHeartbeats 4000000 in
set_option maxRecDepth 100000 in
theorem s_X12_readsA (l : Launch) (dC : Nat → ClassId) (dI : Nat → Nat → Nat) (sz : Nat) (h0 : Nat) (p1 : Int32) (p2 : Int32) (p3 : Int32) (p4 : Int32) (p5 : Int32) (p6 : Int32) (h0_0 : Value) (h0_1 : Value) (mx : Int32) (h0_3 : Value) (h0_4 : Value) (h0_5 : Value) (h0_6 : Value) (h0_7 : Value) (h0_8 : Value) (h0_9 : Value) (h0_10 : Value) (h0_11 : Value) (h0_12 : Value) (h0_13 : Value) (h0_14 : Value) (h0_15 : Value) (h0_16 : Value) (h0_17 : Value) (h0_18 : Value) (h0_19 : Value) (h0_20 : Value) (h0_21 : Value) (h0_22 : Value) (h0_23 : Value) (h0_24 : Value) (h0_25 : Value) (h0_26 : Value) (h0_27 : Value) (h0_28 : Value) (h0_29 : Value) (h0_30 : Value) (h0_31 : Value) (h0_32 : Value) (h0_33 : Value) (h0_34 : Value) (h1 : Nat) (h0_36 : Value) (h0_37 : Value) (h0_38 : Value) (h0_39 : Value) (h0_40 : Value) (h0_41 : Value) (h0_42 : Value) (h0_43 : Value) (h0_44 : Value) (h0_45 : Value) (h0_46 : Value) (h0_47 : Value) (h0_48 : Value) (h0_49 : Value) (h0_50 : Value) (h0_51 : Value) (h0_52 : Value) (h0_53 : Value) (h0_54 : Value) (h0_55 : Value) (h0_56 : Value) (h0_57 : Value) (h0_58 : Value) (h0_59 : Value) (h0_60 : Value) (h0_61 : Value) (h0_62 : Value) (h0_63 : Value) (h0_64 : Value) (h0_65 : Value) (h0_66 : Value) (h0_67 : Value) (h0_68 : Value) (h0_69 : Value) (ch1 : ClassId) (fh1 : Nat → Int32) : Met l yX12_reads u_s_X12_readsA ({ frames := 1, cells := 0, slots := 0, locals := 20 }) (va_Pc [.ref h0, .int p1, .int p2, .int p3, .int p4, .int p5, .int p6] (z_C (dC, dI) vwCl [(h0, .inr (12, [h0_0, h0_1, .int mx, h0_3, h0_4, h0_5, h0_6, h0_7, h0_8, h0_9, h0_10, h0_11, h0_12, h0_13, h0_14, h0_15, h0_16, h0_17, h0_18, h0_19, h0_20, h0_21, h0_22, h0_23, h0_24, h0_25, h0_26, h0_27, h0_28, h0_29, h0_30, h0_31, h0_32, h0_33, h0_34, .ref h1, h0_36, h0_37, h0_38, h0_39, h0_40, h0_41, h0_42, h0_43, h0_44, h0_45, h0_46, h0_47, h0_48, h0_49, h0_50, h0_51, h0_52, h0_53, h0_54, h0_55, h0_56, h0_57, h0_58, h0_59, h0_60, h0_61, h0_62, h0_63, h0_64, h0_65, h0_66, h0_67, h0_68, h0_69])), (h1, .inl (ch1, 48, .inl fh1))] [(ch1, .int)] sz)) (va_Qi (fun (r : Int32) (_ : Unit) => r = v_reads p1 p2 p3 p4 p5 p6) (fun (_ : Unit) (t : State) => ∃ (n_h0_thrown : Int32), ∃ (g_h1 : Nat → Int32), va_P (dC, dI) vwCl [(h0, .inr (12, [h0_0, h0_1, .int n_h0_thrown, h0_3, h0_4, h0_5, h0_6, h0_7, h0_8, h0_9, h0_10, h0_11, h0_12, h0_13, h0_14, h0_15, h0_16, h0_17, h0_18, h0_19, h0_20, h0_21, h0_22, h0_23, h0_24, h0_25, h0_26, h0_27, h0_28, h0_29, h0_30, h0_31, h0_32, h0_33, h0_34, .ref h1, h0_36, h0_37, h0_38, h0_39, h0_40, h0_41, h0_42, h0_43, h0_44, h0_45, h0_46, h0_47, h0_48, h0_49, h0_50, h0_51, h0_52, h0_53, h0_54, h0_55, h0_56, h0_57, h0_58, h0_59, h0_60, h0_61, h0_62, h0_63, h0_64, h0_65, h0_66, h0_67, h0_68, h0_69])), (h1, .inl (ch1, 48, .inl g_h1))] t.heap ∧ va_K (dC, dI) vwCl [] t ∧ va_D (va_A [(h0, .inr (12, [h0_0, h0_1, .int mx, h0_3, h0_4, h0_5, h0_6, h0_7, h0_8, h0_9, h0_10, h0_11, h0_12, h0_13, h0_14, h0_15, h0_16, h0_17, h0_18, h0_19, h0_20, h0_21, h0_22, h0_23, h0_24, h0_25, h0_26, h0_27, h0_28, h0_29, h0_30, h0_31, h0_32, h0_33, h0_34, .ref h1, h0_36, h0_37, h0_38, h0_39, h0_40, h0_41, h0_42, h0_43, h0_44, h0_45, h0_46, h0_47, h0_48, h0_49, h0_50, h0_51, h0_52, h0_53, h0_54, h0_55, h0_56, h0_57, h0_58, h0_59, h0_60, h0_61, h0_62, h0_63, h0_64, h0_65, h0_66, h0_67, h0_68, h0_69])), (h1, .inl (ch1, 48, .inl fh1))] sz) [(h0, .inr (12, [h0_0, h0_1, .int n_h0_thrown, h0_3, h0_4, h0_5, h0_6, h0_7, h0_8, h0_9, h0_10, h0_11, h0_12, h0_13, h0_14, h0_15, h0_16, h0_17, h0_18, h0_19, h0_20, h0_21, h0_22, h0_23, h0_24, h0_25, h0_26, h0_27, h0_28, h0_29, h0_30, h0_31, h0_32, h0_33, h0_34, .ref h1, h0_36, h0_37, h0_38, h0_39, h0_40, h0_41, h0_42, h0_43, h0_44, h0_45, h0_46, h0_47, h0_48, h0_49, h0_50, h0_51, h0_52, h0_53, h0_54, h0_55, h0_56, h0_57, h0_58, h0_59, h0_60, h0_61, h0_62, h0_63, h0_64, h0_65, h0_66, h0_67, h0_68, h0_69])), (h1, .inl (ch1, 48, .inl g_h1))]) (va_A [(h0, .inr (12, [h0_0, h0_1, .int mx, h0_3, h0_4, h0_5, h0_6, h0_7, h0_8, h0_9, h0_10, h0_11, h0_12, h0_13, h0_14, h0_15, h0_16, h0_17, h0_18, h0_19, h0_20, h0_21, h0_22, h0_23, h0_24, h0_25, h0_26, h0_27, h0_28, h0_29, h0_30, h0_31, h0_32, h0_33, h0_34, .ref h1, h0_36, h0_37, h0_38, h0_39, h0_40, h0_41, h0_42, h0_43, h0_44, h0_45, h0_46, h0_47, h0_48, h0_49, h0_50, h0_51, h0_52, h0_53, h0_54, h0_55, h0_56, h0_57, h0_58, h0_59, h0_60, h0_61, h0_62, h0_63, h0_64, h0_65, h0_66, h0_67, h0_68, h0_69])), (h1, .inl (ch1, 48, .inl fh1))] sz)) 0 0 (va_A [(h0, .inr (12, [h0_0, h0_1, .int mx, h0_3, h0_4, h0_5, h0_6, h0_7, h0_8, h0_9, h0_10, h0_11, h0_12, h0_13, h0_14, h0_15, h0_16, h0_17, h0_18, h0_19, h0_20, h0_21, h0_22, h0_23, h0_24, h0_25, h0_26, h0_27, h0_28, h0_29, h0_30, h0_31, h0_32, h0_33, h0_34, .ref h1, h0_36, h0_37, h0_38, h0_39, h0_40, h0_41, h0_42, h0_43, h0_44, h0_45, h0_46, h0_47, h0_48, h0_49, h0_50, h0_51, h0_52, h0_53, h0_54, h0_55, h0_56, h0_57, h0_58, h0_59, h0_60, h0_61, h0_62, h0_63, h0_64, h0_65, h0_66, h0_67, h0_68, h0_69])), (h1, .inl (ch1, 48, .inl fh1))] sz) := by
  refine Met.ofW (cc := cX12_reads) (maxL := 8) (ret := (some .boolean)) (by decide) rfl ?_
  intro p e s m args below meth c s₁ B hml hv
  obtain ⟨rfl, hsz, hP, hK, hD0⟩ := hv
  have hx := B.exec
  have hb := B.bytes
  have hr := B.returns
  have hts := atoms_spec (ws := u_s_X12_readsA) B.pre
  have hown : s.vm.findClass RX12 = some m.cls := findClass_of_methodNamed B.named
  have hlocks := B.notSynchronized
  subst hsz
  have hD := hD0.self (sz := s.heap.size)
  generalize hAe : va_A [(h0, .inr (12, [h0_0, h0_1, .int mx, h0_3, h0_4, h0_5, h0_6, h0_7, h0_8, h0_9, h0_10, h0_11, h0_12, h0_13, h0_14, h0_15, h0_16, h0_17, h0_18, h0_19, h0_20, h0_21, h0_22, h0_23, h0_24, h0_25, h0_26, h0_27, h0_28, h0_29, h0_30, h0_31, h0_32, h0_33, h0_34, .ref h1, h0_36, h0_37, h0_38, h0_39, h0_40, h0_41, h0_42, h0_43, h0_44, h0_45, h0_46, h0_47, h0_48, h0_49, h0_50, h0_51, h0_52, h0_53, h0_54, h0_55, h0_56, h0_57, h0_58, h0_59, h0_60, h0_61, h0_62, h0_63, h0_64, h0_65, h0_66, h0_67, h0_68, h0_69])), (h1, .inl (ch1, 48, .inl fh1))] s.heap.size = A at hD ⊢
  have hA : ∀ q : Nat, s.heap.size ≤ q → A q := fun q h => by rw [← hAe]; exact Or.inr h
  have hS : va_S A s.heap s.heap [] := va_S.rf
  have hP : va_P (dC, dI) vwCl [(h0, .inr (12, [h0_0, h0_1, .int mx, h0_3, h0_4, h0_5, h0_6, h0_7, h0_8, h0_9, h0_10, h0_11, h0_12, h0_13, h0_14, h0_15, h0_16, h0_17, h0_18, h0_19, h0_20, h0_21, h0_22, h0_23, h0_24, h0_25, h0_26, h0_27, h0_28, h0_29, h0_30, h0_31, h0_32, h0_33, h0_34, .ref h1, h0_36, h0_37, h0_38, h0_39, h0_40, h0_41, h0_42, h0_43, h0_44, h0_45, h0_46, h0_47, h0_48, h0_49, h0_50, h0_51, h0_52, h0_53, h0_54, h0_55, h0_56, h0_57, h0_58, h0_59, h0_60, h0_61, h0_62, h0_63, h0_64, h0_65, h0_66, h0_67, h0_68, h0_69])), (h1, .inl (ch1, 48, .inl fh1))] s.heap := hP
  have w__fieldLink_RX12_145_ShellHeapModel_thrown_I_ := hts (.fieldLink RX12 145 "ShellHeapModel" "thrown" "I") (by decide +kernel)
  have hiX12 := show ∀ w ∈ u_ws RX12 TX12 70, w ∈ u_s_X12_readsA by decide +kernel
  have w__fieldLink_RX12_78_ShellHeapModel_reads_I_ := hts (.fieldLink RX12 78 "ShellHeapModel" "reads" "[I") (by decide +kernel)
  have krr_p1 := z_rng p1
  have krr_p2 := z_rng p2
  have krr_p3 := z_rng p3
  have krr_p4 := z_rng p4
  have krr_p5 := z_rng p5
  have krr_p6 := z_rng p6
  have hl := lv_entry ([.ref h0, .int p1, .int p2, .int p3, .int p4, .int p5, .int p6]) (n := 8) (Nat.le_of_ble_eq_true rfl)
  rw [lg_entry_eq]
  generalize (lg_sl ([.ref h0, .int p1, .int p2, .int p3, .int p4, .int p5, .int p6]) ++ List.replicate (8 - (lg_sl ([.ref h0, .int p1, .int p2, .int p3, .int p4, .int p5, .int p6])).length) Slot.unset).toArray = ls at hl ⊢
  have hl : lv_has ls 8 [(0, .ref h0), (1, .int p1), (2, .int p2), (3, .int p3), (4, .int p4), (5, .int p5), (6, .int p6)] := hl
  refine lv_aload_n hx hb dX12_reads_0 rfl (lv_at hl 0 rfl) ?_
  refine lv_iconst (v := 0) hx hb dX12_reads_1 (by decide) ?_
  refine va_put (D := (dC, dI)) (ci := 12) (v := .int 0) (ty := .int) (C := RX12) (T := TX12) (N := 70) hx hb hts hiX12 tyX12 tyX12_ok nmX12 hown hK hP hD hS 0 rfl rfl 2 (by decide) w__fieldLink_RX12_145_ShellHeapModel_thrown_I_ (fun _ h9 => h9) rfl (by decide +kernel) rfl rfl (Nat.le_of_ble_eq_true rfl) dX12_reads_2 (fun H_1 locs hP hD hS => ?_)
  have hP : va_P (dC, dI) vwCl [(h0, .inr (12, [h0_0, h0_1, .int 0, h0_3, h0_4, h0_5, h0_6, h0_7, h0_8, h0_9, h0_10, h0_11, h0_12, h0_13, h0_14, h0_15, h0_16, h0_17, h0_18, h0_19, h0_20, h0_21, h0_22, h0_23, h0_24, h0_25, h0_26, h0_27, h0_28, h0_29, h0_30, h0_31, h0_32, h0_33, h0_34, .ref h1, h0_36, h0_37, h0_38, h0_39, h0_40, h0_41, h0_42, h0_43, h0_44, h0_45, h0_46, h0_47, h0_48, h0_49, h0_50, h0_51, h0_52, h0_53, h0_54, h0_55, h0_56, h0_57, h0_58, h0_59, h0_60, h0_61, h0_62, h0_63, h0_64, h0_65, h0_66, h0_67, h0_68, h0_69])), (h1, .inl (ch1, 48, .inl fh1))] H_1 := hP
  have hD : va_D A [(h0, .inr (12, [h0_0, h0_1, .int 0, h0_3, h0_4, h0_5, h0_6, h0_7, h0_8, h0_9, h0_10, h0_11, h0_12, h0_13, h0_14, h0_15, h0_16, h0_17, h0_18, h0_19, h0_20, h0_21, h0_22, h0_23, h0_24, h0_25, h0_26, h0_27, h0_28, h0_29, h0_30, h0_31, h0_32, h0_33, h0_34, .ref h1, h0_36, h0_37, h0_38, h0_39, h0_40, h0_41, h0_42, h0_43, h0_44, h0_45, h0_46, h0_47, h0_48, h0_49, h0_50, h0_51, h0_52, h0_53, h0_54, h0_55, h0_56, h0_57, h0_58, h0_59, h0_60, h0_61, h0_62, h0_63, h0_64, h0_65, h0_66, h0_67, h0_68, h0_69])), (h1, .inl (ch1, 48, .inl fh1))] := hD
  refine lv_iload_n hx hb dX12_reads_5 rfl (lv_at hl 1 rfl) ?_
  have hPc := hP.sub (ws' := []) [] rfl
  have hDc := hD.sub (ws' := []) [] (by decide) rfl
  have hKc := hK.sub (tys' := []) [] rfl
  have hFc := va_free (ws := []) (wc := []) (z_D0 _) hS hA [] rfl
  refine va_calli (va_runS (As := [.int p1]) (rest := []) ⟨hx, hb, hml, hown, hts⟩ (s_X12_isReaderA l dC dI H_1.size p1) (va_cwS 1 hts gw_s_X12_readsA_s_X12_isReaderA_288 rfl rfl rfl (by decide +kernel) ⟨Nat.le_of_ble_eq_true rfl, Nat.le_of_ble_eq_true rfl⟩) ⟨z_blind, z_pre hPc hKc hDc⟩ rfl rfl hl.1 rfl (lv_room (Nat.le_of_ble_eq_true rfl)) dX12_reads_6 ⟨Nat.le_of_ble_eq_true rfl, Nat.le_of_ble_eq_true rfl⟩) hS (fun q _ h => hFc q h) hFc (fun r_3 u t H_2 locs ht hvm hw_4 hB hz1 hk1 hS => ?_)
  have hP := z_pure hP hk1
  have hP : va_P (dC, dI) vwCl [(h0, .inr (12, [h0_0, h0_1, .int 0, h0_3, h0_4, h0_5, h0_6, h0_7, h0_8, h0_9, h0_10, h0_11, h0_12, h0_13, h0_14, h0_15, h0_16, h0_17, h0_18, h0_19, h0_20, h0_21, h0_22, h0_23, h0_24, h0_25, h0_26, h0_27, h0_28, h0_29, h0_30, h0_31, h0_32, h0_33, h0_34, .ref h1, h0_36, h0_37, h0_38, h0_39, h0_40, h0_41, h0_42, h0_43, h0_44, h0_45, h0_46, h0_47, h0_48, h0_49, h0_50, h0_51, h0_52, h0_53, h0_54, h0_55, h0_56, h0_57, h0_58, h0_59, h0_60, h0_61, h0_62, h0_63, h0_64, h0_65, h0_66, h0_67, h0_68, h0_69])), (h1, .inl (ch1, 48, .inl fh1))] H_2 := hP
  have hD : va_D A [(h0, .inr (12, [h0_0, h0_1, .int 0, h0_3, h0_4, h0_5, h0_6, h0_7, h0_8, h0_9, h0_10, h0_11, h0_12, h0_13, h0_14, h0_15, h0_16, h0_17, h0_18, h0_19, h0_20, h0_21, h0_22, h0_23, h0_24, h0_25, h0_26, h0_27, h0_28, h0_29, h0_30, h0_31, h0_32, h0_33, h0_34, .ref h1, h0_36, h0_37, h0_38, h0_39, h0_40, h0_41, h0_42, h0_43, h0_44, h0_45, h0_46, h0_47, h0_48, h0_49, h0_50, h0_51, h0_52, h0_53, h0_54, h0_55, h0_56, h0_57, h0_58, h0_59, h0_60, h0_61, h0_62, h0_63, h0_64, h0_65, h0_66, h0_67, h0_68, h0_69])), (h1, .inl (ch1, 48, .inl fh1))] := hD
  clear hPc hDc hKc
  rcases hw_4 with ⟨rfl, hw_4⟩ | ⟨rfl, hw_4⟩
  · have hw_4 : (0 ≤ p1.toInt ∧ p1.toInt < 3) := hw_4
    refine lv_if_eq (tgt := 82) hx hb dX12_reads_9 (by decide) (fun c_5 => absurd c_5 (by decide)) (fun _ => ?_)
    refine lv_iload_n hx hb dX12_reads_12 rfl (lv_at hl 2 rfl) ?_
    refine lv_if_lt (tgt := 82) hx hb dX12_reads_13 (by decide) (fun c_6 => ?_) (fun c_6 => ?_)
    · have k_7 : (p2).toInt < (0 : Int) := z_lt c_6
      refine lv_iconst (v := 0) hx hb dX12_reads_82 (by decide) ?_
      have hP9 := hP.sub (ws' := [(h0, .inr (12, [h0_0, h0_1, .int 0, h0_3, h0_4, h0_5, h0_6, h0_7, h0_8, h0_9, h0_10, h0_11, h0_12, h0_13, h0_14, h0_15, h0_16, h0_17, h0_18, h0_19, h0_20, h0_21, h0_22, h0_23, h0_24, h0_25, h0_26, h0_27, h0_28, h0_29, h0_30, h0_31, h0_32, h0_33, h0_34, .ref h1, h0_36, h0_37, h0_38, h0_39, h0_40, h0_41, h0_42, h0_43, h0_44, h0_45, h0_46, h0_47, h0_48, h0_49, h0_50, h0_51, h0_52, h0_53, h0_54, h0_55, h0_56, h0_57, h0_58, h0_59, h0_60, h0_61, h0_62, h0_63, h0_64, h0_65, h0_66, h0_67, h0_68, h0_69])), (h1, .inl (ch1, 48, .inl fh1))]) [0, 1] rfl
      have hD9 := hD.sub (ws' := [(h0, .inr (12, [h0_0, h0_1, .int 0, h0_3, h0_4, h0_5, h0_6, h0_7, h0_8, h0_9, h0_10, h0_11, h0_12, h0_13, h0_14, h0_15, h0_16, h0_17, h0_18, h0_19, h0_20, h0_21, h0_22, h0_23, h0_24, h0_25, h0_26, h0_27, h0_28, h0_29, h0_30, h0_31, h0_32, h0_33, h0_34, .ref h1, h0_36, h0_37, h0_38, h0_39, h0_40, h0_41, h0_42, h0_43, h0_44, h0_45, h0_46, h0_47, h0_48, h0_49, h0_50, h0_51, h0_52, h0_53, h0_54, h0_55, h0_56, h0_57, h0_58, h0_59, h0_60, h0_61, h0_62, h0_63, h0_64, h0_65, h0_66, h0_67, h0_68, h0_69])), (h1, .inl (ch1, 48, .inl fh1))]) [0, 1] (by decide) rfl
      have hK9 := hK.sub (tys' := []) [] rfl
      refine W.widen (k := 0) (n := 0) (Nat.le_of_ble_eq_true rfl) (Nat.le_of_ble_eq_true rfl) ?_
      exact W.zret (v := 0) hx hb hr (by rfl) (fun t ht hW => ⟨⟨0, (), rfl, (show 0 = v_reads p1 p2 p3 p4 p5 p6 by unfold v_reads; rw [if_neg (by omega)]), ⟨0, fh1, by rw [ht]; exact hP9, va_K.moved hW.alike hK9, hD9⟩⟩, hS.F ht⟩) hS.2.2 dX12_reads_83
    · have k_8 : (p2).toInt ≥ (0 : Int) := z_nlt c_6
      refine lv_iload_n hx hb dX12_reads_16 rfl (lv_at hl 2 rfl) ?_
      refine lv_iconst (v := 3) hx hb dX12_reads_17 (by decide) ?_
      refine lv_icmp_gt (tgt := 82) hx hb dX12_reads_18 (by decide) (fun c_9 => ?_) (fun c_9 => ?_)
      · have k_10 : (3 : Int) < (p2).toInt := z_lt c_9
        refine lv_iconst (v := 0) hx hb dX12_reads_82 (by decide) ?_
        have hP9 := hP.sub (ws' := [(h0, .inr (12, [h0_0, h0_1, .int 0, h0_3, h0_4, h0_5, h0_6, h0_7, h0_8, h0_9, h0_10, h0_11, h0_12, h0_13, h0_14, h0_15, h0_16, h0_17, h0_18, h0_19, h0_20, h0_21, h0_22, h0_23, h0_24, h0_25, h0_26, h0_27, h0_28, h0_29, h0_30, h0_31, h0_32, h0_33, h0_34, .ref h1, h0_36, h0_37, h0_38, h0_39, h0_40, h0_41, h0_42, h0_43, h0_44, h0_45, h0_46, h0_47, h0_48, h0_49, h0_50, h0_51, h0_52, h0_53, h0_54, h0_55, h0_56, h0_57, h0_58, h0_59, h0_60, h0_61, h0_62, h0_63, h0_64, h0_65, h0_66, h0_67, h0_68, h0_69])), (h1, .inl (ch1, 48, .inl fh1))]) [0, 1] rfl
        have hD9 := hD.sub (ws' := [(h0, .inr (12, [h0_0, h0_1, .int 0, h0_3, h0_4, h0_5, h0_6, h0_7, h0_8, h0_9, h0_10, h0_11, h0_12, h0_13, h0_14, h0_15, h0_16, h0_17, h0_18, h0_19, h0_20, h0_21, h0_22, h0_23, h0_24, h0_25, h0_26, h0_27, h0_28, h0_29, h0_30, h0_31, h0_32, h0_33, h0_34, .ref h1, h0_36, h0_37, h0_38, h0_39, h0_40, h0_41, h0_42, h0_43, h0_44, h0_45, h0_46, h0_47, h0_48, h0_49, h0_50, h0_51, h0_52, h0_53, h0_54, h0_55, h0_56, h0_57, h0_58, h0_59, h0_60, h0_61, h0_62, h0_63, h0_64, h0_65, h0_66, h0_67, h0_68, h0_69])), (h1, .inl (ch1, 48, .inl fh1))]) [0, 1] (by decide) rfl
        have hK9 := hK.sub (tys' := []) [] rfl
        refine W.widen (k := 0) (n := 0) (Nat.le_of_ble_eq_true rfl) (Nat.le_of_ble_eq_true rfl) ?_
        exact W.zret (v := 0) hx hb hr (by rfl) (fun t ht hW => ⟨⟨0, (), rfl, (show 0 = v_reads p1 p2 p3 p4 p5 p6 by unfold v_reads; rw [if_neg (by omega)]), ⟨0, fh1, by rw [ht]; exact hP9, va_K.moved hW.alike hK9, hD9⟩⟩, hS.F ht⟩) hS.2.2 dX12_reads_83
      · have k_11 : (3 : Int) ≥ (p2).toInt := z_nlt c_9
        refine lv_iload_n hx hb dX12_reads_21 rfl (lv_at hl 3 rfl) ?_
        refine lv_if_lt (tgt := 82) hx hb dX12_reads_22 (by decide) (fun c_12 => ?_) (fun c_12 => ?_)
        · have k_13 : (p3).toInt < (0 : Int) := z_lt c_12
          refine lv_iconst (v := 0) hx hb dX12_reads_82 (by decide) ?_
          have hP9 := hP.sub (ws' := [(h0, .inr (12, [h0_0, h0_1, .int 0, h0_3, h0_4, h0_5, h0_6, h0_7, h0_8, h0_9, h0_10, h0_11, h0_12, h0_13, h0_14, h0_15, h0_16, h0_17, h0_18, h0_19, h0_20, h0_21, h0_22, h0_23, h0_24, h0_25, h0_26, h0_27, h0_28, h0_29, h0_30, h0_31, h0_32, h0_33, h0_34, .ref h1, h0_36, h0_37, h0_38, h0_39, h0_40, h0_41, h0_42, h0_43, h0_44, h0_45, h0_46, h0_47, h0_48, h0_49, h0_50, h0_51, h0_52, h0_53, h0_54, h0_55, h0_56, h0_57, h0_58, h0_59, h0_60, h0_61, h0_62, h0_63, h0_64, h0_65, h0_66, h0_67, h0_68, h0_69])), (h1, .inl (ch1, 48, .inl fh1))]) [0, 1] rfl
          have hD9 := hD.sub (ws' := [(h0, .inr (12, [h0_0, h0_1, .int 0, h0_3, h0_4, h0_5, h0_6, h0_7, h0_8, h0_9, h0_10, h0_11, h0_12, h0_13, h0_14, h0_15, h0_16, h0_17, h0_18, h0_19, h0_20, h0_21, h0_22, h0_23, h0_24, h0_25, h0_26, h0_27, h0_28, h0_29, h0_30, h0_31, h0_32, h0_33, h0_34, .ref h1, h0_36, h0_37, h0_38, h0_39, h0_40, h0_41, h0_42, h0_43, h0_44, h0_45, h0_46, h0_47, h0_48, h0_49, h0_50, h0_51, h0_52, h0_53, h0_54, h0_55, h0_56, h0_57, h0_58, h0_59, h0_60, h0_61, h0_62, h0_63, h0_64, h0_65, h0_66, h0_67, h0_68, h0_69])), (h1, .inl (ch1, 48, .inl fh1))]) [0, 1] (by decide) rfl
          have hK9 := hK.sub (tys' := []) [] rfl
          refine W.widen (k := 0) (n := 0) (Nat.le_of_ble_eq_true rfl) (Nat.le_of_ble_eq_true rfl) ?_
          exact W.zret (v := 0) hx hb hr (by rfl) (fun t ht hW => ⟨⟨0, (), rfl, (show 0 = v_reads p1 p2 p3 p4 p5 p6 by unfold v_reads; rw [if_neg (by omega)]), ⟨0, fh1, by rw [ht]; exact hP9, va_K.moved hW.alike hK9, hD9⟩⟩, hS.F ht⟩) hS.2.2 dX12_reads_83
        · have k_14 : (p3).toInt ≥ (0 : Int) := z_nlt c_12
          refine lv_iload hx hb dX12_reads_25 (lv_at hl 4 rfl) ?_
          refine lv_if_lt (tgt := 82) hx hb dX12_reads_27 (by decide) (fun c_15 => ?_) (fun c_15 => ?_)
          · have k_16 : (p4).toInt < (0 : Int) := z_lt c_15
            refine lv_iconst (v := 0) hx hb dX12_reads_82 (by decide) ?_
            have hP9 := hP.sub (ws' := [(h0, .inr (12, [h0_0, h0_1, .int 0, h0_3, h0_4, h0_5, h0_6, h0_7, h0_8, h0_9, h0_10, h0_11, h0_12, h0_13, h0_14, h0_15, h0_16, h0_17, h0_18, h0_19, h0_20, h0_21, h0_22, h0_23, h0_24, h0_25, h0_26, h0_27, h0_28, h0_29, h0_30, h0_31, h0_32, h0_33, h0_34, .ref h1, h0_36, h0_37, h0_38, h0_39, h0_40, h0_41, h0_42, h0_43, h0_44, h0_45, h0_46, h0_47, h0_48, h0_49, h0_50, h0_51, h0_52, h0_53, h0_54, h0_55, h0_56, h0_57, h0_58, h0_59, h0_60, h0_61, h0_62, h0_63, h0_64, h0_65, h0_66, h0_67, h0_68, h0_69])), (h1, .inl (ch1, 48, .inl fh1))]) [0, 1] rfl
            have hD9 := hD.sub (ws' := [(h0, .inr (12, [h0_0, h0_1, .int 0, h0_3, h0_4, h0_5, h0_6, h0_7, h0_8, h0_9, h0_10, h0_11, h0_12, h0_13, h0_14, h0_15, h0_16, h0_17, h0_18, h0_19, h0_20, h0_21, h0_22, h0_23, h0_24, h0_25, h0_26, h0_27, h0_28, h0_29, h0_30, h0_31, h0_32, h0_33, h0_34, .ref h1, h0_36, h0_37, h0_38, h0_39, h0_40, h0_41, h0_42, h0_43, h0_44, h0_45, h0_46, h0_47, h0_48, h0_49, h0_50, h0_51, h0_52, h0_53, h0_54, h0_55, h0_56, h0_57, h0_58, h0_59, h0_60, h0_61, h0_62, h0_63, h0_64, h0_65, h0_66, h0_67, h0_68, h0_69])), (h1, .inl (ch1, 48, .inl fh1))]) [0, 1] (by decide) rfl
            have hK9 := hK.sub (tys' := []) [] rfl
            refine W.widen (k := 0) (n := 0) (Nat.le_of_ble_eq_true rfl) (Nat.le_of_ble_eq_true rfl) ?_
            exact W.zret (v := 0) hx hb hr (by rfl) (fun t ht hW => ⟨⟨0, (), rfl, (show 0 = v_reads p1 p2 p3 p4 p5 p6 by unfold v_reads; rw [if_neg (by omega)]), ⟨0, fh1, by rw [ht]; exact hP9, va_K.moved hW.alike hK9, hD9⟩⟩, hS.F ht⟩) hS.2.2 dX12_reads_83
          · have k_17 : (p4).toInt ≥ (0 : Int) := z_nlt c_15
            refine lv_iload hx hb dX12_reads_30 (lv_at hl 5 rfl) ?_
            refine lv_if_lt (tgt := 82) hx hb dX12_reads_32 (by decide) (fun c_18 => ?_) (fun c_18 => ?_)
            · have k_19 : (p5).toInt < (0 : Int) := z_lt c_18
              refine lv_iconst (v := 0) hx hb dX12_reads_82 (by decide) ?_
              have hP9 := hP.sub (ws' := [(h0, .inr (12, [h0_0, h0_1, .int 0, h0_3, h0_4, h0_5, h0_6, h0_7, h0_8, h0_9, h0_10, h0_11, h0_12, h0_13, h0_14, h0_15, h0_16, h0_17, h0_18, h0_19, h0_20, h0_21, h0_22, h0_23, h0_24, h0_25, h0_26, h0_27, h0_28, h0_29, h0_30, h0_31, h0_32, h0_33, h0_34, .ref h1, h0_36, h0_37, h0_38, h0_39, h0_40, h0_41, h0_42, h0_43, h0_44, h0_45, h0_46, h0_47, h0_48, h0_49, h0_50, h0_51, h0_52, h0_53, h0_54, h0_55, h0_56, h0_57, h0_58, h0_59, h0_60, h0_61, h0_62, h0_63, h0_64, h0_65, h0_66, h0_67, h0_68, h0_69])), (h1, .inl (ch1, 48, .inl fh1))]) [0, 1] rfl
              have hD9 := hD.sub (ws' := [(h0, .inr (12, [h0_0, h0_1, .int 0, h0_3, h0_4, h0_5, h0_6, h0_7, h0_8, h0_9, h0_10, h0_11, h0_12, h0_13, h0_14, h0_15, h0_16, h0_17, h0_18, h0_19, h0_20, h0_21, h0_22, h0_23, h0_24, h0_25, h0_26, h0_27, h0_28, h0_29, h0_30, h0_31, h0_32, h0_33, h0_34, .ref h1, h0_36, h0_37, h0_38, h0_39, h0_40, h0_41, h0_42, h0_43, h0_44, h0_45, h0_46, h0_47, h0_48, h0_49, h0_50, h0_51, h0_52, h0_53, h0_54, h0_55, h0_56, h0_57, h0_58, h0_59, h0_60, h0_61, h0_62, h0_63, h0_64, h0_65, h0_66, h0_67, h0_68, h0_69])), (h1, .inl (ch1, 48, .inl fh1))]) [0, 1] (by decide) rfl
              have hK9 := hK.sub (tys' := []) [] rfl
              refine W.widen (k := 0) (n := 0) (Nat.le_of_ble_eq_true rfl) (Nat.le_of_ble_eq_true rfl) ?_
              exact W.zret (v := 0) hx hb hr (by rfl) (fun t ht hW => ⟨⟨0, (), rfl, (show 0 = v_reads p1 p2 p3 p4 p5 p6 by unfold v_reads; rw [if_neg (by omega)]), ⟨0, fh1, by rw [ht]; exact hP9, va_K.moved hW.alike hK9, hD9⟩⟩, hS.F ht⟩) hS.2.2 dX12_reads_83
            · have k_20 : (p5).toInt ≥ (0 : Int) := z_nlt c_18
              refine lv_iload hx hb dX12_reads_35 (lv_at hl 6 rfl) ?_
              refine lv_if_lt (tgt := 82) hx hb dX12_reads_37 (by decide) (fun c_21 => ?_) (fun c_21 => ?_)
              · have k_22 : (p6).toInt < (0 : Int) := z_lt c_21
                refine lv_iconst (v := 0) hx hb dX12_reads_82 (by decide) ?_
                have hP9 := hP.sub (ws' := [(h0, .inr (12, [h0_0, h0_1, .int 0, h0_3, h0_4, h0_5, h0_6, h0_7, h0_8, h0_9, h0_10, h0_11, h0_12, h0_13, h0_14, h0_15, h0_16, h0_17, h0_18, h0_19, h0_20, h0_21, h0_22, h0_23, h0_24, h0_25, h0_26, h0_27, h0_28, h0_29, h0_30, h0_31, h0_32, h0_33, h0_34, .ref h1, h0_36, h0_37, h0_38, h0_39, h0_40, h0_41, h0_42, h0_43, h0_44, h0_45, h0_46, h0_47, h0_48, h0_49, h0_50, h0_51, h0_52, h0_53, h0_54, h0_55, h0_56, h0_57, h0_58, h0_59, h0_60, h0_61, h0_62, h0_63, h0_64, h0_65, h0_66, h0_67, h0_68, h0_69])), (h1, .inl (ch1, 48, .inl fh1))]) [0, 1] rfl
                have hD9 := hD.sub (ws' := [(h0, .inr (12, [h0_0, h0_1, .int 0, h0_3, h0_4, h0_5, h0_6, h0_7, h0_8, h0_9, h0_10, h0_11, h0_12, h0_13, h0_14, h0_15, h0_16, h0_17, h0_18, h0_19, h0_20, h0_21, h0_22, h0_23, h0_24, h0_25, h0_26, h0_27, h0_28, h0_29, h0_30, h0_31, h0_32, h0_33, h0_34, .ref h1, h0_36, h0_37, h0_38, h0_39, h0_40, h0_41, h0_42, h0_43, h0_44, h0_45, h0_46, h0_47, h0_48, h0_49, h0_50, h0_51, h0_52, h0_53, h0_54, h0_55, h0_56, h0_57, h0_58, h0_59, h0_60, h0_61, h0_62, h0_63, h0_64, h0_65, h0_66, h0_67, h0_68, h0_69])), (h1, .inl (ch1, 48, .inl fh1))]) [0, 1] (by decide) rfl
                have hK9 := hK.sub (tys' := []) [] rfl
                refine W.widen (k := 0) (n := 0) (Nat.le_of_ble_eq_true rfl) (Nat.le_of_ble_eq_true rfl) ?_
                exact W.zret (v := 0) hx hb hr (by rfl) (fun t ht hW => ⟨⟨0, (), rfl, (show 0 = v_reads p1 p2 p3 p4 p5 p6 by unfold v_reads; rw [if_neg (by omega)]), ⟨0, fh1, by rw [ht]; exact hP9, va_K.moved hW.alike hK9, hD9⟩⟩, hS.F ht⟩) hS.2.2 dX12_reads_83
              · have k_23 : (p6).toInt ≥ (0 : Int) := z_nlt c_21
                refine lv_iload_n hx hb dX12_reads_40 rfl (lv_at hl 3 rfl) ?_
                refine lv_bipush (v := 16) hx hb dX12_reads_41 (by decide) ?_
                refine lv_icmp_gt (tgt := 82) hx hb dX12_reads_43 (by decide) (fun c_24 => ?_) (fun c_24 => ?_)
                · have k_25 : (16 : Int) < (p3).toInt := z_lt c_24
                  refine lv_iconst (v := 0) hx hb dX12_reads_82 (by decide) ?_
                  have hP9 := hP.sub (ws' := [(h0, .inr (12, [h0_0, h0_1, .int 0, h0_3, h0_4, h0_5, h0_6, h0_7, h0_8, h0_9, h0_10, h0_11, h0_12, h0_13, h0_14, h0_15, h0_16, h0_17, h0_18, h0_19, h0_20, h0_21, h0_22, h0_23, h0_24, h0_25, h0_26, h0_27, h0_28, h0_29, h0_30, h0_31, h0_32, h0_33, h0_34, .ref h1, h0_36, h0_37, h0_38, h0_39, h0_40, h0_41, h0_42, h0_43, h0_44, h0_45, h0_46, h0_47, h0_48, h0_49, h0_50, h0_51, h0_52, h0_53, h0_54, h0_55, h0_56, h0_57, h0_58, h0_59, h0_60, h0_61, h0_62, h0_63, h0_64, h0_65, h0_66, h0_67, h0_68, h0_69])), (h1, .inl (ch1, 48, .inl fh1))]) [0, 1] rfl
                  have hD9 := hD.sub (ws' := [(h0, .inr (12, [h0_0, h0_1, .int 0, h0_3, h0_4, h0_5, h0_6, h0_7, h0_8, h0_9, h0_10, h0_11, h0_12, h0_13, h0_14, h0_15, h0_16, h0_17, h0_18, h0_19, h0_20, h0_21, h0_22, h0_23, h0_24, h0_25, h0_26, h0_27, h0_28, h0_29, h0_30, h0_31, h0_32, h0_33, h0_34, .ref h1, h0_36, h0_37, h0_38, h0_39, h0_40, h0_41, h0_42, h0_43, h0_44, h0_45, h0_46, h0_47, h0_48, h0_49, h0_50, h0_51, h0_52, h0_53, h0_54, h0_55, h0_56, h0_57, h0_58, h0_59, h0_60, h0_61, h0_62, h0_63, h0_64, h0_65, h0_66, h0_67, h0_68, h0_69])), (h1, .inl (ch1, 48, .inl fh1))]) [0, 1] (by decide) rfl
                  have hK9 := hK.sub (tys' := []) [] rfl
                  refine W.widen (k := 0) (n := 0) (Nat.le_of_ble_eq_true rfl) (Nat.le_of_ble_eq_true rfl) ?_
                  exact W.zret (v := 0) hx hb hr (by rfl) (fun t ht hW => ⟨⟨0, (), rfl, (show 0 = v_reads p1 p2 p3 p4 p5 p6 by unfold v_reads; rw [if_neg (by omega)]), ⟨0, fh1, by rw [ht]; exact hP9, va_K.moved hW.alike hK9, hD9⟩⟩, hS.F ht⟩) hS.2.2 dX12_reads_83
                · have k_26 : (16 : Int) ≥ (p3).toInt := z_nlt c_24
                  refine lv_iload hx hb dX12_reads_46 (lv_at hl 4 rfl) ?_
                  refine lv_bipush (v := 16) hx hb dX12_reads_48 (by decide) ?_
                  refine lv_icmp_gt (tgt := 82) hx hb dX12_reads_50 (by decide) (fun c_27 => ?_) (fun c_27 => ?_)
                  · have k_28 : (16 : Int) < (p4).toInt := z_lt c_27
                    refine lv_iconst (v := 0) hx hb dX12_reads_82 (by decide) ?_
                    have hP9 := hP.sub (ws' := [(h0, .inr (12, [h0_0, h0_1, .int 0, h0_3, h0_4, h0_5, h0_6, h0_7, h0_8, h0_9, h0_10, h0_11, h0_12, h0_13, h0_14, h0_15, h0_16, h0_17, h0_18, h0_19, h0_20, h0_21, h0_22, h0_23, h0_24, h0_25, h0_26, h0_27, h0_28, h0_29, h0_30, h0_31, h0_32, h0_33, h0_34, .ref h1, h0_36, h0_37, h0_38, h0_39, h0_40, h0_41, h0_42, h0_43, h0_44, h0_45, h0_46, h0_47, h0_48, h0_49, h0_50, h0_51, h0_52, h0_53, h0_54, h0_55, h0_56, h0_57, h0_58, h0_59, h0_60, h0_61, h0_62, h0_63, h0_64, h0_65, h0_66, h0_67, h0_68, h0_69])), (h1, .inl (ch1, 48, .inl fh1))]) [0, 1] rfl
                    have hD9 := hD.sub (ws' := [(h0, .inr (12, [h0_0, h0_1, .int 0, h0_3, h0_4, h0_5, h0_6, h0_7, h0_8, h0_9, h0_10, h0_11, h0_12, h0_13, h0_14, h0_15, h0_16, h0_17, h0_18, h0_19, h0_20, h0_21, h0_22, h0_23, h0_24, h0_25, h0_26, h0_27, h0_28, h0_29, h0_30, h0_31, h0_32, h0_33, h0_34, .ref h1, h0_36, h0_37, h0_38, h0_39, h0_40, h0_41, h0_42, h0_43, h0_44, h0_45, h0_46, h0_47, h0_48, h0_49, h0_50, h0_51, h0_52, h0_53, h0_54, h0_55, h0_56, h0_57, h0_58, h0_59, h0_60, h0_61, h0_62, h0_63, h0_64, h0_65, h0_66, h0_67, h0_68, h0_69])), (h1, .inl (ch1, 48, .inl fh1))]) [0, 1] (by decide) rfl
                    have hK9 := hK.sub (tys' := []) [] rfl
                    refine W.widen (k := 0) (n := 0) (Nat.le_of_ble_eq_true rfl) (Nat.le_of_ble_eq_true rfl) ?_
                    exact W.zret (v := 0) hx hb hr (by rfl) (fun t ht hW => ⟨⟨0, (), rfl, (show 0 = v_reads p1 p2 p3 p4 p5 p6 by unfold v_reads; rw [if_neg (by omega)]), ⟨0, fh1, by rw [ht]; exact hP9, va_K.moved hW.alike hK9, hD9⟩⟩, hS.F ht⟩) hS.2.2 dX12_reads_83
                  · have k_29 : (16 : Int) ≥ (p4).toInt := z_nlt c_27
                    refine lv_iload hx hb dX12_reads_53 (lv_at hl 5 rfl) ?_
                    refine lv_bipush (v := 16) hx hb dX12_reads_55 (by decide) ?_
                    refine lv_icmp_gt (tgt := 82) hx hb dX12_reads_57 (by decide) (fun c_30 => ?_) (fun c_30 => ?_)
                    · have k_31 : (16 : Int) < (p5).toInt := z_lt c_30
                      refine lv_iconst (v := 0) hx hb dX12_reads_82 (by decide) ?_
                      have hP9 := hP.sub (ws' := [(h0, .inr (12, [h0_0, h0_1, .int 0, h0_3, h0_4, h0_5, h0_6, h0_7, h0_8, h0_9, h0_10, h0_11, h0_12, h0_13, h0_14, h0_15, h0_16, h0_17, h0_18, h0_19, h0_20, h0_21, h0_22, h0_23, h0_24, h0_25, h0_26, h0_27, h0_28, h0_29, h0_30, h0_31, h0_32, h0_33, h0_34, .ref h1, h0_36, h0_37, h0_38, h0_39, h0_40, h0_41, h0_42, h0_43, h0_44, h0_45, h0_46, h0_47, h0_48, h0_49, h0_50, h0_51, h0_52, h0_53, h0_54, h0_55, h0_56, h0_57, h0_58, h0_59, h0_60, h0_61, h0_62, h0_63, h0_64, h0_65, h0_66, h0_67, h0_68, h0_69])), (h1, .inl (ch1, 48, .inl fh1))]) [0, 1] rfl
                      have hD9 := hD.sub (ws' := [(h0, .inr (12, [h0_0, h0_1, .int 0, h0_3, h0_4, h0_5, h0_6, h0_7, h0_8, h0_9, h0_10, h0_11, h0_12, h0_13, h0_14, h0_15, h0_16, h0_17, h0_18, h0_19, h0_20, h0_21, h0_22, h0_23, h0_24, h0_25, h0_26, h0_27, h0_28, h0_29, h0_30, h0_31, h0_32, h0_33, h0_34, .ref h1, h0_36, h0_37, h0_38, h0_39, h0_40, h0_41, h0_42, h0_43, h0_44, h0_45, h0_46, h0_47, h0_48, h0_49, h0_50, h0_51, h0_52, h0_53, h0_54, h0_55, h0_56, h0_57, h0_58, h0_59, h0_60, h0_61, h0_62, h0_63, h0_64, h0_65, h0_66, h0_67, h0_68, h0_69])), (h1, .inl (ch1, 48, .inl fh1))]) [0, 1] (by decide) rfl
                      have hK9 := hK.sub (tys' := []) [] rfl
                      refine W.widen (k := 0) (n := 0) (Nat.le_of_ble_eq_true rfl) (Nat.le_of_ble_eq_true rfl) ?_
                      exact W.zret (v := 0) hx hb hr (by rfl) (fun t ht hW => ⟨⟨0, (), rfl, (show 0 = v_reads p1 p2 p3 p4 p5 p6 by unfold v_reads; rw [if_neg (by omega)]), ⟨0, fh1, by rw [ht]; exact hP9, va_K.moved hW.alike hK9, hD9⟩⟩, hS.F ht⟩) hS.2.2 dX12_reads_83
                    · have k_32 : (16 : Int) ≥ (p5).toInt := z_nlt c_30
                      refine lv_iload hx hb dX12_reads_60 (lv_at hl 6 rfl) ?_
                      refine lv_bipush (v := 16) hx hb dX12_reads_62 (by decide) ?_
                      refine lv_icmp_gt (tgt := 82) hx hb dX12_reads_64 (by decide) (fun c_33 => ?_) (fun c_33 => ?_)
                      · have k_34 : (16 : Int) < (p6).toInt := z_lt c_33
                        refine lv_iconst (v := 0) hx hb dX12_reads_82 (by decide) ?_
                        have hP9 := hP.sub (ws' := [(h0, .inr (12, [h0_0, h0_1, .int 0, h0_3, h0_4, h0_5, h0_6, h0_7, h0_8, h0_9, h0_10, h0_11, h0_12, h0_13, h0_14, h0_15, h0_16, h0_17, h0_18, h0_19, h0_20, h0_21, h0_22, h0_23, h0_24, h0_25, h0_26, h0_27, h0_28, h0_29, h0_30, h0_31, h0_32, h0_33, h0_34, .ref h1, h0_36, h0_37, h0_38, h0_39, h0_40, h0_41, h0_42, h0_43, h0_44, h0_45, h0_46, h0_47, h0_48, h0_49, h0_50, h0_51, h0_52, h0_53, h0_54, h0_55, h0_56, h0_57, h0_58, h0_59, h0_60, h0_61, h0_62, h0_63, h0_64, h0_65, h0_66, h0_67, h0_68, h0_69])), (h1, .inl (ch1, 48, .inl fh1))]) [0, 1] rfl
                        have hD9 := hD.sub (ws' := [(h0, .inr (12, [h0_0, h0_1, .int 0, h0_3, h0_4, h0_5, h0_6, h0_7, h0_8, h0_9, h0_10, h0_11, h0_12, h0_13, h0_14, h0_15, h0_16, h0_17, h0_18, h0_19, h0_20, h0_21, h0_22, h0_23, h0_24, h0_25, h0_26, h0_27, h0_28, h0_29, h0_30, h0_31, h0_32, h0_33, h0_34, .ref h1, h0_36, h0_37, h0_38, h0_39, h0_40, h0_41, h0_42, h0_43, h0_44, h0_45, h0_46, h0_47, h0_48, h0_49, h0_50, h0_51, h0_52, h0_53, h0_54, h0_55, h0_56, h0_57, h0_58, h0_59, h0_60, h0_61, h0_62, h0_63, h0_64, h0_65, h0_66, h0_67, h0_68, h0_69])), (h1, .inl (ch1, 48, .inl fh1))]) [0, 1] (by decide) rfl
                        have hK9 := hK.sub (tys' := []) [] rfl
                        refine W.widen (k := 0) (n := 0) (Nat.le_of_ble_eq_true rfl) (Nat.le_of_ble_eq_true rfl) ?_
                        exact W.zret (v := 0) hx hb hr (by rfl) (fun t ht hW => ⟨⟨0, (), rfl, (show 0 = v_reads p1 p2 p3 p4 p5 p6 by unfold v_reads; rw [if_neg (by omega)]), ⟨0, fh1, by rw [ht]; exact hP9, va_K.moved hW.alike hK9, hD9⟩⟩, hS.F ht⟩) hS.2.2 dX12_reads_83
                      · have k_35 : (16 : Int) ≥ (p6).toInt := z_nlt c_33
                        refine lv_iload_n hx hb dX12_reads_67 rfl (lv_at hl 3 rfl) ?_
                        refine lv_iload hx hb dX12_reads_68 (lv_at hl 4 rfl) ?_
                        refine lv_iadd hx hb dX12_reads_70 ?_
                        refine lv_topi (fun z_36 ez_36 => ?_)
                        have kz_36 : (z_36).toInt = (p3).toInt + (p4).toInt := by rw [ez_36]; exact z_add (a := (p3).toInt) (b := (p4).toInt) rfl rfl (by omega) (by omega)
                        refine lv_iload hx hb dX12_reads_71 (lv_at hl 5 rfl) ?_
                        refine lv_iadd hx hb dX12_reads_73 ?_
                        refine lv_topi (fun z_37 ez_37 => ?_)
                        have kz_37 : (z_37).toInt = (z_36).toInt + (p5).toInt := by rw [ez_37]; exact z_add (a := (z_36).toInt) (b := (p5).toInt) rfl rfl (by omega) (by omega)
                        refine lv_iload hx hb dX12_reads_74 (lv_at hl 6 rfl) ?_
                        refine lv_iadd hx hb dX12_reads_76 ?_
                        refine lv_topi (fun z_38 ez_38 => ?_)
                        have kz_38 : (z_38).toInt = (z_37).toInt + (p6).toInt := by rw [ez_38]; exact z_add (a := (z_37).toInt) (b := (p6).toInt) rfl rfl (by omega) (by omega)
                        refine lv_bipush (v := 16) hx hb dX12_reads_77 (by decide) ?_
                        refine lv_icmp_eq (tgt := 84) hx hb dX12_reads_79 (by decide) (fun c_39 => ?_) (fun c_39 => ?_)
                        · have k_40 : (z_38).toInt = (16 : Int) := z_eq c_39
                          obtain rfl : z_38 = 16 := z_eq' (show (z_38).toInt = (16 : Int) by omega)
                          refine lv_bipush (v := 16) hx hb dX12_reads_84 (by decide) ?_
                          refine lv_iload_n hx hb dX12_reads_86 rfl (lv_at hl 1 rfl) ?_
                          refine lv_imul hx hb dX12_reads_87 ?_
                          refine lv_topi (fun z_42 ez_42 => ?_)
                          have kz_42 : (z_42).toInt = (16 : Int) * (p1).toInt := by rw [ez_42]; exact z_mul (a := (16 : Int)) (b := (p1).toInt) rfl rfl (by omega) (by omega)
                          refine lv_iconst (v := 4) hx hb dX12_reads_88 (by decide) ?_
                          refine lv_iload_n hx hb dX12_reads_89 rfl (lv_at hl 2 rfl) ?_
                          refine lv_imul hx hb dX12_reads_90 ?_
                          refine lv_topi (fun z_43 ez_43 => ?_)
                          have kz_43 : (z_43).toInt = (4 : Int) * (p2).toInt := by rw [ez_43]; exact z_mul (a := (4 : Int)) (b := (p2).toInt) rfl rfl (by omega) (by omega)
                          refine lv_iadd hx hb dX12_reads_91 ?_
                          refine lv_topi (fun z_44 ez_44 => ?_)
                          have kz_44 : (z_44).toInt = (z_42).toInt + (z_43).toInt := by rw [ez_44]; exact z_add (a := (z_42).toInt) (b := (z_43).toInt) rfl rfl (by omega) (by omega)
                          refine lv_istore (lv' := [(7, .int z_44), (0, .ref h0), (1, .int p1), (2, .int p2), (3, .int p3), (4, .int p4), (5, .int p5), (6, .int p6)]) hx hb dX12_reads_92 hl (by decide) rfl (fun ls hl => ?_)
                          refine lv_aload_n hx hb dX12_reads_94 rfl (lv_at hl 1 rfl) ?_
                          refine va_get (D := (dC, dI)) (ci := 12) (v := .ref h1) (C := RX12) (T := TX12) (N := 70) hx hb hts hiX12 hown hK hP 0 rfl rfl 35 (by decide) w__fieldLink_RX12_78_ShellHeapModel_reads_I_ (fun _ h9 => h9) rfl dX12_reads_95 ?_
                          refine lv_iload hx hb dX12_reads_98 (lv_at hl 0 rfl) ?_
                          refine lv_iload_n hx hb dX12_reads_100 rfl (lv_at hl 4 rfl) ?_
                          refine va_iast hx hb hK hP hD hS 1 0 rfl rfl (z_vpin (by omega) (by omega)) dX12_reads_101 (fun H_45 locs hP hD hS => ?_)
                          have hP : va_P (dC, dI) vwCl [(h0, .inr (12, [h0_0, h0_1, .int 0, h0_3, h0_4, h0_5, h0_6, h0_7, h0_8, h0_9, h0_10, h0_11, h0_12, h0_13, h0_14, h0_15, h0_16, h0_17, h0_18, h0_19, h0_20, h0_21, h0_22, h0_23, h0_24, h0_25, h0_26, h0_27, h0_28, h0_29, h0_30, h0_31, h0_32, h0_33, h0_34, .ref h1, h0_36, h0_37, h0_38, h0_39, h0_40, h0_41, h0_42, h0_43, h0_44, h0_45, h0_46, h0_47, h0_48, h0_49, h0_50, h0_51, h0_52, h0_53, h0_54, h0_55, h0_56, h0_57, h0_58, h0_59, h0_60, h0_61, h0_62, h0_63, h0_64, h0_65, h0_66, h0_67, h0_68, h0_69])), (h1, .inl (ch1, 48, .inl (upd fh1 (z_44 : Int32).toNatClampNeg p3)))] H_45 := hP
                          have hD : va_D A [(h0, .inr (12, [h0_0, h0_1, .int 0, h0_3, h0_4, h0_5, h0_6, h0_7, h0_8, h0_9, h0_10, h0_11, h0_12, h0_13, h0_14, h0_15, h0_16, h0_17, h0_18, h0_19, h0_20, h0_21, h0_22, h0_23, h0_24, h0_25, h0_26, h0_27, h0_28, h0_29, h0_30, h0_31, h0_32, h0_33, h0_34, .ref h1, h0_36, h0_37, h0_38, h0_39, h0_40, h0_41, h0_42, h0_43, h0_44, h0_45, h0_46, h0_47, h0_48, h0_49, h0_50, h0_51, h0_52, h0_53, h0_54, h0_55, h0_56, h0_57, h0_58, h0_59, h0_60, h0_61, h0_62, h0_63, h0_64, h0_65, h0_66, h0_67, h0_68, h0_69])), (h1, .inl (ch1, 48, .inl (upd fh1 (z_44 : Int32).toNatClampNeg p3)))] := hD
                          generalize (upd fh1 (z_44 : Int32).toNatClampNeg p3) = f_46 at hP hD
                          refine lv_aload_n hx hb dX12_reads_102 rfl (lv_at hl 1 rfl) ?_
                          refine va_get (D := (dC, dI)) (ci := 12) (v := .ref h1) (C := RX12) (T := TX12) (N := 70) hx hb hts hiX12 hown hK hP 0 rfl rfl 35 (by decide) w__fieldLink_RX12_78_ShellHeapModel_reads_I_ (fun _ h9 => h9) rfl dX12_reads_103 ?_
                          refine lv_iload hx hb dX12_reads_106 (lv_at hl 0 rfl) ?_
                          refine lv_iconst (v := 1) hx hb dX12_reads_108 (by decide) ?_
                          refine lv_iadd hx hb dX12_reads_109 ?_
                          refine lv_topi (fun z_47 ez_47 => ?_)
                          have kz_47 : (z_47).toInt = (z_44).toInt + (1 : Int) := by rw [ez_47]; exact z_add (a := (z_44).toInt) (b := (1 : Int)) rfl rfl (by omega) (by omega)
                          refine lv_iload hx hb dX12_reads_110 (lv_at hl 5 rfl) ?_
                          refine va_iast hx hb hK hP hD hS 1 0 rfl rfl (z_vpin (by omega) (by omega)) dX12_reads_112 (fun H_48 locs hP hD hS => ?_)
                          have hP : va_P (dC, dI) vwCl [(h0, .inr (12, [h0_0, h0_1, .int 0, h0_3, h0_4, h0_5, h0_6, h0_7, h0_8, h0_9, h0_10, h0_11, h0_12, h0_13, h0_14, h0_15, h0_16, h0_17, h0_18, h0_19, h0_20, h0_21, h0_22, h0_23, h0_24, h0_25, h0_26, h0_27, h0_28, h0_29, h0_30, h0_31, h0_32, h0_33, h0_34, .ref h1, h0_36, h0_37, h0_38, h0_39, h0_40, h0_41, h0_42, h0_43, h0_44, h0_45, h0_46, h0_47, h0_48, h0_49, h0_50, h0_51, h0_52, h0_53, h0_54, h0_55, h0_56, h0_57, h0_58, h0_59, h0_60, h0_61, h0_62, h0_63, h0_64, h0_65, h0_66, h0_67, h0_68, h0_69])), (h1, .inl (ch1, 48, .inl (upd f_46 (z_47 : Int32).toNatClampNeg p4)))] H_48 := hP
                          have hD : va_D A [(h0, .inr (12, [h0_0, h0_1, .int 0, h0_3, h0_4, h0_5, h0_6, h0_7, h0_8, h0_9, h0_10, h0_11, h0_12, h0_13, h0_14, h0_15, h0_16, h0_17, h0_18, h0_19, h0_20, h0_21, h0_22, h0_23, h0_24, h0_25, h0_26, h0_27, h0_28, h0_29, h0_30, h0_31, h0_32, h0_33, h0_34, .ref h1, h0_36, h0_37, h0_38, h0_39, h0_40, h0_41, h0_42, h0_43, h0_44, h0_45, h0_46, h0_47, h0_48, h0_49, h0_50, h0_51, h0_52, h0_53, h0_54, h0_55, h0_56, h0_57, h0_58, h0_59, h0_60, h0_61, h0_62, h0_63, h0_64, h0_65, h0_66, h0_67, h0_68, h0_69])), (h1, .inl (ch1, 48, .inl (upd f_46 (z_47 : Int32).toNatClampNeg p4)))] := hD
                          generalize (upd f_46 (z_47 : Int32).toNatClampNeg p4) = f_49 at hP hD
                          refine lv_aload_n hx hb dX12_reads_113 rfl (lv_at hl 1 rfl) ?_
                          refine va_get (D := (dC, dI)) (ci := 12) (v := .ref h1) (C := RX12) (T := TX12) (N := 70) hx hb hts hiX12 hown hK hP 0 rfl rfl 35 (by decide) w__fieldLink_RX12_78_ShellHeapModel_reads_I_ (fun _ h9 => h9) rfl dX12_reads_114 ?_
                          refine lv_iload hx hb dX12_reads_117 (lv_at hl 0 rfl) ?_
                          refine lv_iconst (v := 2) hx hb dX12_reads_119 (by decide) ?_
                          refine lv_iadd hx hb dX12_reads_120 ?_
                          refine lv_topi (fun z_50 ez_50 => ?_)
                          have kz_50 : (z_50).toInt = (z_44).toInt + (2 : Int) := by rw [ez_50]; exact z_add (a := (z_44).toInt) (b := (2 : Int)) rfl rfl (by omega) (by omega)
                          refine lv_iload hx hb dX12_reads_121 (lv_at hl 6 rfl) ?_
                          refine va_iast hx hb hK hP hD hS 1 0 rfl rfl (z_vpin (by omega) (by omega)) dX12_reads_123 (fun H_51 locs hP hD hS => ?_)
                          have hP : va_P (dC, dI) vwCl [(h0, .inr (12, [h0_0, h0_1, .int 0, h0_3, h0_4, h0_5, h0_6, h0_7, h0_8, h0_9, h0_10, h0_11, h0_12, h0_13, h0_14, h0_15, h0_16, h0_17, h0_18, h0_19, h0_20, h0_21, h0_22, h0_23, h0_24, h0_25, h0_26, h0_27, h0_28, h0_29, h0_30, h0_31, h0_32, h0_33, h0_34, .ref h1, h0_36, h0_37, h0_38, h0_39, h0_40, h0_41, h0_42, h0_43, h0_44, h0_45, h0_46, h0_47, h0_48, h0_49, h0_50, h0_51, h0_52, h0_53, h0_54, h0_55, h0_56, h0_57, h0_58, h0_59, h0_60, h0_61, h0_62, h0_63, h0_64, h0_65, h0_66, h0_67, h0_68, h0_69])), (h1, .inl (ch1, 48, .inl (upd f_49 (z_50 : Int32).toNatClampNeg p5)))] H_51 := hP
                          have hD : va_D A [(h0, .inr (12, [h0_0, h0_1, .int 0, h0_3, h0_4, h0_5, h0_6, h0_7, h0_8, h0_9, h0_10, h0_11, h0_12, h0_13, h0_14, h0_15, h0_16, h0_17, h0_18, h0_19, h0_20, h0_21, h0_22, h0_23, h0_24, h0_25, h0_26, h0_27, h0_28, h0_29, h0_30, h0_31, h0_32, h0_33, h0_34, .ref h1, h0_36, h0_37, h0_38, h0_39, h0_40, h0_41, h0_42, h0_43, h0_44, h0_45, h0_46, h0_47, h0_48, h0_49, h0_50, h0_51, h0_52, h0_53, h0_54, h0_55, h0_56, h0_57, h0_58, h0_59, h0_60, h0_61, h0_62, h0_63, h0_64, h0_65, h0_66, h0_67, h0_68, h0_69])), (h1, .inl (ch1, 48, .inl (upd f_49 (z_50 : Int32).toNatClampNeg p5)))] := hD
                          generalize (upd f_49 (z_50 : Int32).toNatClampNeg p5) = f_52 at hP hD
                          refine lv_aload_n hx hb dX12_reads_124 rfl (lv_at hl 1 rfl) ?_
                          refine va_get (D := (dC, dI)) (ci := 12) (v := .ref h1) (C := RX12) (T := TX12) (N := 70) hx hb hts hiX12 hown hK hP 0 rfl rfl 35 (by decide) w__fieldLink_RX12_78_ShellHeapModel_reads_I_ (fun _ h9 => h9) rfl dX12_reads_125 ?_
                          refine lv_iload hx hb dX12_reads_128 (lv_at hl 0 rfl) ?_
                          refine lv_iconst (v := 3) hx hb dX12_reads_130 (by decide) ?_
                          refine lv_iadd hx hb dX12_reads_131 ?_
                          refine lv_topi (fun z_53 ez_53 => ?_)
                          have kz_53 : (z_53).toInt = (z_44).toInt + (3 : Int) := by rw [ez_53]; exact z_add (a := (z_44).toInt) (b := (3 : Int)) rfl rfl (by omega) (by omega)
                          refine lv_iload hx hb dX12_reads_132 (lv_at hl 7 rfl) ?_
                          refine va_iast hx hb hK hP hD hS 1 0 rfl rfl (z_vpin (by omega) (by omega)) dX12_reads_134 (fun H_54 locs hP hD hS => ?_)
                          have hP : va_P (dC, dI) vwCl [(h0, .inr (12, [h0_0, h0_1, .int 0, h0_3, h0_4, h0_5, h0_6, h0_7, h0_8, h0_9, h0_10, h0_11, h0_12, h0_13, h0_14, h0_15, h0_16, h0_17, h0_18, h0_19, h0_20, h0_21, h0_22, h0_23, h0_24, h0_25, h0_26, h0_27, h0_28, h0_29, h0_30, h0_31, h0_32, h0_33, h0_34, .ref h1, h0_36, h0_37, h0_38, h0_39, h0_40, h0_41, h0_42, h0_43, h0_44, h0_45, h0_46, h0_47, h0_48, h0_49, h0_50, h0_51, h0_52, h0_53, h0_54, h0_55, h0_56, h0_57, h0_58, h0_59, h0_60, h0_61, h0_62, h0_63, h0_64, h0_65, h0_66, h0_67, h0_68, h0_69])), (h1, .inl (ch1, 48, .inl (upd f_52 (z_53 : Int32).toNatClampNeg p6)))] H_54 := hP
                          have hD : va_D A [(h0, .inr (12, [h0_0, h0_1, .int 0, h0_3, h0_4, h0_5, h0_6, h0_7, h0_8, h0_9, h0_10, h0_11, h0_12, h0_13, h0_14, h0_15, h0_16, h0_17, h0_18, h0_19, h0_20, h0_21, h0_22, h0_23, h0_24, h0_25, h0_26, h0_27, h0_28, h0_29, h0_30, h0_31, h0_32, h0_33, h0_34, .ref h1, h0_36, h0_37, h0_38, h0_39, h0_40, h0_41, h0_42, h0_43, h0_44, h0_45, h0_46, h0_47, h0_48, h0_49, h0_50, h0_51, h0_52, h0_53, h0_54, h0_55, h0_56, h0_57, h0_58, h0_59, h0_60, h0_61, h0_62, h0_63, h0_64, h0_65, h0_66, h0_67, h0_68, h0_69])), (h1, .inl (ch1, 48, .inl (upd f_52 (z_53 : Int32).toNatClampNeg p6)))] := hD
                          generalize (upd f_52 (z_53 : Int32).toNatClampNeg p6) = f_55 at hP hD
                          refine lv_iconst (v := 1) hx hb dX12_reads_135 (by decide) ?_
                          have hP9 := hP.sub (ws' := [(h0, .inr (12, [h0_0, h0_1, .int 0, h0_3, h0_4, h0_5, h0_6, h0_7, h0_8, h0_9, h0_10, h0_11, h0_12, h0_13, h0_14, h0_15, h0_16, h0_17, h0_18, h0_19, h0_20, h0_21, h0_22, h0_23, h0_24, h0_25, h0_26, h0_27, h0_28, h0_29, h0_30, h0_31, h0_32, h0_33, h0_34, .ref h1, h0_36, h0_37, h0_38, h0_39, h0_40, h0_41, h0_42, h0_43, h0_44, h0_45, h0_46, h0_47, h0_48, h0_49, h0_50, h0_51, h0_52, h0_53, h0_54, h0_55, h0_56, h0_57, h0_58, h0_59, h0_60, h0_61, h0_62, h0_63, h0_64, h0_65, h0_66, h0_67, h0_68, h0_69])), (h1, .inl (ch1, 48, .inl f_55))]) [0, 1] rfl
                          have hD9 := hD.sub (ws' := [(h0, .inr (12, [h0_0, h0_1, .int 0, h0_3, h0_4, h0_5, h0_6, h0_7, h0_8, h0_9, h0_10, h0_11, h0_12, h0_13, h0_14, h0_15, h0_16, h0_17, h0_18, h0_19, h0_20, h0_21, h0_22, h0_23, h0_24, h0_25, h0_26, h0_27, h0_28, h0_29, h0_30, h0_31, h0_32, h0_33, h0_34, .ref h1, h0_36, h0_37, h0_38, h0_39, h0_40, h0_41, h0_42, h0_43, h0_44, h0_45, h0_46, h0_47, h0_48, h0_49, h0_50, h0_51, h0_52, h0_53, h0_54, h0_55, h0_56, h0_57, h0_58, h0_59, h0_60, h0_61, h0_62, h0_63, h0_64, h0_65, h0_66, h0_67, h0_68, h0_69])), (h1, .inl (ch1, 48, .inl f_55))]) [0, 1] (by decide) rfl
                          have hK9 := hK.sub (tys' := []) [] rfl
                          refine W.widen (k := 0) (n := 0) (Nat.le_of_ble_eq_true rfl) (Nat.le_of_ble_eq_true rfl) ?_
                          exact W.zret (v := 1) hx hb hr (by rfl) (fun t ht hW => ⟨⟨1, (), rfl, (show 1 = v_reads p1 p2 p3 p4 p5 p6 by unfold v_reads; rw [← ez_36, ← ez_37, ← ez_38, if_pos (by omega)]), ⟨0, f_55, by rw [ht]; exact hP9, va_K.moved hW.alike hK9, hD9⟩⟩, hS.F ht⟩) hS.2.2 dX12_reads_136
                        · have k_56 : (z_38).toInt ≠ (16 : Int) := z_ne c_39
                          refine lv_iconst (v := 0) hx hb dX12_reads_82 (by decide) ?_
                          have hP9 := hP.sub (ws' := [(h0, .inr (12, [h0_0, h0_1, .int 0, h0_3, h0_4, h0_5, h0_6, h0_7, h0_8, h0_9, h0_10, h0_11, h0_12, h0_13, h0_14, h0_15, h0_16, h0_17, h0_18, h0_19, h0_20, h0_21, h0_22, h0_23, h0_24, h0_25, h0_26, h0_27, h0_28, h0_29, h0_30, h0_31, h0_32, h0_33, h0_34, .ref h1, h0_36, h0_37, h0_38, h0_39, h0_40, h0_41, h0_42, h0_43, h0_44, h0_45, h0_46, h0_47, h0_48, h0_49, h0_50, h0_51, h0_52, h0_53, h0_54, h0_55, h0_56, h0_57, h0_58, h0_59, h0_60, h0_61, h0_62, h0_63, h0_64, h0_65, h0_66, h0_67, h0_68, h0_69])), (h1, .inl (ch1, 48, .inl fh1))]) [0, 1] rfl
                          have hD9 := hD.sub (ws' := [(h0, .inr (12, [h0_0, h0_1, .int 0, h0_3, h0_4, h0_5, h0_6, h0_7, h0_8, h0_9, h0_10, h0_11, h0_12, h0_13, h0_14, h0_15, h0_16, h0_17, h0_18, h0_19, h0_20, h0_21, h0_22, h0_23, h0_24, h0_25, h0_26, h0_27, h0_28, h0_29, h0_30, h0_31, h0_32, h0_33, h0_34, .ref h1, h0_36, h0_37, h0_38, h0_39, h0_40, h0_41, h0_42, h0_43, h0_44, h0_45, h0_46, h0_47, h0_48, h0_49, h0_50, h0_51, h0_52, h0_53, h0_54, h0_55, h0_56, h0_57, h0_58, h0_59, h0_60, h0_61, h0_62, h0_63, h0_64, h0_65, h0_66, h0_67, h0_68, h0_69])), (h1, .inl (ch1, 48, .inl fh1))]) [0, 1] (by decide) rfl
                          have hK9 := hK.sub (tys' := []) [] rfl
                          refine W.widen (k := 0) (n := 0) (Nat.le_of_ble_eq_true rfl) (Nat.le_of_ble_eq_true rfl) ?_
                          exact W.zret (v := 0) hx hb hr (by rfl) (fun t ht hW => ⟨⟨0, (), rfl, (show 0 = v_reads p1 p2 p3 p4 p5 p6 by unfold v_reads; rw [← ez_36, ← ez_37, ← ez_38, if_neg (by omega)]), ⟨0, fh1, by rw [ht]; exact hP9, va_K.moved hW.alike hK9, hD9⟩⟩, hS.F ht⟩) hS.2.2 dX12_reads_83
  · have hw_4 : ¬ (0 ≤ p1.toInt ∧ p1.toInt < 3) := hw_4
    refine lv_if_eq (tgt := 82) hx hb dX12_reads_9 (by decide) (fun _ => ?_) (fun c_57 => absurd (by decide) c_57)
    refine lv_iconst (v := 0) hx hb dX12_reads_82 (by decide) ?_
    have hP9 := hP.sub (ws' := [(h0, .inr (12, [h0_0, h0_1, .int 0, h0_3, h0_4, h0_5, h0_6, h0_7, h0_8, h0_9, h0_10, h0_11, h0_12, h0_13, h0_14, h0_15, h0_16, h0_17, h0_18, h0_19, h0_20, h0_21, h0_22, h0_23, h0_24, h0_25, h0_26, h0_27, h0_28, h0_29, h0_30, h0_31, h0_32, h0_33, h0_34, .ref h1, h0_36, h0_37, h0_38, h0_39, h0_40, h0_41, h0_42, h0_43, h0_44, h0_45, h0_46, h0_47, h0_48, h0_49, h0_50, h0_51, h0_52, h0_53, h0_54, h0_55, h0_56, h0_57, h0_58, h0_59, h0_60, h0_61, h0_62, h0_63, h0_64, h0_65, h0_66, h0_67, h0_68, h0_69])), (h1, .inl (ch1, 48, .inl fh1))]) [0, 1] rfl
    have hD9 := hD.sub (ws' := [(h0, .inr (12, [h0_0, h0_1, .int 0, h0_3, h0_4, h0_5, h0_6, h0_7, h0_8, h0_9, h0_10, h0_11, h0_12, h0_13, h0_14, h0_15, h0_16, h0_17, h0_18, h0_19, h0_20, h0_21, h0_22, h0_23, h0_24, h0_25, h0_26, h0_27, h0_28, h0_29, h0_30, h0_31, h0_32, h0_33, h0_34, .ref h1, h0_36, h0_37, h0_38, h0_39, h0_40, h0_41, h0_42, h0_43, h0_44, h0_45, h0_46, h0_47, h0_48, h0_49, h0_50, h0_51, h0_52, h0_53, h0_54, h0_55, h0_56, h0_57, h0_58, h0_59, h0_60, h0_61, h0_62, h0_63, h0_64, h0_65, h0_66, h0_67, h0_68, h0_69])), (h1, .inl (ch1, 48, .inl fh1))]) [0, 1] (by decide) rfl
    have hK9 := hK.sub (tys' := []) [] rfl
    refine W.widen (k := 0) (n := 0) (Nat.le_of_ble_eq_true rfl) (Nat.le_of_ble_eq_true rfl) ?_
    exact W.zret (v := 0) hx hb hr (by rfl) (fun t ht hW => ⟨⟨0, (), rfl, (show 0 = v_reads p1 p2 p3 p4 p5 p6 by unfold v_reads; rw [if_neg (by omega)]), ⟨0, fh1, by rw [ht]; exact hP9, va_K.moved hW.alike hK9, hD9⟩⟩, hS.F ht⟩) hS.2.2 dX12_reads_83
