theorem z_ii {x y : Int32} (h : x.toInt = y.toInt) : x = y := Int32.toInt_inj.mp h
def v_layA (x : Int32) : Int32 := if x.toInt < 12 then x else (-1)
def v_layN (x : Int32) : Int32 := if x.toInt < 12 then x + 1 else x
def v_kiA (k m v : Int32) : Int32 := if (0 ≤ m.toInt ∧ m.toInt ≤ 999 ∧ 1 ≤ v.toInt ∧ v.toInt ≤ 2 ∧ k.toInt < 6) then k else (-1)
def v_kiN (k m v : Int32) : Int32 := if (0 ≤ m.toInt ∧ m.toInt ≤ 999 ∧ 1 ≤ v.toInt ∧ v.toInt ≤ 2 ∧ k.toInt < 6) then k + 1 else k
def v_keA (k a s o : Int32) : Int32 := if (0 ≤ a.toInt ∧ a.toInt < k.toInt ∧ 0 ≤ s.toInt ∧ s.toInt ≤ 3 ∧ 1 ≤ o.toInt ∧ o.toInt ≤ 16) then 1 else 0
def v_meA (l n a s r w : Int32) : Int32 := if (0 ≤ a.toInt ∧ a.toInt < l.toInt ∧ n.toInt < 200 ∧ 0 ≤ s.toInt ∧ s.toInt ≤ 99 ∧ 0 ≤ r.toInt ∧ r.toInt ≤ 30 ∧ 0 ≤ w.toInt ∧ w.toInt ≤ 99) then n + 1 else (-1)
def v_meN (l n a s r w : Int32) : Int32 := if (0 ≤ a.toInt ∧ a.toInt < l.toInt ∧ n.toInt < 200 ∧ 0 ≤ s.toInt ∧ s.toInt ≤ 99 ∧ 0 ≤ r.toInt ∧ r.toInt ≤ 30 ∧ 0 ≤ w.toInt ∧ w.toInt ≤ 99) then n + 1 else n
def v_hpW (w a b : Int32) : Int32 := if (2 ≤ a.toInt ∧ a.toInt ≤ 12 ∧ 2 ≤ b.toInt ∧ b.toInt ≤ 12) then a else w
def v_hpH (h a b : Int32) : Int32 := if (2 ≤ a.toInt ∧ a.toInt ≤ 12 ∧ 2 ≤ b.toInt ∧ b.toInt ≤ 12) then b else h
def v_hpC (c a b : Int32) : Int32 := if (2 ≤ a.toInt ∧ a.toInt ≤ 12 ∧ 2 ≤ b.toInt ∧ b.toInt ≤ 12) then 0 else c
def v_thA (c n k a m : Int32) : Int32 := if (0 ≤ k.toInt ∧ k.toInt < c.toInt ∧ 0 ≤ a.toInt ∧ a.toInt < n.toInt ∧ 0 ≤ m.toInt ∧ m.toInt ≤ 500) then 1 else 0
def v_no (xs ys : Nat → Int32) (n : Int) (x y : Int32) : Prop := ∀ j : Nat, (j : Int) < n → ¬ ((xs j).toInt = x.toInt ∧ (ys j).toInt = y.toInt)
theorem v_no_0 {xs ys : Nat → Int32} {n : Int} {x y : Int32} (h : n ≤ 0) : v_no xs ys n x y := fun j hj => absurd hj (by omega)
theorem v_no_s {xs ys : Nat → Int32} {i x y : Int32} {n : Int} (h : v_no xs ys i.toInt x y) (hi : (0 : Int) ≤ i.toInt) (hn : n = i.toInt + 1) (hne : ¬ ((xs i.toNatClampNeg).toInt = x.toInt ∧ (ys i.toNatClampNeg).toInt = y.toInt)) : v_no xs ys n x y := by
  intro j hj
  by_cases hji : (j : Int) < i.toInt
  · exact h j hji
  · have e : ((i.toNatClampNeg : Nat) : Int) = i.toInt := Int.toNat_of_nonneg hi
    have e2 : j = i.toNatClampNeg := by omega
    rw [e2]; exact hne
theorem v_no_end {xs ys : Nat → Int32} {n c : Int} {x y : Int32} (h : v_no xs ys n x y) (hc : c ≤ n) : v_no xs ys c x y := fun j hj => h j (by omega)
def v_cok (w h c : Int32) (xs ys : Nat → Int32) (x y : Int32) : Prop := ((0 : Int) ≤ x.toInt ∧ x.toInt < w.toInt ∧ (0 : Int) ≤ y.toInt ∧ y.toInt < h.toInt ∧ c.toInt < (10 : Int)) ∧ v_no xs ys c.toInt x y
theorem v_cok_mk {w h c x y : Int32} {xs ys : Nat → Int32} (h1 : (0 : Int) ≤ x.toInt ∧ x.toInt < w.toInt ∧ (0 : Int) ≤ y.toInt ∧ y.toInt < h.toInt ∧ c.toInt < (10 : Int)) (h2 : v_no xs ys c.toInt x y) : v_cok w h c xs ys x y := ⟨h1, h2⟩
theorem v_cok_out {w h c x y : Int32} {xs ys : Nat → Int32} (h1 : ¬ ((0 : Int) ≤ x.toInt ∧ x.toInt < w.toInt ∧ (0 : Int) ≤ y.toInt ∧ y.toInt < h.toInt ∧ c.toInt < (10 : Int))) : ¬ v_cok w h c xs ys x y := fun q => h1 q.1
theorem v_cok_hit {w h c x y : Int32} {xs ys : Nat → Int32} {i : Int32} (hi : (0 : Int) ≤ i.toInt) (hc : i.toInt < c.toInt) (he : (xs i.toNatClampNeg).toInt = x.toInt ∧ (ys i.toNatClampNeg).toInt = y.toInt) : ¬ v_cok w h c xs ys x y := fun q => by
  have e : ((i.toNatClampNeg : Nat) : Int) = i.toInt := Int.toNat_of_nonneg hi
  exact q.2 i.toNatClampNeg (by omega) he
noncomputable def v_coA (w h c : Int32) (xs ys : Nat → Int32) (x y : Int32) : Int32 := @ite _ (v_cok w h c xs ys x y) (Classical.propDecidable _) c (-1)
noncomputable def v_coN (w h c : Int32) (xs ys : Nat → Int32) (x y : Int32) : Int32 := @ite _ (v_cok w h c xs ys x y) (Classical.propDecidable _) (c + 1) c
noncomputable def v_coX (w h c : Int32) (xs ys : Nat → Int32) (x y : Int32) : Nat → Int32 := @ite _ (v_cok w h c xs ys x y) (Classical.propDecidable _) (upd xs c.toNatClampNeg x) xs
noncomputable def v_coY (w h c : Int32) (xs ys : Nat → Int32) (x y : Int32) : Nat → Int32 := @ite _ (v_cok w h c xs ys x y) (Classical.propDecidable _) (upd ys c.toNatClampNeg y) ys
theorem v_coA_pos {w h c x y : Int32} {xs ys : Nat → Int32} (q : v_cok w h c xs ys x y) : v_coA w h c xs ys x y = c := if_pos q
theorem v_coA_neg {w h c x y : Int32} {xs ys : Nat → Int32} (q : ¬ v_cok w h c xs ys x y) : v_coA w h c xs ys x y = (-1) := if_neg q
theorem v_coN_pos {w h c x y : Int32} {xs ys : Nat → Int32} (q : v_cok w h c xs ys x y) : v_coN w h c xs ys x y = c + 1 := if_pos q
theorem v_coN_neg {w h c x y : Int32} {xs ys : Nat → Int32} (q : ¬ v_cok w h c xs ys x y) : v_coN w h c xs ys x y = c := if_neg q
theorem v_coX_pos {w h c x y : Int32} {xs ys : Nat → Int32} (q : v_cok w h c xs ys x y) : v_coX w h c xs ys x y = upd xs c.toNatClampNeg x := if_pos q
theorem v_coX_neg {w h c x y : Int32} {xs ys : Nat → Int32} (q : ¬ v_cok w h c xs ys x y) : v_coX w h c xs ys x y = xs := if_neg q
theorem v_coY_pos {w h c x y : Int32} {xs ys : Nat → Int32} (q : v_cok w h c xs ys x y) : v_coY w h c xs ys x y = upd ys c.toNatClampNeg y := if_pos q
theorem v_coY_neg {w h c x y : Int32} {xs ys : Nat → Int32} (q : ¬ v_cok w h c xs ys x y) : v_coY w h c xs ys x y = ys := if_neg q
theorem z_add1 {c : Int32} (h : (0 : Int) ≤ c.toInt ∧ c.toInt ≤ (1000 : Int)) : (c + 1).toInt = c.toInt + 1 := z_add (a := c.toInt) (b := (1 : Int)) rfl rfl (by omega) (by omega)
def u_s_X5_nameA : List Cond := .code yX5_name cX5_name 4 (some .int) :: ([.fieldLink RX5 41 "ShellHeap$Pantry" "kinds" "I", .fieldLink RX5 11 "ShellHeap$Pantry" "meats" "[I", .fieldLink RX5 15 "ShellHeap$Pantry" "valvesOf" "[I", .fieldLink RX5 25 "ShellHeap$Pantry" "keeps" "[I"] ++ (wsX50 ++ []))
theorem gd_s_X5_nameA : z_gd u_s_X5_nameA := z_gdc (by decide +kernel) (z_gda gdX5 (z_gd0))
set_option maxHeartbeats 4000000 in
set_option maxRecDepth 100000 in
theorem s_X5_nameA (l : Launch) (dC : Nat → ClassId) (dI : Nat → Nat → Nat) (sz : Nat) (h0 : Nat) (p1 : Int32) (p2 : Int32) (h1 : Nat) (h2 : Nat) (h0_2 : Value) (h0_3 : Value) (h3 : Nat) (h0_5 : Value) (h0_6 : Value) (h0_7 : Value) (h0_8 : Value) (pk : Int32) (ch1 : ClassId) (fh1 : Nat → Int32) (ch2 : ClassId) (fh2 : Nat → Int32) (ch3 : ClassId) (fh3 : Nat → Int32) (hB_pk : ((0 : Int) ≤ (pk).toInt ∧ (pk).toInt ≤ (6 : Int))) : Met l yX5_name u_s_X5_nameA ({ frames := 0, cells := 0, slots := 0, locals := 0 }) (va_Pc [.ref h0, .int p1, .int p2] (z_C (dC, dI) vwCl [(h0, .inr (5, [.ref h1, .ref h2, h0_2, h0_3, .ref h3, h0_5, h0_6, h0_7, h0_8, .int pk])), (h1, .inl (ch1, 6, .inl fh1)), (h2, .inl (ch2, 6, .inl fh2)), (h3, .inl (ch3, 24, .inl fh3))] [(ch1, .int), (ch2, .int), (ch3, .int)] sz)) (va_Qi (fun (r : Int32) (_ : Unit) => r = v_kiA pk p1 p2) (fun (_ : Unit) (t : State) => ∃ (n_h0_kinds : Int32), ∃ (g_h1 : Nat → Int32), ∃ (g_h2 : Nat → Int32), ∃ (g_h3 : Nat → Int32), ((0 : Int) ≤ (n_h0_kinds).toInt ∧ (n_h0_kinds).toInt ≤ (6 : Int)) ∧ (n_h0_kinds = v_kiN pk p1 p2) ∧ va_P (dC, dI) vwCl [(h0, .inr (5, [.ref h1, .ref h2, h0_2, h0_3, .ref h3, h0_5, h0_6, h0_7, h0_8, .int n_h0_kinds])), (h1, .inl (ch1, 6, .inl g_h1)), (h2, .inl (ch2, 6, .inl g_h2)), (h3, .inl (ch3, 24, .inl g_h3))] t.heap ∧ va_K (dC, dI) vwCl [] t ∧ va_D (va_A [(h0, .inr (5, [.ref h1, .ref h2, h0_2, h0_3, .ref h3, h0_5, h0_6, h0_7, h0_8, .int pk])), (h1, .inl (ch1, 6, .inl fh1)), (h2, .inl (ch2, 6, .inl fh2)), (h3, .inl (ch3, 24, .inl fh3))] sz) [(h0, .inr (5, [.ref h1, .ref h2, h0_2, h0_3, .ref h3, h0_5, h0_6, h0_7, h0_8, .int n_h0_kinds])), (h1, .inl (ch1, 6, .inl g_h1)), (h2, .inl (ch2, 6, .inl g_h2)), (h3, .inl (ch3, 24, .inl g_h3))]) (va_A [(h0, .inr (5, [.ref h1, .ref h2, h0_2, h0_3, .ref h3, h0_5, h0_6, h0_7, h0_8, .int pk])), (h1, .inl (ch1, 6, .inl fh1)), (h2, .inl (ch2, 6, .inl fh2)), (h3, .inl (ch3, 24, .inl fh3))] sz)) 0 0 (va_A [(h0, .inr (5, [.ref h1, .ref h2, h0_2, h0_3, .ref h3, h0_5, h0_6, h0_7, h0_8, .int pk])), (h1, .inl (ch1, 6, .inl fh1)), (h2, .inl (ch2, 6, .inl fh2)), (h3, .inl (ch3, 24, .inl fh3))] sz) := by
  refine Met.ofW (cc := cX5_name) (maxL := 4) (ret := (some .int)) (by decide) rfl ?_
  intro p e s m args below meth c s₁ B hml hv
  obtain ⟨rfl, hsz, hP, hK, hD0⟩ := hv
  have hx := B.exec
  have hb := B.bytes
  have hr := B.returns
  have hts := atoms_spec (ws := u_s_X5_nameA) B.pre
  have hown : s.vm.findClass RX5 = some m.cls := findClass_of_methodNamed B.named
  have hlocks := B.notSynchronized
  subst hsz
  have hD := hD0.self (sz := s.heap.size)
  generalize hAe : va_A [(h0, .inr (5, [.ref h1, .ref h2, h0_2, h0_3, .ref h3, h0_5, h0_6, h0_7, h0_8, .int pk])), (h1, .inl (ch1, 6, .inl fh1)), (h2, .inl (ch2, 6, .inl fh2)), (h3, .inl (ch3, 24, .inl fh3))] s.heap.size = A at hD ⊢
  have hA : ∀ q : Nat, s.heap.size ≤ q → A q := fun q h => by rw [← hAe]; exact Or.inr h
  have hS : va_S A s.heap s.heap [] := va_S.rf
  have hP : va_P (dC, dI) vwCl [(h0, .inr (5, [.ref h1, .ref h2, h0_2, h0_3, .ref h3, h0_5, h0_6, h0_7, h0_8, .int pk])), (h1, .inl (ch1, 6, .inl fh1)), (h2, .inl (ch2, 6, .inl fh2)), (h3, .inl (ch3, 24, .inl fh3))] s.heap := hP
  have w__fieldLink_RX5_41_ShellHeap_Pantry_kinds_I_ := hts (.fieldLink RX5 41 "ShellHeap$Pantry" "kinds" "I") (by decide +kernel)
  have hiX5 := show ∀ w ∈ u_ws RX5 TX5 10, w ∈ u_s_X5_nameA from fun w h => z_mc (z_mr (z_ml h))
  have w__fieldLink_RX5_11_ShellHeap_Pantry_meats_I_ := hts (.fieldLink RX5 11 "ShellHeap$Pantry" "meats" "[I") (by decide +kernel)
  have w__fieldLink_RX5_15_ShellHeap_Pantry_valvesOf_I_ := hts (.fieldLink RX5 15 "ShellHeap$Pantry" "valvesOf" "[I") (by decide +kernel)
  have w__fieldLink_RX5_25_ShellHeap_Pantry_keeps_I_ := hts (.fieldLink RX5 25 "ShellHeap$Pantry" "keeps" "[I") (by decide +kernel)
  have krr_p1 := z_rng p1
  have krr_p2 := z_rng p2
  have hl := lv_entry ([.ref h0, .int p1, .int p2]) (n := 4) (Nat.le_of_ble_eq_true rfl)
  rw [lg_entry_eq]
  generalize (lg_sl ([.ref h0, .int p1, .int p2]) ++ List.replicate (4 - (lg_sl ([.ref h0, .int p1, .int p2])).length) Slot.unset).toArray = ls at hl ⊢
  have hl : lv_has ls 4 [(0, .ref h0), (1, .int p1), (2, .int p2)] := hl
  refine z_nameQ (fun QQ hQQ => ?_)
  refine lv_iload_n hx hb dX5_name_0 rfl (lv_at hl 1 rfl) ?_
  refine lv_if_lt (tgt := 30) hx hb dX5_name_1 (by decide) (fun c_1 => ?_) (fun c_1 => ?_)
  · have k_2 : (p1).toInt < (0 : Int) := z_lt c_1
    refine lv_iconst (v := (-1)) hx hb dX5_name_30 (by decide) ?_
    refine z_backQ hQQ ?_
    have hP9 := hP.sub (ws' := [(h0, .inr (5, [.ref h1, .ref h2, h0_2, h0_3, .ref h3, h0_5, h0_6, h0_7, h0_8, .int pk])), (h1, .inl (ch1, 6, .inl fh1)), (h2, .inl (ch2, 6, .inl fh2)), (h3, .inl (ch3, 24, .inl fh3))]) [0, 1, 2, 3] rfl
    have hD9 := hD.sub (ws' := [(h0, .inr (5, [.ref h1, .ref h2, h0_2, h0_3, .ref h3, h0_5, h0_6, h0_7, h0_8, .int pk])), (h1, .inl (ch1, 6, .inl fh1)), (h2, .inl (ch2, 6, .inl fh2)), (h3, .inl (ch3, 24, .inl fh3))]) [0, 1, 2, 3] (by decide) rfl
    have hK9 := hK.sub (tys' := []) [] rfl
    refine W.widen (k := 0) (n := 0) (Nat.le_of_ble_eq_true rfl) (Nat.le_of_ble_eq_true rfl) ?_
    exact W.iret (v := (-1)) hx hb hr (fun t ht hW => ⟨⟨(-1), (), rfl, (show (-1) = v_kiA pk p1 p2 by unfold v_kiA; rw [if_neg (by omega)]), ⟨pk, fh1, fh2, fh3, (by first | omega | decide), (show pk = v_kiN pk p1 p2 by unfold v_kiN; rw [if_neg (by omega)]), by rw [ht]; exact hP9, va_K.moved hW.alike hK9, hD9⟩⟩, hS.F ht⟩) hS.2.2 dX5_name_31
  · have k_3 : (p1).toInt ≥ (0 : Int) := z_nlt c_1
    refine lv_iload_n hx hb dX5_name_4 rfl (lv_at hl 1 rfl) ?_
    refine lv_sipush (v := 999) hx hb dX5_name_5 (by decide) ?_
    refine lv_icmp_gt (tgt := 30) hx hb dX5_name_8 (by decide) (fun c_4 => ?_) (fun c_4 => ?_)
    · have k_5 : (999 : Int) < (p1).toInt := z_lt c_4
      refine lv_iconst (v := (-1)) hx hb dX5_name_30 (by decide) ?_
      refine z_backQ hQQ ?_
      have hP9 := hP.sub (ws' := [(h0, .inr (5, [.ref h1, .ref h2, h0_2, h0_3, .ref h3, h0_5, h0_6, h0_7, h0_8, .int pk])), (h1, .inl (ch1, 6, .inl fh1)), (h2, .inl (ch2, 6, .inl fh2)), (h3, .inl (ch3, 24, .inl fh3))]) [0, 1, 2, 3] rfl
      have hD9 := hD.sub (ws' := [(h0, .inr (5, [.ref h1, .ref h2, h0_2, h0_3, .ref h3, h0_5, h0_6, h0_7, h0_8, .int pk])), (h1, .inl (ch1, 6, .inl fh1)), (h2, .inl (ch2, 6, .inl fh2)), (h3, .inl (ch3, 24, .inl fh3))]) [0, 1, 2, 3] (by decide) rfl
      have hK9 := hK.sub (tys' := []) [] rfl
      refine W.widen (k := 0) (n := 0) (Nat.le_of_ble_eq_true rfl) (Nat.le_of_ble_eq_true rfl) ?_
      exact W.iret (v := (-1)) hx hb hr (fun t ht hW => ⟨⟨(-1), (), rfl, (show (-1) = v_kiA pk p1 p2 by unfold v_kiA; rw [if_neg (by omega)]), ⟨pk, fh1, fh2, fh3, (by first | omega | decide), (show pk = v_kiN pk p1 p2 by unfold v_kiN; rw [if_neg (by omega)]), by rw [ht]; exact hP9, va_K.moved hW.alike hK9, hD9⟩⟩, hS.F ht⟩) hS.2.2 dX5_name_31
    · have k_6 : (999 : Int) ≥ (p1).toInt := z_nlt c_4
      refine lv_iload_n hx hb dX5_name_11 rfl (lv_at hl 2 rfl) ?_
      refine lv_iconst (v := 1) hx hb dX5_name_12 (by decide) ?_
      refine lv_icmp_lt (tgt := 30) hx hb dX5_name_13 (by decide) (fun c_7 => ?_) (fun c_7 => ?_)
      · have k_8 : (p2).toInt < (1 : Int) := z_lt c_7
        refine lv_iconst (v := (-1)) hx hb dX5_name_30 (by decide) ?_
        refine z_backQ hQQ ?_
        have hP9 := hP.sub (ws' := [(h0, .inr (5, [.ref h1, .ref h2, h0_2, h0_3, .ref h3, h0_5, h0_6, h0_7, h0_8, .int pk])), (h1, .inl (ch1, 6, .inl fh1)), (h2, .inl (ch2, 6, .inl fh2)), (h3, .inl (ch3, 24, .inl fh3))]) [0, 1, 2, 3] rfl
        have hD9 := hD.sub (ws' := [(h0, .inr (5, [.ref h1, .ref h2, h0_2, h0_3, .ref h3, h0_5, h0_6, h0_7, h0_8, .int pk])), (h1, .inl (ch1, 6, .inl fh1)), (h2, .inl (ch2, 6, .inl fh2)), (h3, .inl (ch3, 24, .inl fh3))]) [0, 1, 2, 3] (by decide) rfl
        have hK9 := hK.sub (tys' := []) [] rfl
        refine W.widen (k := 0) (n := 0) (Nat.le_of_ble_eq_true rfl) (Nat.le_of_ble_eq_true rfl) ?_
        exact W.iret (v := (-1)) hx hb hr (fun t ht hW => ⟨⟨(-1), (), rfl, (show (-1) = v_kiA pk p1 p2 by unfold v_kiA; rw [if_neg (by omega)]), ⟨pk, fh1, fh2, fh3, (by first | omega | decide), (show pk = v_kiN pk p1 p2 by unfold v_kiN; rw [if_neg (by omega)]), by rw [ht]; exact hP9, va_K.moved hW.alike hK9, hD9⟩⟩, hS.F ht⟩) hS.2.2 dX5_name_31
      · have k_9 : (p2).toInt ≥ (1 : Int) := z_nlt c_7
        refine lv_iload_n hx hb dX5_name_16 rfl (lv_at hl 2 rfl) ?_
        refine lv_iconst (v := 2) hx hb dX5_name_17 (by decide) ?_
        refine lv_icmp_gt (tgt := 30) hx hb dX5_name_18 (by decide) (fun c_10 => ?_) (fun c_10 => ?_)
        · have k_11 : (2 : Int) < (p2).toInt := z_lt c_10
          refine lv_iconst (v := (-1)) hx hb dX5_name_30 (by decide) ?_
          refine z_backQ hQQ ?_
          have hP9 := hP.sub (ws' := [(h0, .inr (5, [.ref h1, .ref h2, h0_2, h0_3, .ref h3, h0_5, h0_6, h0_7, h0_8, .int pk])), (h1, .inl (ch1, 6, .inl fh1)), (h2, .inl (ch2, 6, .inl fh2)), (h3, .inl (ch3, 24, .inl fh3))]) [0, 1, 2, 3] rfl
          have hD9 := hD.sub (ws' := [(h0, .inr (5, [.ref h1, .ref h2, h0_2, h0_3, .ref h3, h0_5, h0_6, h0_7, h0_8, .int pk])), (h1, .inl (ch1, 6, .inl fh1)), (h2, .inl (ch2, 6, .inl fh2)), (h3, .inl (ch3, 24, .inl fh3))]) [0, 1, 2, 3] (by decide) rfl
          have hK9 := hK.sub (tys' := []) [] rfl
          refine W.widen (k := 0) (n := 0) (Nat.le_of_ble_eq_true rfl) (Nat.le_of_ble_eq_true rfl) ?_
          exact W.iret (v := (-1)) hx hb hr (fun t ht hW => ⟨⟨(-1), (), rfl, (show (-1) = v_kiA pk p1 p2 by unfold v_kiA; rw [if_neg (by omega)]), ⟨pk, fh1, fh2, fh3, (by first | omega | decide), (show pk = v_kiN pk p1 p2 by unfold v_kiN; rw [if_neg (by omega)]), by rw [ht]; exact hP9, va_K.moved hW.alike hK9, hD9⟩⟩, hS.F ht⟩) hS.2.2 dX5_name_31
        · have k_12 : (2 : Int) ≥ (p2).toInt := z_nlt c_10
          refine lv_aload_n hx hb dX5_name_21 rfl (lv_at hl 0 rfl) ?_
          refine va_get (D := (dC, dI)) (ci := 5) (v := .int pk) (C := RX5) (T := TX5) (N := 10) hx hb hts hiX5 hown hK hP 0 rfl rfl 9 (by decide) w__fieldLink_RX5_41_ShellHeap_Pantry_kinds_I_ (fun _ h9 => h9) rfl dX5_name_22 ?_
          refine lv_bipush (v := 6) hx hb dX5_name_25 (by decide) ?_
          refine lv_icmp_lt (tgt := 32) hx hb dX5_name_27 (by decide) (fun c_13 => ?_) (fun c_13 => ?_)
          · have k_14 : (pk).toInt < (6 : Int) := z_lt c_13
            refine lv_aload_n hx hb dX5_name_32 rfl (lv_at hl 0 rfl) ?_
            refine va_get (D := (dC, dI)) (ci := 5) (v := .ref h1) (C := RX5) (T := TX5) (N := 10) hx hb hts hiX5 hown hK hP 0 rfl rfl 0 (by decide) w__fieldLink_RX5_11_ShellHeap_Pantry_meats_I_ (fun _ h9 => h9) rfl dX5_name_33 ?_
            refine lv_aload_n hx hb dX5_name_36 rfl (lv_at hl 0 rfl) ?_
            refine va_get (D := (dC, dI)) (ci := 5) (v := .int pk) (C := RX5) (T := TX5) (N := 10) hx hb hts hiX5 hown hK hP 0 rfl rfl 9 (by decide) w__fieldLink_RX5_41_ShellHeap_Pantry_kinds_I_ (fun _ h9 => h9) rfl dX5_name_37 ?_
            refine lv_iload_n hx hb dX5_name_40 rfl (lv_at hl 1 rfl) ?_
            refine va_iast hx hb hK hP hD hS 1 0 rfl rfl (z_vpin (by omega) (by omega)) dX5_name_41 (fun H_15 locs hP hD hS => ?_)
            have hP : va_P (dC, dI) vwCl [(h0, .inr (5, [.ref h1, .ref h2, h0_2, h0_3, .ref h3, h0_5, h0_6, h0_7, h0_8, .int pk])), (h1, .inl (ch1, 6, .inl (upd fh1 (pk : Int32).toNatClampNeg p1))), (h2, .inl (ch2, 6, .inl fh2)), (h3, .inl (ch3, 24, .inl fh3))] H_15 := hP
            have hD : va_D A [(h0, .inr (5, [.ref h1, .ref h2, h0_2, h0_3, .ref h3, h0_5, h0_6, h0_7, h0_8, .int pk])), (h1, .inl (ch1, 6, .inl (upd fh1 (pk : Int32).toNatClampNeg p1))), (h2, .inl (ch2, 6, .inl fh2)), (h3, .inl (ch3, 24, .inl fh3))] := hD
            generalize (upd fh1 (pk : Int32).toNatClampNeg p1) = f_16 at hP hD
            refine lv_aload_n hx hb dX5_name_42 rfl (lv_at hl 0 rfl) ?_
            refine va_get (D := (dC, dI)) (ci := 5) (v := .ref h2) (C := RX5) (T := TX5) (N := 10) hx hb hts hiX5 hown hK hP 0 rfl rfl 1 (by decide) w__fieldLink_RX5_15_ShellHeap_Pantry_valvesOf_I_ (fun _ h9 => h9) rfl dX5_name_43 ?_
            refine lv_aload_n hx hb dX5_name_46 rfl (lv_at hl 0 rfl) ?_
            refine va_get (D := (dC, dI)) (ci := 5) (v := .int pk) (C := RX5) (T := TX5) (N := 10) hx hb hts hiX5 hown hK hP 0 rfl rfl 9 (by decide) w__fieldLink_RX5_41_ShellHeap_Pantry_kinds_I_ (fun _ h9 => h9) rfl dX5_name_47 ?_
            refine lv_iload_n hx hb dX5_name_50 rfl (lv_at hl 2 rfl) ?_
            refine va_iast hx hb hK hP hD hS 2 1 rfl rfl (z_vpin (by omega) (by omega)) dX5_name_51 (fun H_17 locs hP hD hS => ?_)
            have hP : va_P (dC, dI) vwCl [(h0, .inr (5, [.ref h1, .ref h2, h0_2, h0_3, .ref h3, h0_5, h0_6, h0_7, h0_8, .int pk])), (h1, .inl (ch1, 6, .inl f_16)), (h2, .inl (ch2, 6, .inl (upd fh2 (pk : Int32).toNatClampNeg p2))), (h3, .inl (ch3, 24, .inl fh3))] H_17 := hP
            have hD : va_D A [(h0, .inr (5, [.ref h1, .ref h2, h0_2, h0_3, .ref h3, h0_5, h0_6, h0_7, h0_8, .int pk])), (h1, .inl (ch1, 6, .inl f_16)), (h2, .inl (ch2, 6, .inl (upd fh2 (pk : Int32).toNatClampNeg p2))), (h3, .inl (ch3, 24, .inl fh3))] := hD
            generalize (upd fh2 (pk : Int32).toNatClampNeg p2) = f_18 at hP hD
            refine lv_iconst (v := 0) hx hb dX5_name_52 (by decide) ?_
            refine lv_istore_n (lv' := [(3, .int 0), (0, .ref h0), (1, .int p1), (2, .int p2)]) hx hb dX5_name_53 rfl hl (by decide) rfl (fun ls hl => ?_)
            have loop_19 : ∀ (n_20 : Nat) (i_22 : Int32) (f_23 : Nat → Int32) (H : Heap) (locs : List Loc) (ls : Array Slot), (5 - (i_22).toInt).toNat < n_20 → (((0 : Int) ≤ (i_22).toInt ∧ (i_22).toInt ≤ (4 : Int))) → va_P (dC, dI) vwCl [(h0, .inr (5, [.ref h1, .ref h2, h0_2, h0_3, .ref h3, h0_5, h0_6, h0_7, h0_8, .int pk])), (h1, .inl (ch1, 6, .inl f_16)), (h2, .inl (ch2, 6, .inl f_18)), (h3, .inl (ch3, 24, .inl f_23))] H → va_D A [(h0, .inr (5, [.ref h1, .ref h2, h0_2, h0_3, .ref h3, h0_5, h0_6, h0_7, h0_8, .int pk])), (h1, .inl (ch1, 6, .inl f_16)), (h2, .inl (ch2, 6, .inl f_18)), (h3, .inl (ch3, 24, .inl f_23))] → va_S A s.heap H locs → lv_has ls 4 [(3, .int i_22), (0, .ref h0), (1, .int p1), (2, .int p2)] → W p l e ({ frames := 0, cells := 0, slots := 0, locals := 0 } : Room) s m ([.ref h0, .int p1, .int p2] : List Value).toArray below meth c H locs 0 0 QQ (F0 m 54 ls []) := by
              intro n_20
              induction n_20 with
              | zero => intro i_22 f_23 H locs ls hm; exact absurd hm (Nat.not_lt_zero _)
              | succ n_20 ih_21 =>
                intro i_22 f_23 H locs ls hm hF_24 hP hD hS hl
                refine lv_iload_n hx hb dX5_name_54 rfl (lv_at hl 0 rfl) ?_
                refine lv_iconst (v := 4) hx hb dX5_name_55 (by decide) ?_
                refine lv_icmp_ge (tgt := 80) hx hb dX5_name_56 (by decide) (fun c_25 => ?_) (fun c_25 => ?_)
                · have k_26 : (4 : Int) ≤ (i_22).toInt := z_le c_25
                  obtain rfl : i_22 = 4 := z_eq' (show (i_22).toInt = (4 : Int) by omega)
                  refine lv_aload_n hx hb dX5_name_80 rfl (lv_at hl 1 rfl) ?_
                  refine lv_dup hx hb dX5_name_81 rfl ?_
                  refine va_get (D := (dC, dI)) (ci := 5) (v := .int pk) (C := RX5) (T := TX5) (N := 10) hx hb hts hiX5 hown hK hP 0 rfl rfl 9 (by decide) w__fieldLink_RX5_41_ShellHeap_Pantry_kinds_I_ (fun _ h9 => h9) rfl dX5_name_82 ?_
                  refine lv_iconst (v := 1) hx hb dX5_name_85 (by decide) ?_
                  refine lv_iadd hx hb dX5_name_86 ?_
                  refine lv_topi (fun z_28 ez_28 => ?_)
                  have kz_28 : (z_28).toInt = (pk).toInt + (1 : Int) := by rw [ez_28]; exact z_add (a := (pk).toInt) (b := (1 : Int)) rfl rfl (by omega) (by omega)
                  refine va_put (D := (dC, dI)) (ci := 5) (v := .int z_28) (ty := .int) (C := RX5) (T := TX5) (N := 10) hx hb hts hiX5 tyX5 tyX5_ok nmX5 hown hK hP hD hS 0 rfl rfl 9 (by decide) w__fieldLink_RX5_41_ShellHeap_Pantry_kinds_I_ (fun _ h9 => h9) rfl (by decide +kernel) rfl rfl (Nat.le_of_ble_eq_true rfl) dX5_name_87 (fun H_29 locs hP hD hS => ?_)
                  have hP : va_P (dC, dI) vwCl [(h0, .inr (5, [.ref h1, .ref h2, h0_2, h0_3, .ref h3, h0_5, h0_6, h0_7, h0_8, .int z_28])), (h1, .inl (ch1, 6, .inl f_16)), (h2, .inl (ch2, 6, .inl f_18)), (h3, .inl (ch3, 24, .inl f_23))] H_29 := hP
                  have hD : va_D A [(h0, .inr (5, [.ref h1, .ref h2, h0_2, h0_3, .ref h3, h0_5, h0_6, h0_7, h0_8, .int z_28])), (h1, .inl (ch1, 6, .inl f_16)), (h2, .inl (ch2, 6, .inl f_18)), (h3, .inl (ch3, 24, .inl f_23))] := hD
                  refine lv_aload_n hx hb dX5_name_90 rfl (lv_at hl 1 rfl) ?_
                  refine va_get (D := (dC, dI)) (ci := 5) (v := .int z_28) (C := RX5) (T := TX5) (N := 10) hx hb hts hiX5 hown hK hP 0 rfl rfl 9 (by decide) w__fieldLink_RX5_41_ShellHeap_Pantry_kinds_I_ (fun _ h9 => h9) rfl dX5_name_91 ?_
                  refine lv_iconst (v := 1) hx hb dX5_name_94 (by decide) ?_
                  refine lv_isub hx hb dX5_name_95 ?_
                  refine lv_topi (fun z_30 ez_30 => ?_)
                  have kz_30 : (z_30).toInt = (z_28).toInt - (1 : Int) := by rw [ez_30]; exact z_sub (a := (z_28).toInt) (b := (1 : Int)) rfl rfl (by omega) (by omega)
                  refine z_backQ hQQ ?_
                  have hP9 := hP.sub (ws' := [(h0, .inr (5, [.ref h1, .ref h2, h0_2, h0_3, .ref h3, h0_5, h0_6, h0_7, h0_8, .int z_28])), (h1, .inl (ch1, 6, .inl f_16)), (h2, .inl (ch2, 6, .inl f_18)), (h3, .inl (ch3, 24, .inl f_23))]) [0, 1, 2, 3] rfl
                  have hD9 := hD.sub (ws' := [(h0, .inr (5, [.ref h1, .ref h2, h0_2, h0_3, .ref h3, h0_5, h0_6, h0_7, h0_8, .int z_28])), (h1, .inl (ch1, 6, .inl f_16)), (h2, .inl (ch2, 6, .inl f_18)), (h3, .inl (ch3, 24, .inl f_23))]) [0, 1, 2, 3] (by decide) rfl
                  have hK9 := hK.sub (tys' := []) [] rfl
                  refine W.widen (k := 0) (n := 0) (Nat.le_of_ble_eq_true rfl) (Nat.le_of_ble_eq_true rfl) ?_
                  exact W.iret (v := z_30) hx hb hr (fun t ht hW => ⟨⟨z_30, (), rfl, (show z_30 = v_kiA pk p1 p2 by unfold v_kiA; rw [if_pos (by omega)]; first | exact ez_30 | exact z_ii (by omega)), ⟨z_28, f_16, f_18, f_23, (by first | omega | decide), (show z_28 = v_kiN pk p1 p2 by unfold v_kiN; rw [if_pos (by omega)]; exact ez_28), by rw [ht]; exact hP9, va_K.moved hW.alike hK9, hD9⟩⟩, hS.F ht⟩) hS.2.2 dX5_name_96
                · have k_31 : (4 : Int) > (i_22).toInt := z_nle c_25
                  refine lv_aload_n hx hb dX5_name_59 rfl (lv_at hl 1 rfl) ?_
                  refine va_get (D := (dC, dI)) (ci := 5) (v := .ref h3) (C := RX5) (T := TX5) (N := 10) hx hb hts hiX5 hown hK hP 0 rfl rfl 4 (by decide) w__fieldLink_RX5_25_ShellHeap_Pantry_keeps_I_ (fun _ h9 => h9) rfl dX5_name_60 ?_
                  refine lv_aload_n hx hb dX5_name_63 rfl (lv_at hl 1 rfl) ?_
                  refine va_get (D := (dC, dI)) (ci := 5) (v := .int pk) (C := RX5) (T := TX5) (N := 10) hx hb hts hiX5 hown hK hP 0 rfl rfl 9 (by decide) w__fieldLink_RX5_41_ShellHeap_Pantry_kinds_I_ (fun _ h9 => h9) rfl dX5_name_64 ?_
                  refine lv_iconst (v := 4) hx hb dX5_name_67 (by decide) ?_
                  refine lv_imul hx hb dX5_name_68 ?_
                  refine lv_topi (fun z_32 ez_32 => ?_)
                  have kz_32 : (z_32).toInt = (pk).toInt * (4 : Int) := by rw [ez_32]; exact z_mul (a := (pk).toInt) (b := (4 : Int)) rfl rfl (by omega) (by omega)
                  refine lv_iload_n hx hb dX5_name_69 rfl (lv_at hl 0 rfl) ?_
                  refine lv_iadd hx hb dX5_name_70 ?_
                  refine lv_topi (fun z_33 ez_33 => ?_)
                  have kz_33 : (z_33).toInt = (z_32).toInt + (i_22).toInt := by rw [ez_33]; exact z_add (a := (z_32).toInt) (b := (i_22).toInt) rfl rfl (by omega) (by omega)
                  refine lv_bipush (v := 16) hx hb dX5_name_71 (by decide) ?_
                  refine va_iast hx hb hK hP hD hS 3 2 rfl rfl (z_vpin (by omega) (by omega)) dX5_name_73 (fun H_34 locs hP hD hS => ?_)
                  have hP : va_P (dC, dI) vwCl [(h0, .inr (5, [.ref h1, .ref h2, h0_2, h0_3, .ref h3, h0_5, h0_6, h0_7, h0_8, .int pk])), (h1, .inl (ch1, 6, .inl f_16)), (h2, .inl (ch2, 6, .inl f_18)), (h3, .inl (ch3, 24, .inl (upd f_23 (z_33 : Int32).toNatClampNeg 16)))] H_34 := hP
                  have hD : va_D A [(h0, .inr (5, [.ref h1, .ref h2, h0_2, h0_3, .ref h3, h0_5, h0_6, h0_7, h0_8, .int pk])), (h1, .inl (ch1, 6, .inl f_16)), (h2, .inl (ch2, 6, .inl f_18)), (h3, .inl (ch3, 24, .inl (upd f_23 (z_33 : Int32).toNatClampNeg 16)))] := hD
                  generalize (upd f_23 (z_33 : Int32).toNatClampNeg 16) = f_35 at hP hD
                  obtain ⟨z_36, ez_36⟩ : ∃ y : Int32, y = i_22 + 1 := ⟨_, rfl⟩
                  have kz_36 : (z_36).toInt = (i_22).toInt + (1 : Int) := by rw [ez_36]; exact z_add (b := 1) rfl rfl (by omega) (by omega)
                  refine lv_iinc (v := z_36) (lv' := [(3, .int z_36), (0, .ref h0), (1, .int p1), (2, .int p2)]) hx hb dX5_name_74 hl (k := 0) rfl (by rw [ez_36]; rfl) (by decide) rfl (fun ls hl => ?_)
                  refine lv_goto (tgt := 54) hx hb dX5_name_77 (by decide) ?_
                  exact ih_21 z_36 f_35 _ _ _ (show (5 - (z_36).toInt).toNat < n_20 by omega) (show ((0 : Int) ≤ (z_36).toInt ∧ (z_36).toInt ≤ (4 : Int)) by omega) hP hD hS (lv_sub hl [0, 1, 2, 3] rfl)
            exact loop_19 _ 0 fh3 _ _ _ (Nat.lt_succ_self _) (show ((0 : Int) ≤ (0 : Int) ∧ (0 : Int) ≤ (4 : Int)) by omega) hP hD hS hl
          · have k_37 : (pk).toInt ≥ (6 : Int) := z_nlt c_13
            refine lv_iconst (v := (-1)) hx hb dX5_name_30 (by decide) ?_
            refine z_backQ hQQ ?_
            have hP9 := hP.sub (ws' := [(h0, .inr (5, [.ref h1, .ref h2, h0_2, h0_3, .ref h3, h0_5, h0_6, h0_7, h0_8, .int pk])), (h1, .inl (ch1, 6, .inl fh1)), (h2, .inl (ch2, 6, .inl fh2)), (h3, .inl (ch3, 24, .inl fh3))]) [0, 1, 2, 3] rfl
            have hD9 := hD.sub (ws' := [(h0, .inr (5, [.ref h1, .ref h2, h0_2, h0_3, .ref h3, h0_5, h0_6, h0_7, h0_8, .int pk])), (h1, .inl (ch1, 6, .inl fh1)), (h2, .inl (ch2, 6, .inl fh2)), (h3, .inl (ch3, 24, .inl fh3))]) [0, 1, 2, 3] (by decide) rfl
            have hK9 := hK.sub (tys' := []) [] rfl
            refine W.widen (k := 0) (n := 0) (Nat.le_of_ble_eq_true rfl) (Nat.le_of_ble_eq_true rfl) ?_
            exact W.iret (v := (-1)) hx hb hr (fun t ht hW => ⟨⟨(-1), (), rfl, (show (-1) = v_kiA pk p1 p2 by unfold v_kiA; rw [if_neg (by omega)]), ⟨pk, fh1, fh2, fh3, (by first | omega | decide), (show pk = v_kiN pk p1 p2 by unfold v_kiN; rw [if_neg (by omega)]), by rw [ht]; exact hP9, va_K.moved hW.alike hK9, hD9⟩⟩, hS.F ht⟩) hS.2.2 dX5_name_31
def u_s_X11_kindA : List Cond := .code yX11_kind cX11_kind 3 (some .int) :: ([.fieldLink RX11 42 "ShellHeap" "pantry" "LShellHeap$Pantry;", .methodLink RX11 200 yX5_name, .instanceMethod yX5_name, .selects RX5 yX5_name yX5_name, .initialized RX5] ++ (wsX110 ++ (u_s_X5_nameA ++ [])))
theorem gd_s_X11_kindA : z_gd u_s_X11_kindA := z_gdc (by decide +kernel) (z_gda gdX11 (z_gda gd_s_X5_nameA (z_gd0)))
set_option maxRecDepth 20000 in
theorem gw_s_X11_kindA_s_X5_nameA_200 : GoodIn u_s_X11_kindA (wsV RX11 200 RX5 yX5_name u_s_X5_nameA) := z_gV (z_gr _ [2, 3, 4, 5] rfl (by decide +kernel)) (fun w h => ⟨z_mc (z_mr (z_mr (z_ml h))), gd_s_X5_nameA w h⟩)
set_option maxHeartbeats 4000000 in
set_option maxRecDepth 100000 in
theorem s_X11_kindA (l : Launch) (dC : Nat → ClassId) (dI : Nat → Nat → Nat) (sz : Nat) (h0 : Nat) (p1 : Int32) (p2 : Int32) (h0_0 : Value) (h0_1 : Value) (h0_2 : Value) (h0_3 : Value) (hp9 : Nat) (h0_5 : Value) (h0_6 : Value) (h0_7 : Value) (h0_8 : Value) (h0_9 : Value) (h1 : Nat) (h2 : Nat) (hp9_2 : Value) (hp9_3 : Value) (h3 : Nat) (hp9_5 : Value) (hp9_6 : Value) (hp9_7 : Value) (hp9_8 : Value) (pk : Int32) (ch1 : ClassId) (fh1 : Nat → Int32) (ch2 : ClassId) (fh2 : Nat → Int32) (ch3 : ClassId) (fh3 : Nat → Int32) (hB_pk : ((0 : Int) ≤ (pk).toInt ∧ (pk).toInt ≤ (6 : Int))) : Met l yX11_kind u_s_X11_kindA ({ frames := 1, cells := 0, slots := 0, locals := 23 }) (va_Pc [.ref h0, .int p1, .int p2] (z_C (dC, dI) vwCl [(h0, .inr (11, [h0_0, h0_1, h0_2, h0_3, .ref hp9, h0_5, h0_6, h0_7, h0_8, h0_9])), (hp9, .inr (5, [.ref h1, .ref h2, hp9_2, hp9_3, .ref h3, hp9_5, hp9_6, hp9_7, hp9_8, .int pk])), (h1, .inl (ch1, 6, .inl fh1)), (h2, .inl (ch2, 6, .inl fh2)), (h3, .inl (ch3, 24, .inl fh3))] [(ch1, .int), (ch2, .int), (ch3, .int)] sz)) (va_Qi (fun (r : Int32) (_ : Unit) => r = v_kiA pk p1 p2) (fun (_ : Unit) (t : State) => ∃ (n_hp9_kinds : Int32), ∃ (g_h1 : Nat → Int32), ∃ (g_h2 : Nat → Int32), ∃ (g_h3 : Nat → Int32), ((0 : Int) ≤ (n_hp9_kinds).toInt ∧ (n_hp9_kinds).toInt ≤ (6 : Int)) ∧ (n_hp9_kinds = v_kiN pk p1 p2) ∧ va_P (dC, dI) vwCl [(h0, .inr (11, [h0_0, h0_1, h0_2, h0_3, .ref hp9, h0_5, h0_6, h0_7, h0_8, h0_9])), (hp9, .inr (5, [.ref h1, .ref h2, hp9_2, hp9_3, .ref h3, hp9_5, hp9_6, hp9_7, hp9_8, .int n_hp9_kinds])), (h1, .inl (ch1, 6, .inl g_h1)), (h2, .inl (ch2, 6, .inl g_h2)), (h3, .inl (ch3, 24, .inl g_h3))] t.heap ∧ va_K (dC, dI) vwCl [] t ∧ va_D (va_A [(h0, .inr (11, [h0_0, h0_1, h0_2, h0_3, .ref hp9, h0_5, h0_6, h0_7, h0_8, h0_9])), (hp9, .inr (5, [.ref h1, .ref h2, hp9_2, hp9_3, .ref h3, hp9_5, hp9_6, hp9_7, hp9_8, .int pk])), (h1, .inl (ch1, 6, .inl fh1)), (h2, .inl (ch2, 6, .inl fh2)), (h3, .inl (ch3, 24, .inl fh3))] sz) [(h0, .inr (11, [h0_0, h0_1, h0_2, h0_3, .ref hp9, h0_5, h0_6, h0_7, h0_8, h0_9])), (hp9, .inr (5, [.ref h1, .ref h2, hp9_2, hp9_3, .ref h3, hp9_5, hp9_6, hp9_7, hp9_8, .int n_hp9_kinds])), (h1, .inl (ch1, 6, .inl g_h1)), (h2, .inl (ch2, 6, .inl g_h2)), (h3, .inl (ch3, 24, .inl g_h3))]) (va_A [(h0, .inr (11, [h0_0, h0_1, h0_2, h0_3, .ref hp9, h0_5, h0_6, h0_7, h0_8, h0_9])), (hp9, .inr (5, [.ref h1, .ref h2, hp9_2, hp9_3, .ref h3, hp9_5, hp9_6, hp9_7, hp9_8, .int pk])), (h1, .inl (ch1, 6, .inl fh1)), (h2, .inl (ch2, 6, .inl fh2)), (h3, .inl (ch3, 24, .inl fh3))] sz)) 0 0 (va_A [(h0, .inr (11, [h0_0, h0_1, h0_2, h0_3, .ref hp9, h0_5, h0_6, h0_7, h0_8, h0_9])), (hp9, .inr (5, [.ref h1, .ref h2, hp9_2, hp9_3, .ref h3, hp9_5, hp9_6, hp9_7, hp9_8, .int pk])), (h1, .inl (ch1, 6, .inl fh1)), (h2, .inl (ch2, 6, .inl fh2)), (h3, .inl (ch3, 24, .inl fh3))] sz) := by
  refine Met.ofW (cc := cX11_kind) (maxL := 3) (ret := (some .int)) (by decide) rfl ?_
  intro p e s m args below meth c s₁ B hml hv
  obtain ⟨rfl, hsz, hP, hK, hD0⟩ := hv
  have hx := B.exec
  have hb := B.bytes
  have hr := B.returns
  have hts := atoms_spec (ws := u_s_X11_kindA) B.pre
  have hown : s.vm.findClass RX11 = some m.cls := findClass_of_methodNamed B.named
  have hlocks := B.notSynchronized
  subst hsz
  have hD := hD0.self (sz := s.heap.size)
  generalize hAe : va_A [(h0, .inr (11, [h0_0, h0_1, h0_2, h0_3, .ref hp9, h0_5, h0_6, h0_7, h0_8, h0_9])), (hp9, .inr (5, [.ref h1, .ref h2, hp9_2, hp9_3, .ref h3, hp9_5, hp9_6, hp9_7, hp9_8, .int pk])), (h1, .inl (ch1, 6, .inl fh1)), (h2, .inl (ch2, 6, .inl fh2)), (h3, .inl (ch3, 24, .inl fh3))] s.heap.size = A at hD ⊢
  have hA : ∀ q : Nat, s.heap.size ≤ q → A q := fun q h => by rw [← hAe]; exact Or.inr h
  have hS : va_S A s.heap s.heap [] := va_S.rf
  have hP : va_P (dC, dI) vwCl [(h0, .inr (11, [h0_0, h0_1, h0_2, h0_3, .ref hp9, h0_5, h0_6, h0_7, h0_8, h0_9])), (hp9, .inr (5, [.ref h1, .ref h2, hp9_2, hp9_3, .ref h3, hp9_5, hp9_6, hp9_7, hp9_8, .int pk])), (h1, .inl (ch1, 6, .inl fh1)), (h2, .inl (ch2, 6, .inl fh2)), (h3, .inl (ch3, 24, .inl fh3))] s.heap := hP
  have w__fieldLink_RX11_42_ShellHeap_pantry_LShellHeap_Pantry_ := hts (.fieldLink RX11 42 "ShellHeap" "pantry" "LShellHeap$Pantry;") (by decide +kernel)
  have hiX11 := show ∀ w ∈ u_ws RX11 TX11 10, w ∈ u_s_X11_kindA from fun w h => z_mc (z_mr (z_ml h))
  have krr_p1 := z_rng p1
  have krr_p2 := z_rng p2
  have hl := lv_entry ([.ref h0, .int p1, .int p2]) (n := 3) (Nat.le_of_ble_eq_true rfl)
  rw [lg_entry_eq]
  generalize (lg_sl ([.ref h0, .int p1, .int p2]) ++ List.replicate (3 - (lg_sl ([.ref h0, .int p1, .int p2])).length) Slot.unset).toArray = ls at hl ⊢
  have hl : lv_has ls 3 [(0, .ref h0), (1, .int p1), (2, .int p2)] := hl
  refine lv_aload_n hx hb dX11_kind_0 rfl (lv_at hl 0 rfl) ?_
  refine va_get (D := (dC, dI)) (ci := 11) (v := .ref hp9) (C := RX11) (T := TX11) (N := 10) hx hb hts hiX11 hown hK hP 0 rfl rfl 4 (by decide) w__fieldLink_RX11_42_ShellHeap_pantry_LShellHeap_Pantry_ (fun _ h9 => h9) rfl dX11_kind_1 ?_
  refine lv_iload_n hx hb dX11_kind_4 rfl (lv_at hl 1 rfl) ?_
  refine lv_iload_n hx hb dX11_kind_5 rfl (lv_at hl 2 rfl) ?_
  have hPc := hP.sub (ws' := [(hp9, .inr (5, [.ref h1, .ref h2, hp9_2, hp9_3, .ref h3, hp9_5, hp9_6, hp9_7, hp9_8, .int pk])), (h1, .inl (ch1, 6, .inl fh1)), (h2, .inl (ch2, 6, .inl fh2)), (h3, .inl (ch3, 24, .inl fh3))]) [1, 2, 3, 4] rfl
  have hDc := hD.sub (ws' := [(hp9, .inr (5, [.ref h1, .ref h2, hp9_2, hp9_3, .ref h3, hp9_5, hp9_6, hp9_7, hp9_8, .int pk])), (h1, .inl (ch1, 6, .inl fh1)), (h2, .inl (ch2, 6, .inl fh2)), (h3, .inl (ch3, 24, .inl fh3))]) [1, 2, 3, 4] (by decide) rfl
  have hKc := hK.sub (tys' := [(ch1, .int), (ch2, .int), (ch3, .int)]) [0, 1, 2] rfl
  have hFc := va_free (wc := [(hp9, .inr (5, [.ref h1, .ref h2, hp9_2, hp9_3, .ref h3, hp9_5, hp9_6, hp9_7, hp9_8, .int pk])), (h1, .inl (ch1, 6, .inl fh1)), (h2, .inl (ch2, 6, .inl fh2)), (h3, .inl (ch3, 24, .inl fh3))]) hD hS hA [1, 2, 3, 4] rfl
  refine va_calli (va_runV (As := [.int p1, .int p2]) (rest := []) ⟨hx, hb, hml, hown, hts⟩ (s_X5_nameA l dC dI s.heap.size hp9 p1 p2 h1 h2 hp9_2 hp9_3 h3 hp9_5 hp9_6 hp9_7 hp9_8 pk ch1 fh1 ch2 fh2 ch3 fh3 (by first | omega | decide)) (cwV 2 hts gw_s_X11_kindA_s_X5_nameA_200 rfl rfl rfl (by decide +kernel) ⟨Nat.le_of_ble_eq_true rfl, Nat.le_of_ble_eq_true rfl⟩) ⟨z_blind, va_recv hKc hPc (ci := 5) (q0 := 0) rfl rfl, z_pre hPc hKc hDc⟩ rfl rfl hl.1 rfl (lv_room (Nat.le_of_ble_eq_true rfl)) dX11_kind_6 ⟨Nat.le_of_ble_eq_true rfl, Nat.le_of_ble_eq_true rfl⟩) hS (fun q _ h => hFc q h) hFc (fun r_2 u t H_1 locs ht hvm hw_3 hB hz1 hk1 hS => ?_)
  obtain ⟨n_h0_kinds_4, g_h1_5, g_h2_6, g_h3_7, hp_8, hp_9, hP1, hK1, hD1⟩ := hB
  rw [ht] at hP1
  have hK1 := va_K.moved hvm.symm hK1
  obtain ⟨hP, hD⟩ := va_join (wr := [(h0, .inr (11, [h0_0, h0_1, h0_2, h0_3, .ref hp9, h0_5, h0_6, h0_7, h0_8, h0_9]))]) (w1 := [(hp9, .inr (5, [.ref h1, .ref h2, hp9_2, hp9_3, .ref h3, hp9_5, hp9_6, hp9_7, hp9_8, .int n_h0_kinds_4])), (h1, .inl (ch1, 6, .inl g_h1_5)), (h2, .inl (ch2, 6, .inl g_h2_6)), (h3, .inl (ch3, 24, .inl g_h3_7))]) hP hD [1, 2, 3, 4] [0] rfl rfl (by decide) (by decide) hk1 hFc hP1 hD1
  have hp_9 : n_h0_kinds_4 = v_kiN pk p1 p2 := hp_9
  have hP : va_P (dC, dI) vwCl [(h0, .inr (11, [h0_0, h0_1, h0_2, h0_3, .ref hp9, h0_5, h0_6, h0_7, h0_8, h0_9])), (hp9, .inr (5, [.ref h1, .ref h2, hp9_2, hp9_3, .ref h3, hp9_5, hp9_6, hp9_7, hp9_8, .int n_h0_kinds_4])), (h1, .inl (ch1, 6, .inl g_h1_5)), (h2, .inl (ch2, 6, .inl g_h2_6)), (h3, .inl (ch3, 24, .inl g_h3_7))] H_1 := hP
  have hD : va_D A [(h0, .inr (11, [h0_0, h0_1, h0_2, h0_3, .ref hp9, h0_5, h0_6, h0_7, h0_8, h0_9])), (hp9, .inr (5, [.ref h1, .ref h2, hp9_2, hp9_3, .ref h3, hp9_5, hp9_6, hp9_7, hp9_8, .int n_h0_kinds_4])), (h1, .inl (ch1, 6, .inl g_h1_5)), (h2, .inl (ch2, 6, .inl g_h2_6)), (h3, .inl (ch3, 24, .inl g_h3_7))] := hD
  clear hPc hDc hKc
  have hP9 := hP.sub (ws' := [(h0, .inr (11, [h0_0, h0_1, h0_2, h0_3, .ref hp9, h0_5, h0_6, h0_7, h0_8, h0_9])), (hp9, .inr (5, [.ref h1, .ref h2, hp9_2, hp9_3, .ref h3, hp9_5, hp9_6, hp9_7, hp9_8, .int n_h0_kinds_4])), (h1, .inl (ch1, 6, .inl g_h1_5)), (h2, .inl (ch2, 6, .inl g_h2_6)), (h3, .inl (ch3, 24, .inl g_h3_7))]) [0, 1, 2, 3, 4] rfl
  have hD9 := hD.sub (ws' := [(h0, .inr (11, [h0_0, h0_1, h0_2, h0_3, .ref hp9, h0_5, h0_6, h0_7, h0_8, h0_9])), (hp9, .inr (5, [.ref h1, .ref h2, hp9_2, hp9_3, .ref h3, hp9_5, hp9_6, hp9_7, hp9_8, .int n_h0_kinds_4])), (h1, .inl (ch1, 6, .inl g_h1_5)), (h2, .inl (ch2, 6, .inl g_h2_6)), (h3, .inl (ch3, 24, .inl g_h3_7))]) [0, 1, 2, 3, 4] (by decide) rfl
  have hK9 := hK.sub (tys' := []) [] rfl
  refine W.widen (k := 0) (n := 0) (Nat.le_of_ble_eq_true rfl) (Nat.le_of_ble_eq_true rfl) ?_
  exact W.iret (v := r_2) hx hb hr (fun t ht hW => ⟨⟨r_2, (), rfl, (show r_2 = v_kiA pk p1 p2 from hw_3), ⟨n_h0_kinds_4, g_h1_5, g_h2_6, g_h3_7, (by first | omega | decide), hp_9, by rw [ht]; exact hP9, va_K.moved hW.alike hK9, hD9⟩⟩, hS.F ht⟩) hS.2.2 dX11_kind_9
def u_s_X12_kindA : List Cond := .code yX12_kind cX12_kind 3 (some .int) :: ([.fieldLink RX12 145 "ShellHeapModel" "thrown" "I", .fieldLink RX12 192 "ShellHeapModel" "kinds" "I", .fieldLink RX12 63 "ShellHeapModel" "meat" "[I", .fieldLink RX12 66 "ShellHeapModel" "valves" "[I"] ++ (wsX120 ++ []))
theorem gd_s_X12_kindA : z_gd u_s_X12_kindA := z_gdc (by decide +kernel) (z_gda gdX12 (z_gd0))
set_option maxHeartbeats 4000000 in
set_option maxRecDepth 100000 in
theorem s_X12_kindA (l : Launch) (dC : Nat → ClassId) (dI : Nat → Nat → Nat) (sz : Nat) (h0 : Nat) (p1 : Int32) (p2 : Int32) (h0_0 : Value) (h0_1 : Value) (mx : Int32) (h0_3 : Value) (h0_4 : Value) (h0_5 : Value) (h0_6 : Value) (h0_7 : Value) (h0_8 : Value) (h0_9 : Value) (h0_10 : Value) (h0_11 : Value) (h0_12 : Value) (h0_13 : Value) (h0_14 : Value) (h0_15 : Value) (h0_16 : Value) (h0_17 : Value) (h0_18 : Value) (h0_19 : Value) (h0_20 : Value) (h0_21 : Value) (h0_22 : Value) (mk : Int32) (h1 : Nat) (h2 : Nat) (h0_26 : Value) (h0_27 : Value) (h0_28 : Value) (h0_29 : Value) (h0_30 : Value) (h0_31 : Value) (h0_32 : Value) (h0_33 : Value) (h0_34 : Value) (h0_35 : Value) (h0_36 : Value) (h0_37 : Value) (h0_38 : Value) (h0_39 : Value) (h0_40 : Value) (h0_41 : Value) (h0_42 : Value) (h0_43 : Value) (h0_44 : Value) (h0_45 : Value) (h0_46 : Value) (h0_47 : Value) (h0_48 : Value) (h0_49 : Value) (h0_50 : Value) (h0_51 : Value) (h0_52 : Value) (h0_53 : Value) (h0_54 : Value) (h0_55 : Value) (h0_56 : Value) (h0_57 : Value) (h0_58 : Value) (h0_59 : Value) (h0_60 : Value) (h0_61 : Value) (h0_62 : Value) (h0_63 : Value) (h0_64 : Value) (h0_65 : Value) (h0_66 : Value) (h0_67 : Value) (h0_68 : Value) (h0_69 : Value) (ch1 : ClassId) (fh1 : Nat → Int32) (ch2 : ClassId) (fh2 : Nat → Int32) (hB_mk : ((0 : Int) ≤ (mk).toInt ∧ (mk).toInt ≤ (6 : Int))) : Met l yX12_kind u_s_X12_kindA ({ frames := 0, cells := 0, slots := 0, locals := 0 }) (va_Pc [.ref h0, .int p1, .int p2] (z_C (dC, dI) vwCl [(h0, .inr (12, [h0_0, h0_1, .int mx, h0_3, h0_4, h0_5, h0_6, h0_7, h0_8, h0_9, h0_10, h0_11, h0_12, h0_13, h0_14, h0_15, h0_16, h0_17, h0_18, h0_19, h0_20, h0_21, h0_22, .int mk, .ref h1, .ref h2, h0_26, h0_27, h0_28, h0_29, h0_30, h0_31, h0_32, h0_33, h0_34, h0_35, h0_36, h0_37, h0_38, h0_39, h0_40, h0_41, h0_42, h0_43, h0_44, h0_45, h0_46, h0_47, h0_48, h0_49, h0_50, h0_51, h0_52, h0_53, h0_54, h0_55, h0_56, h0_57, h0_58, h0_59, h0_60, h0_61, h0_62, h0_63, h0_64, h0_65, h0_66, h0_67, h0_68, h0_69])), (h1, .inl (ch1, 6, .inl fh1)), (h2, .inl (ch2, 6, .inl fh2))] [(ch1, .int), (ch2, .int)] sz)) (va_Qi (fun (r : Int32) (_ : Unit) => r = v_kiA mk p1 p2) (fun (_ : Unit) (t : State) => ∃ (n_h0_thrown : Int32), ∃ (n_h0_kinds : Int32), ∃ (g_h1 : Nat → Int32), ∃ (g_h2 : Nat → Int32), ((0 : Int) ≤ (n_h0_kinds).toInt ∧ (n_h0_kinds).toInt ≤ (6 : Int)) ∧ (n_h0_kinds = v_kiN mk p1 p2) ∧ va_P (dC, dI) vwCl [(h0, .inr (12, [h0_0, h0_1, .int n_h0_thrown, h0_3, h0_4, h0_5, h0_6, h0_7, h0_8, h0_9, h0_10, h0_11, h0_12, h0_13, h0_14, h0_15, h0_16, h0_17, h0_18, h0_19, h0_20, h0_21, h0_22, .int n_h0_kinds, .ref h1, .ref h2, h0_26, h0_27, h0_28, h0_29, h0_30, h0_31, h0_32, h0_33, h0_34, h0_35, h0_36, h0_37, h0_38, h0_39, h0_40, h0_41, h0_42, h0_43, h0_44, h0_45, h0_46, h0_47, h0_48, h0_49, h0_50, h0_51, h0_52, h0_53, h0_54, h0_55, h0_56, h0_57, h0_58, h0_59, h0_60, h0_61, h0_62, h0_63, h0_64, h0_65, h0_66, h0_67, h0_68, h0_69])), (h1, .inl (ch1, 6, .inl g_h1)), (h2, .inl (ch2, 6, .inl g_h2))] t.heap ∧ va_K (dC, dI) vwCl [] t ∧ va_D (va_A [(h0, .inr (12, [h0_0, h0_1, .int mx, h0_3, h0_4, h0_5, h0_6, h0_7, h0_8, h0_9, h0_10, h0_11, h0_12, h0_13, h0_14, h0_15, h0_16, h0_17, h0_18, h0_19, h0_20, h0_21, h0_22, .int mk, .ref h1, .ref h2, h0_26, h0_27, h0_28, h0_29, h0_30, h0_31, h0_32, h0_33, h0_34, h0_35, h0_36, h0_37, h0_38, h0_39, h0_40, h0_41, h0_42, h0_43, h0_44, h0_45, h0_46, h0_47, h0_48, h0_49, h0_50, h0_51, h0_52, h0_53, h0_54, h0_55, h0_56, h0_57, h0_58, h0_59, h0_60, h0_61, h0_62, h0_63, h0_64, h0_65, h0_66, h0_67, h0_68, h0_69])), (h1, .inl (ch1, 6, .inl fh1)), (h2, .inl (ch2, 6, .inl fh2))] sz) [(h0, .inr (12, [h0_0, h0_1, .int n_h0_thrown, h0_3, h0_4, h0_5, h0_6, h0_7, h0_8, h0_9, h0_10, h0_11, h0_12, h0_13, h0_14, h0_15, h0_16, h0_17, h0_18, h0_19, h0_20, h0_21, h0_22, .int n_h0_kinds, .ref h1, .ref h2, h0_26, h0_27, h0_28, h0_29, h0_30, h0_31, h0_32, h0_33, h0_34, h0_35, h0_36, h0_37, h0_38, h0_39, h0_40, h0_41, h0_42, h0_43, h0_44, h0_45, h0_46, h0_47, h0_48, h0_49, h0_50, h0_51, h0_52, h0_53, h0_54, h0_55, h0_56, h0_57, h0_58, h0_59, h0_60, h0_61, h0_62, h0_63, h0_64, h0_65, h0_66, h0_67, h0_68, h0_69])), (h1, .inl (ch1, 6, .inl g_h1)), (h2, .inl (ch2, 6, .inl g_h2))]) (va_A [(h0, .inr (12, [h0_0, h0_1, .int mx, h0_3, h0_4, h0_5, h0_6, h0_7, h0_8, h0_9, h0_10, h0_11, h0_12, h0_13, h0_14, h0_15, h0_16, h0_17, h0_18, h0_19, h0_20, h0_21, h0_22, .int mk, .ref h1, .ref h2, h0_26, h0_27, h0_28, h0_29, h0_30, h0_31, h0_32, h0_33, h0_34, h0_35, h0_36, h0_37, h0_38, h0_39, h0_40, h0_41, h0_42, h0_43, h0_44, h0_45, h0_46, h0_47, h0_48, h0_49, h0_50, h0_51, h0_52, h0_53, h0_54, h0_55, h0_56, h0_57, h0_58, h0_59, h0_60, h0_61, h0_62, h0_63, h0_64, h0_65, h0_66, h0_67, h0_68, h0_69])), (h1, .inl (ch1, 6, .inl fh1)), (h2, .inl (ch2, 6, .inl fh2))] sz)) 0 0 (va_A [(h0, .inr (12, [h0_0, h0_1, .int mx, h0_3, h0_4, h0_5, h0_6, h0_7, h0_8, h0_9, h0_10, h0_11, h0_12, h0_13, h0_14, h0_15, h0_16, h0_17, h0_18, h0_19, h0_20, h0_21, h0_22, .int mk, .ref h1, .ref h2, h0_26, h0_27, h0_28, h0_29, h0_30, h0_31, h0_32, h0_33, h0_34, h0_35, h0_36, h0_37, h0_38, h0_39, h0_40, h0_41, h0_42, h0_43, h0_44, h0_45, h0_46, h0_47, h0_48, h0_49, h0_50, h0_51, h0_52, h0_53, h0_54, h0_55, h0_56, h0_57, h0_58, h0_59, h0_60, h0_61, h0_62, h0_63, h0_64, h0_65, h0_66, h0_67, h0_68, h0_69])), (h1, .inl (ch1, 6, .inl fh1)), (h2, .inl (ch2, 6, .inl fh2))] sz) := by
  refine Met.ofW (cc := cX12_kind) (maxL := 3) (ret := (some .int)) (by decide) rfl ?_
  intro p e s m args below meth c s₁ B hml hv
  obtain ⟨rfl, hsz, hP, hK, hD0⟩ := hv
  have hx := B.exec
  have hb := B.bytes
  have hr := B.returns
  have hts := atoms_spec (ws := u_s_X12_kindA) B.pre
  have hown : s.vm.findClass RX12 = some m.cls := findClass_of_methodNamed B.named
  have hlocks := B.notSynchronized
  subst hsz
  have hD := hD0.self (sz := s.heap.size)
  generalize hAe : va_A [(h0, .inr (12, [h0_0, h0_1, .int mx, h0_3, h0_4, h0_5, h0_6, h0_7, h0_8, h0_9, h0_10, h0_11, h0_12, h0_13, h0_14, h0_15, h0_16, h0_17, h0_18, h0_19, h0_20, h0_21, h0_22, .int mk, .ref h1, .ref h2, h0_26, h0_27, h0_28, h0_29, h0_30, h0_31, h0_32, h0_33, h0_34, h0_35, h0_36, h0_37, h0_38, h0_39, h0_40, h0_41, h0_42, h0_43, h0_44, h0_45, h0_46, h0_47, h0_48, h0_49, h0_50, h0_51, h0_52, h0_53, h0_54, h0_55, h0_56, h0_57, h0_58, h0_59, h0_60, h0_61, h0_62, h0_63, h0_64, h0_65, h0_66, h0_67, h0_68, h0_69])), (h1, .inl (ch1, 6, .inl fh1)), (h2, .inl (ch2, 6, .inl fh2))] s.heap.size = A at hD ⊢
  have hA : ∀ q : Nat, s.heap.size ≤ q → A q := fun q h => by rw [← hAe]; exact Or.inr h
  have hS : va_S A s.heap s.heap [] := va_S.rf
  have hP : va_P (dC, dI) vwCl [(h0, .inr (12, [h0_0, h0_1, .int mx, h0_3, h0_4, h0_5, h0_6, h0_7, h0_8, h0_9, h0_10, h0_11, h0_12, h0_13, h0_14, h0_15, h0_16, h0_17, h0_18, h0_19, h0_20, h0_21, h0_22, .int mk, .ref h1, .ref h2, h0_26, h0_27, h0_28, h0_29, h0_30, h0_31, h0_32, h0_33, h0_34, h0_35, h0_36, h0_37, h0_38, h0_39, h0_40, h0_41, h0_42, h0_43, h0_44, h0_45, h0_46, h0_47, h0_48, h0_49, h0_50, h0_51, h0_52, h0_53, h0_54, h0_55, h0_56, h0_57, h0_58, h0_59, h0_60, h0_61, h0_62, h0_63, h0_64, h0_65, h0_66, h0_67, h0_68, h0_69])), (h1, .inl (ch1, 6, .inl fh1)), (h2, .inl (ch2, 6, .inl fh2))] s.heap := hP
  have w__fieldLink_RX12_145_ShellHeapModel_thrown_I_ := hts (.fieldLink RX12 145 "ShellHeapModel" "thrown" "I") (by decide +kernel)
  have hiX12 := show ∀ w ∈ u_ws RX12 TX12 70, w ∈ u_s_X12_kindA from fun w h => z_mc (z_mr (z_ml h))
  have w__fieldLink_RX12_192_ShellHeapModel_kinds_I_ := hts (.fieldLink RX12 192 "ShellHeapModel" "kinds" "I") (by decide +kernel)
  have w__fieldLink_RX12_63_ShellHeapModel_meat_I_ := hts (.fieldLink RX12 63 "ShellHeapModel" "meat" "[I") (by decide +kernel)
  have w__fieldLink_RX12_66_ShellHeapModel_valves_I_ := hts (.fieldLink RX12 66 "ShellHeapModel" "valves" "[I") (by decide +kernel)
  have krr_p1 := z_rng p1
  have krr_p2 := z_rng p2
  have hl := lv_entry ([.ref h0, .int p1, .int p2]) (n := 3) (Nat.le_of_ble_eq_true rfl)
  rw [lg_entry_eq]
  generalize (lg_sl ([.ref h0, .int p1, .int p2]) ++ List.replicate (3 - (lg_sl ([.ref h0, .int p1, .int p2])).length) Slot.unset).toArray = ls at hl ⊢
  have hl : lv_has ls 3 [(0, .ref h0), (1, .int p1), (2, .int p2)] := hl
  refine lv_aload_n hx hb dX12_kind_0 rfl (lv_at hl 0 rfl) ?_
  refine lv_iconst (v := 0) hx hb dX12_kind_1 (by decide) ?_
  refine va_put (D := (dC, dI)) (ci := 12) (v := .int 0) (ty := .int) (C := RX12) (T := TX12) (N := 70) hx hb hts hiX12 tyX12 tyX12_ok nmX12 hown hK hP hD hS 0 rfl rfl 2 (by decide) w__fieldLink_RX12_145_ShellHeapModel_thrown_I_ (fun _ h9 => h9) rfl (by decide +kernel) rfl rfl (Nat.le_of_ble_eq_true rfl) dX12_kind_2 (fun H_1 locs hP hD hS => ?_)
  have hP : va_P (dC, dI) vwCl [(h0, .inr (12, [h0_0, h0_1, .int 0, h0_3, h0_4, h0_5, h0_6, h0_7, h0_8, h0_9, h0_10, h0_11, h0_12, h0_13, h0_14, h0_15, h0_16, h0_17, h0_18, h0_19, h0_20, h0_21, h0_22, .int mk, .ref h1, .ref h2, h0_26, h0_27, h0_28, h0_29, h0_30, h0_31, h0_32, h0_33, h0_34, h0_35, h0_36, h0_37, h0_38, h0_39, h0_40, h0_41, h0_42, h0_43, h0_44, h0_45, h0_46, h0_47, h0_48, h0_49, h0_50, h0_51, h0_52, h0_53, h0_54, h0_55, h0_56, h0_57, h0_58, h0_59, h0_60, h0_61, h0_62, h0_63, h0_64, h0_65, h0_66, h0_67, h0_68, h0_69])), (h1, .inl (ch1, 6, .inl fh1)), (h2, .inl (ch2, 6, .inl fh2))] H_1 := hP
  have hD : va_D A [(h0, .inr (12, [h0_0, h0_1, .int 0, h0_3, h0_4, h0_5, h0_6, h0_7, h0_8, h0_9, h0_10, h0_11, h0_12, h0_13, h0_14, h0_15, h0_16, h0_17, h0_18, h0_19, h0_20, h0_21, h0_22, .int mk, .ref h1, .ref h2, h0_26, h0_27, h0_28, h0_29, h0_30, h0_31, h0_32, h0_33, h0_34, h0_35, h0_36, h0_37, h0_38, h0_39, h0_40, h0_41, h0_42, h0_43, h0_44, h0_45, h0_46, h0_47, h0_48, h0_49, h0_50, h0_51, h0_52, h0_53, h0_54, h0_55, h0_56, h0_57, h0_58, h0_59, h0_60, h0_61, h0_62, h0_63, h0_64, h0_65, h0_66, h0_67, h0_68, h0_69])), (h1, .inl (ch1, 6, .inl fh1)), (h2, .inl (ch2, 6, .inl fh2))] := hD
  refine lv_aload_n hx hb dX12_kind_5 rfl (lv_at hl 0 rfl) ?_
  refine va_get (D := (dC, dI)) (ci := 12) (v := .int mk) (C := RX12) (T := TX12) (N := 70) hx hb hts hiX12 hown hK hP 0 rfl rfl 23 (by decide) w__fieldLink_RX12_192_ShellHeapModel_kinds_I_ (fun _ h9 => h9) rfl dX12_kind_6 ?_
  refine lv_bipush (v := 6) hx hb dX12_kind_9 (by decide) ?_
  refine lv_icmp_eq (tgt := 35) hx hb dX12_kind_11 (by decide) (fun c_2 => ?_) (fun c_2 => ?_)
  · have k_3 : (mk).toInt = (6 : Int) := z_eq c_2
    refine lv_iconst (v := (-1)) hx hb dX12_kind_35 (by decide) ?_
    have hP9 := hP.sub (ws' := [(h0, .inr (12, [h0_0, h0_1, .int 0, h0_3, h0_4, h0_5, h0_6, h0_7, h0_8, h0_9, h0_10, h0_11, h0_12, h0_13, h0_14, h0_15, h0_16, h0_17, h0_18, h0_19, h0_20, h0_21, h0_22, .int mk, .ref h1, .ref h2, h0_26, h0_27, h0_28, h0_29, h0_30, h0_31, h0_32, h0_33, h0_34, h0_35, h0_36, h0_37, h0_38, h0_39, h0_40, h0_41, h0_42, h0_43, h0_44, h0_45, h0_46, h0_47, h0_48, h0_49, h0_50, h0_51, h0_52, h0_53, h0_54, h0_55, h0_56, h0_57, h0_58, h0_59, h0_60, h0_61, h0_62, h0_63, h0_64, h0_65, h0_66, h0_67, h0_68, h0_69])), (h1, .inl (ch1, 6, .inl fh1)), (h2, .inl (ch2, 6, .inl fh2))]) [0, 1, 2] rfl
    have hD9 := hD.sub (ws' := [(h0, .inr (12, [h0_0, h0_1, .int 0, h0_3, h0_4, h0_5, h0_6, h0_7, h0_8, h0_9, h0_10, h0_11, h0_12, h0_13, h0_14, h0_15, h0_16, h0_17, h0_18, h0_19, h0_20, h0_21, h0_22, .int mk, .ref h1, .ref h2, h0_26, h0_27, h0_28, h0_29, h0_30, h0_31, h0_32, h0_33, h0_34, h0_35, h0_36, h0_37, h0_38, h0_39, h0_40, h0_41, h0_42, h0_43, h0_44, h0_45, h0_46, h0_47, h0_48, h0_49, h0_50, h0_51, h0_52, h0_53, h0_54, h0_55, h0_56, h0_57, h0_58, h0_59, h0_60, h0_61, h0_62, h0_63, h0_64, h0_65, h0_66, h0_67, h0_68, h0_69])), (h1, .inl (ch1, 6, .inl fh1)), (h2, .inl (ch2, 6, .inl fh2))]) [0, 1, 2] (by decide) rfl
    have hK9 := hK.sub (tys' := []) [] rfl
    refine W.widen (k := 0) (n := 0) (Nat.le_of_ble_eq_true rfl) (Nat.le_of_ble_eq_true rfl) ?_
    exact W.iret (v := (-1)) hx hb hr (fun t ht hW => ⟨⟨(-1), (), rfl, (show (-1) = v_kiA mk p1 p2 by unfold v_kiA; rw [if_neg (by omega)]), ⟨0, mk, fh1, fh2, (by first | omega | decide), (show mk = v_kiN mk p1 p2 by unfold v_kiN; rw [if_neg (by omega)]), by rw [ht]; exact hP9, va_K.moved hW.alike hK9, hD9⟩⟩, hS.F ht⟩) hS.2.2 dX12_kind_36
  · have k_4 : (mk).toInt ≠ (6 : Int) := z_ne c_2
    refine lv_iload_n hx hb dX12_kind_14 rfl (lv_at hl 1 rfl) ?_
    refine lv_if_lt (tgt := 35) hx hb dX12_kind_15 (by decide) (fun c_5 => ?_) (fun c_5 => ?_)
    · have k_6 : (p1).toInt < (0 : Int) := z_lt c_5
      refine lv_iconst (v := (-1)) hx hb dX12_kind_35 (by decide) ?_
      have hP9 := hP.sub (ws' := [(h0, .inr (12, [h0_0, h0_1, .int 0, h0_3, h0_4, h0_5, h0_6, h0_7, h0_8, h0_9, h0_10, h0_11, h0_12, h0_13, h0_14, h0_15, h0_16, h0_17, h0_18, h0_19, h0_20, h0_21, h0_22, .int mk, .ref h1, .ref h2, h0_26, h0_27, h0_28, h0_29, h0_30, h0_31, h0_32, h0_33, h0_34, h0_35, h0_36, h0_37, h0_38, h0_39, h0_40, h0_41, h0_42, h0_43, h0_44, h0_45, h0_46, h0_47, h0_48, h0_49, h0_50, h0_51, h0_52, h0_53, h0_54, h0_55, h0_56, h0_57, h0_58, h0_59, h0_60, h0_61, h0_62, h0_63, h0_64, h0_65, h0_66, h0_67, h0_68, h0_69])), (h1, .inl (ch1, 6, .inl fh1)), (h2, .inl (ch2, 6, .inl fh2))]) [0, 1, 2] rfl
      have hD9 := hD.sub (ws' := [(h0, .inr (12, [h0_0, h0_1, .int 0, h0_3, h0_4, h0_5, h0_6, h0_7, h0_8, h0_9, h0_10, h0_11, h0_12, h0_13, h0_14, h0_15, h0_16, h0_17, h0_18, h0_19, h0_20, h0_21, h0_22, .int mk, .ref h1, .ref h2, h0_26, h0_27, h0_28, h0_29, h0_30, h0_31, h0_32, h0_33, h0_34, h0_35, h0_36, h0_37, h0_38, h0_39, h0_40, h0_41, h0_42, h0_43, h0_44, h0_45, h0_46, h0_47, h0_48, h0_49, h0_50, h0_51, h0_52, h0_53, h0_54, h0_55, h0_56, h0_57, h0_58, h0_59, h0_60, h0_61, h0_62, h0_63, h0_64, h0_65, h0_66, h0_67, h0_68, h0_69])), (h1, .inl (ch1, 6, .inl fh1)), (h2, .inl (ch2, 6, .inl fh2))]) [0, 1, 2] (by decide) rfl
      have hK9 := hK.sub (tys' := []) [] rfl
      refine W.widen (k := 0) (n := 0) (Nat.le_of_ble_eq_true rfl) (Nat.le_of_ble_eq_true rfl) ?_
      exact W.iret (v := (-1)) hx hb hr (fun t ht hW => ⟨⟨(-1), (), rfl, (show (-1) = v_kiA mk p1 p2 by unfold v_kiA; rw [if_neg (by omega)]), ⟨0, mk, fh1, fh2, (by first | omega | decide), (show mk = v_kiN mk p1 p2 by unfold v_kiN; rw [if_neg (by omega)]), by rw [ht]; exact hP9, va_K.moved hW.alike hK9, hD9⟩⟩, hS.F ht⟩) hS.2.2 dX12_kind_36
    · have k_7 : (p1).toInt ≥ (0 : Int) := z_nlt c_5
      refine lv_iload_n hx hb dX12_kind_18 rfl (lv_at hl 1 rfl) ?_
      refine lv_sipush (v := 999) hx hb dX12_kind_19 (by decide) ?_
      refine lv_icmp_gt (tgt := 35) hx hb dX12_kind_22 (by decide) (fun c_8 => ?_) (fun c_8 => ?_)
      · have k_9 : (999 : Int) < (p1).toInt := z_lt c_8
        refine lv_iconst (v := (-1)) hx hb dX12_kind_35 (by decide) ?_
        have hP9 := hP.sub (ws' := [(h0, .inr (12, [h0_0, h0_1, .int 0, h0_3, h0_4, h0_5, h0_6, h0_7, h0_8, h0_9, h0_10, h0_11, h0_12, h0_13, h0_14, h0_15, h0_16, h0_17, h0_18, h0_19, h0_20, h0_21, h0_22, .int mk, .ref h1, .ref h2, h0_26, h0_27, h0_28, h0_29, h0_30, h0_31, h0_32, h0_33, h0_34, h0_35, h0_36, h0_37, h0_38, h0_39, h0_40, h0_41, h0_42, h0_43, h0_44, h0_45, h0_46, h0_47, h0_48, h0_49, h0_50, h0_51, h0_52, h0_53, h0_54, h0_55, h0_56, h0_57, h0_58, h0_59, h0_60, h0_61, h0_62, h0_63, h0_64, h0_65, h0_66, h0_67, h0_68, h0_69])), (h1, .inl (ch1, 6, .inl fh1)), (h2, .inl (ch2, 6, .inl fh2))]) [0, 1, 2] rfl
        have hD9 := hD.sub (ws' := [(h0, .inr (12, [h0_0, h0_1, .int 0, h0_3, h0_4, h0_5, h0_6, h0_7, h0_8, h0_9, h0_10, h0_11, h0_12, h0_13, h0_14, h0_15, h0_16, h0_17, h0_18, h0_19, h0_20, h0_21, h0_22, .int mk, .ref h1, .ref h2, h0_26, h0_27, h0_28, h0_29, h0_30, h0_31, h0_32, h0_33, h0_34, h0_35, h0_36, h0_37, h0_38, h0_39, h0_40, h0_41, h0_42, h0_43, h0_44, h0_45, h0_46, h0_47, h0_48, h0_49, h0_50, h0_51, h0_52, h0_53, h0_54, h0_55, h0_56, h0_57, h0_58, h0_59, h0_60, h0_61, h0_62, h0_63, h0_64, h0_65, h0_66, h0_67, h0_68, h0_69])), (h1, .inl (ch1, 6, .inl fh1)), (h2, .inl (ch2, 6, .inl fh2))]) [0, 1, 2] (by decide) rfl
        have hK9 := hK.sub (tys' := []) [] rfl
        refine W.widen (k := 0) (n := 0) (Nat.le_of_ble_eq_true rfl) (Nat.le_of_ble_eq_true rfl) ?_
        exact W.iret (v := (-1)) hx hb hr (fun t ht hW => ⟨⟨(-1), (), rfl, (show (-1) = v_kiA mk p1 p2 by unfold v_kiA; rw [if_neg (by omega)]), ⟨0, mk, fh1, fh2, (by first | omega | decide), (show mk = v_kiN mk p1 p2 by unfold v_kiN; rw [if_neg (by omega)]), by rw [ht]; exact hP9, va_K.moved hW.alike hK9, hD9⟩⟩, hS.F ht⟩) hS.2.2 dX12_kind_36
      · have k_10 : (999 : Int) ≥ (p1).toInt := z_nlt c_8
        refine lv_iload_n hx hb dX12_kind_25 rfl (lv_at hl 2 rfl) ?_
        refine lv_iconst (v := 1) hx hb dX12_kind_26 (by decide) ?_
        refine lv_icmp_lt (tgt := 35) hx hb dX12_kind_27 (by decide) (fun c_11 => ?_) (fun c_11 => ?_)
        · have k_12 : (p2).toInt < (1 : Int) := z_lt c_11
          refine lv_iconst (v := (-1)) hx hb dX12_kind_35 (by decide) ?_
          have hP9 := hP.sub (ws' := [(h0, .inr (12, [h0_0, h0_1, .int 0, h0_3, h0_4, h0_5, h0_6, h0_7, h0_8, h0_9, h0_10, h0_11, h0_12, h0_13, h0_14, h0_15, h0_16, h0_17, h0_18, h0_19, h0_20, h0_21, h0_22, .int mk, .ref h1, .ref h2, h0_26, h0_27, h0_28, h0_29, h0_30, h0_31, h0_32, h0_33, h0_34, h0_35, h0_36, h0_37, h0_38, h0_39, h0_40, h0_41, h0_42, h0_43, h0_44, h0_45, h0_46, h0_47, h0_48, h0_49, h0_50, h0_51, h0_52, h0_53, h0_54, h0_55, h0_56, h0_57, h0_58, h0_59, h0_60, h0_61, h0_62, h0_63, h0_64, h0_65, h0_66, h0_67, h0_68, h0_69])), (h1, .inl (ch1, 6, .inl fh1)), (h2, .inl (ch2, 6, .inl fh2))]) [0, 1, 2] rfl
          have hD9 := hD.sub (ws' := [(h0, .inr (12, [h0_0, h0_1, .int 0, h0_3, h0_4, h0_5, h0_6, h0_7, h0_8, h0_9, h0_10, h0_11, h0_12, h0_13, h0_14, h0_15, h0_16, h0_17, h0_18, h0_19, h0_20, h0_21, h0_22, .int mk, .ref h1, .ref h2, h0_26, h0_27, h0_28, h0_29, h0_30, h0_31, h0_32, h0_33, h0_34, h0_35, h0_36, h0_37, h0_38, h0_39, h0_40, h0_41, h0_42, h0_43, h0_44, h0_45, h0_46, h0_47, h0_48, h0_49, h0_50, h0_51, h0_52, h0_53, h0_54, h0_55, h0_56, h0_57, h0_58, h0_59, h0_60, h0_61, h0_62, h0_63, h0_64, h0_65, h0_66, h0_67, h0_68, h0_69])), (h1, .inl (ch1, 6, .inl fh1)), (h2, .inl (ch2, 6, .inl fh2))]) [0, 1, 2] (by decide) rfl
          have hK9 := hK.sub (tys' := []) [] rfl
          refine W.widen (k := 0) (n := 0) (Nat.le_of_ble_eq_true rfl) (Nat.le_of_ble_eq_true rfl) ?_
          exact W.iret (v := (-1)) hx hb hr (fun t ht hW => ⟨⟨(-1), (), rfl, (show (-1) = v_kiA mk p1 p2 by unfold v_kiA; rw [if_neg (by omega)]), ⟨0, mk, fh1, fh2, (by first | omega | decide), (show mk = v_kiN mk p1 p2 by unfold v_kiN; rw [if_neg (by omega)]), by rw [ht]; exact hP9, va_K.moved hW.alike hK9, hD9⟩⟩, hS.F ht⟩) hS.2.2 dX12_kind_36
        · have k_13 : (p2).toInt ≥ (1 : Int) := z_nlt c_11
          refine lv_iload_n hx hb dX12_kind_30 rfl (lv_at hl 2 rfl) ?_
          refine lv_iconst (v := 2) hx hb dX12_kind_31 (by decide) ?_
          refine lv_icmp_le (tgt := 37) hx hb dX12_kind_32 (by decide) (fun c_14 => ?_) (fun c_14 => ?_)
          · have k_15 : (p2).toInt ≤ (2 : Int) := z_le c_14
            refine lv_aload_n hx hb dX12_kind_37 rfl (lv_at hl 0 rfl) ?_
            refine va_get (D := (dC, dI)) (ci := 12) (v := .ref h1) (C := RX12) (T := TX12) (N := 70) hx hb hts hiX12 hown hK hP 0 rfl rfl 24 (by decide) w__fieldLink_RX12_63_ShellHeapModel_meat_I_ (fun _ h9 => h9) rfl dX12_kind_38 ?_
            refine lv_aload_n hx hb dX12_kind_41 rfl (lv_at hl 0 rfl) ?_
            refine va_get (D := (dC, dI)) (ci := 12) (v := .int mk) (C := RX12) (T := TX12) (N := 70) hx hb hts hiX12 hown hK hP 0 rfl rfl 23 (by decide) w__fieldLink_RX12_192_ShellHeapModel_kinds_I_ (fun _ h9 => h9) rfl dX12_kind_42 ?_
            refine lv_iload_n hx hb dX12_kind_45 rfl (lv_at hl 1 rfl) ?_
            refine va_iast hx hb hK hP hD hS 1 0 rfl rfl (z_vpin (by omega) (by omega)) dX12_kind_46 (fun H_16 locs hP hD hS => ?_)
            have hP : va_P (dC, dI) vwCl [(h0, .inr (12, [h0_0, h0_1, .int 0, h0_3, h0_4, h0_5, h0_6, h0_7, h0_8, h0_9, h0_10, h0_11, h0_12, h0_13, h0_14, h0_15, h0_16, h0_17, h0_18, h0_19, h0_20, h0_21, h0_22, .int mk, .ref h1, .ref h2, h0_26, h0_27, h0_28, h0_29, h0_30, h0_31, h0_32, h0_33, h0_34, h0_35, h0_36, h0_37, h0_38, h0_39, h0_40, h0_41, h0_42, h0_43, h0_44, h0_45, h0_46, h0_47, h0_48, h0_49, h0_50, h0_51, h0_52, h0_53, h0_54, h0_55, h0_56, h0_57, h0_58, h0_59, h0_60, h0_61, h0_62, h0_63, h0_64, h0_65, h0_66, h0_67, h0_68, h0_69])), (h1, .inl (ch1, 6, .inl (upd fh1 (mk : Int32).toNatClampNeg p1))), (h2, .inl (ch2, 6, .inl fh2))] H_16 := hP
            have hD : va_D A [(h0, .inr (12, [h0_0, h0_1, .int 0, h0_3, h0_4, h0_5, h0_6, h0_7, h0_8, h0_9, h0_10, h0_11, h0_12, h0_13, h0_14, h0_15, h0_16, h0_17, h0_18, h0_19, h0_20, h0_21, h0_22, .int mk, .ref h1, .ref h2, h0_26, h0_27, h0_28, h0_29, h0_30, h0_31, h0_32, h0_33, h0_34, h0_35, h0_36, h0_37, h0_38, h0_39, h0_40, h0_41, h0_42, h0_43, h0_44, h0_45, h0_46, h0_47, h0_48, h0_49, h0_50, h0_51, h0_52, h0_53, h0_54, h0_55, h0_56, h0_57, h0_58, h0_59, h0_60, h0_61, h0_62, h0_63, h0_64, h0_65, h0_66, h0_67, h0_68, h0_69])), (h1, .inl (ch1, 6, .inl (upd fh1 (mk : Int32).toNatClampNeg p1))), (h2, .inl (ch2, 6, .inl fh2))] := hD
            generalize (upd fh1 (mk : Int32).toNatClampNeg p1) = f_17 at hP hD
            refine lv_aload_n hx hb dX12_kind_47 rfl (lv_at hl 0 rfl) ?_
            refine va_get (D := (dC, dI)) (ci := 12) (v := .ref h2) (C := RX12) (T := TX12) (N := 70) hx hb hts hiX12 hown hK hP 0 rfl rfl 25 (by decide) w__fieldLink_RX12_66_ShellHeapModel_valves_I_ (fun _ h9 => h9) rfl dX12_kind_48 ?_
            refine lv_aload_n hx hb dX12_kind_51 rfl (lv_at hl 0 rfl) ?_
            refine va_get (D := (dC, dI)) (ci := 12) (v := .int mk) (C := RX12) (T := TX12) (N := 70) hx hb hts hiX12 hown hK hP 0 rfl rfl 23 (by decide) w__fieldLink_RX12_192_ShellHeapModel_kinds_I_ (fun _ h9 => h9) rfl dX12_kind_52 ?_
            refine lv_iload_n hx hb dX12_kind_55 rfl (lv_at hl 2 rfl) ?_
            refine va_iast hx hb hK hP hD hS 2 1 rfl rfl (z_vpin (by omega) (by omega)) dX12_kind_56 (fun H_18 locs hP hD hS => ?_)
            have hP : va_P (dC, dI) vwCl [(h0, .inr (12, [h0_0, h0_1, .int 0, h0_3, h0_4, h0_5, h0_6, h0_7, h0_8, h0_9, h0_10, h0_11, h0_12, h0_13, h0_14, h0_15, h0_16, h0_17, h0_18, h0_19, h0_20, h0_21, h0_22, .int mk, .ref h1, .ref h2, h0_26, h0_27, h0_28, h0_29, h0_30, h0_31, h0_32, h0_33, h0_34, h0_35, h0_36, h0_37, h0_38, h0_39, h0_40, h0_41, h0_42, h0_43, h0_44, h0_45, h0_46, h0_47, h0_48, h0_49, h0_50, h0_51, h0_52, h0_53, h0_54, h0_55, h0_56, h0_57, h0_58, h0_59, h0_60, h0_61, h0_62, h0_63, h0_64, h0_65, h0_66, h0_67, h0_68, h0_69])), (h1, .inl (ch1, 6, .inl f_17)), (h2, .inl (ch2, 6, .inl (upd fh2 (mk : Int32).toNatClampNeg p2)))] H_18 := hP
            have hD : va_D A [(h0, .inr (12, [h0_0, h0_1, .int 0, h0_3, h0_4, h0_5, h0_6, h0_7, h0_8, h0_9, h0_10, h0_11, h0_12, h0_13, h0_14, h0_15, h0_16, h0_17, h0_18, h0_19, h0_20, h0_21, h0_22, .int mk, .ref h1, .ref h2, h0_26, h0_27, h0_28, h0_29, h0_30, h0_31, h0_32, h0_33, h0_34, h0_35, h0_36, h0_37, h0_38, h0_39, h0_40, h0_41, h0_42, h0_43, h0_44, h0_45, h0_46, h0_47, h0_48, h0_49, h0_50, h0_51, h0_52, h0_53, h0_54, h0_55, h0_56, h0_57, h0_58, h0_59, h0_60, h0_61, h0_62, h0_63, h0_64, h0_65, h0_66, h0_67, h0_68, h0_69])), (h1, .inl (ch1, 6, .inl f_17)), (h2, .inl (ch2, 6, .inl (upd fh2 (mk : Int32).toNatClampNeg p2)))] := hD
            generalize (upd fh2 (mk : Int32).toNatClampNeg p2) = f_19 at hP hD
            refine lv_aload_n hx hb dX12_kind_57 rfl (lv_at hl 0 rfl) ?_
            refine lv_dup hx hb dX12_kind_58 rfl ?_
            refine va_get (D := (dC, dI)) (ci := 12) (v := .int mk) (C := RX12) (T := TX12) (N := 70) hx hb hts hiX12 hown hK hP 0 rfl rfl 23 (by decide) w__fieldLink_RX12_192_ShellHeapModel_kinds_I_ (fun _ h9 => h9) rfl dX12_kind_59 ?_
            refine lv_iconst (v := 1) hx hb dX12_kind_62 (by decide) ?_
            refine lv_iadd hx hb dX12_kind_63 ?_
            refine lv_topi (fun z_20 ez_20 => ?_)
            have kz_20 : (z_20).toInt = (mk).toInt + (1 : Int) := by rw [ez_20]; exact z_add (a := (mk).toInt) (b := (1 : Int)) rfl rfl (by omega) (by omega)
            refine va_put (D := (dC, dI)) (ci := 12) (v := .int z_20) (ty := .int) (C := RX12) (T := TX12) (N := 70) hx hb hts hiX12 tyX12 tyX12_ok nmX12 hown hK hP hD hS 0 rfl rfl 23 (by decide) w__fieldLink_RX12_192_ShellHeapModel_kinds_I_ (fun _ h9 => h9) rfl (by decide +kernel) rfl rfl (Nat.le_of_ble_eq_true rfl) dX12_kind_64 (fun H_21 locs hP hD hS => ?_)
            have hP : va_P (dC, dI) vwCl [(h0, .inr (12, [h0_0, h0_1, .int 0, h0_3, h0_4, h0_5, h0_6, h0_7, h0_8, h0_9, h0_10, h0_11, h0_12, h0_13, h0_14, h0_15, h0_16, h0_17, h0_18, h0_19, h0_20, h0_21, h0_22, .int z_20, .ref h1, .ref h2, h0_26, h0_27, h0_28, h0_29, h0_30, h0_31, h0_32, h0_33, h0_34, h0_35, h0_36, h0_37, h0_38, h0_39, h0_40, h0_41, h0_42, h0_43, h0_44, h0_45, h0_46, h0_47, h0_48, h0_49, h0_50, h0_51, h0_52, h0_53, h0_54, h0_55, h0_56, h0_57, h0_58, h0_59, h0_60, h0_61, h0_62, h0_63, h0_64, h0_65, h0_66, h0_67, h0_68, h0_69])), (h1, .inl (ch1, 6, .inl f_17)), (h2, .inl (ch2, 6, .inl f_19))] H_21 := hP
            have hD : va_D A [(h0, .inr (12, [h0_0, h0_1, .int 0, h0_3, h0_4, h0_5, h0_6, h0_7, h0_8, h0_9, h0_10, h0_11, h0_12, h0_13, h0_14, h0_15, h0_16, h0_17, h0_18, h0_19, h0_20, h0_21, h0_22, .int z_20, .ref h1, .ref h2, h0_26, h0_27, h0_28, h0_29, h0_30, h0_31, h0_32, h0_33, h0_34, h0_35, h0_36, h0_37, h0_38, h0_39, h0_40, h0_41, h0_42, h0_43, h0_44, h0_45, h0_46, h0_47, h0_48, h0_49, h0_50, h0_51, h0_52, h0_53, h0_54, h0_55, h0_56, h0_57, h0_58, h0_59, h0_60, h0_61, h0_62, h0_63, h0_64, h0_65, h0_66, h0_67, h0_68, h0_69])), (h1, .inl (ch1, 6, .inl f_17)), (h2, .inl (ch2, 6, .inl f_19))] := hD
            refine lv_aload_n hx hb dX12_kind_67 rfl (lv_at hl 0 rfl) ?_
            refine va_get (D := (dC, dI)) (ci := 12) (v := .int z_20) (C := RX12) (T := TX12) (N := 70) hx hb hts hiX12 hown hK hP 0 rfl rfl 23 (by decide) w__fieldLink_RX12_192_ShellHeapModel_kinds_I_ (fun _ h9 => h9) rfl dX12_kind_68 ?_
            refine lv_iconst (v := 1) hx hb dX12_kind_71 (by decide) ?_
            refine lv_isub hx hb dX12_kind_72 ?_
            refine lv_topi (fun z_22 ez_22 => ?_)
            have kz_22 : (z_22).toInt = (z_20).toInt - (1 : Int) := by rw [ez_22]; exact z_sub (a := (z_20).toInt) (b := (1 : Int)) rfl rfl (by omega) (by omega)
            have hP9 := hP.sub (ws' := [(h0, .inr (12, [h0_0, h0_1, .int 0, h0_3, h0_4, h0_5, h0_6, h0_7, h0_8, h0_9, h0_10, h0_11, h0_12, h0_13, h0_14, h0_15, h0_16, h0_17, h0_18, h0_19, h0_20, h0_21, h0_22, .int z_20, .ref h1, .ref h2, h0_26, h0_27, h0_28, h0_29, h0_30, h0_31, h0_32, h0_33, h0_34, h0_35, h0_36, h0_37, h0_38, h0_39, h0_40, h0_41, h0_42, h0_43, h0_44, h0_45, h0_46, h0_47, h0_48, h0_49, h0_50, h0_51, h0_52, h0_53, h0_54, h0_55, h0_56, h0_57, h0_58, h0_59, h0_60, h0_61, h0_62, h0_63, h0_64, h0_65, h0_66, h0_67, h0_68, h0_69])), (h1, .inl (ch1, 6, .inl f_17)), (h2, .inl (ch2, 6, .inl f_19))]) [0, 1, 2] rfl
            have hD9 := hD.sub (ws' := [(h0, .inr (12, [h0_0, h0_1, .int 0, h0_3, h0_4, h0_5, h0_6, h0_7, h0_8, h0_9, h0_10, h0_11, h0_12, h0_13, h0_14, h0_15, h0_16, h0_17, h0_18, h0_19, h0_20, h0_21, h0_22, .int z_20, .ref h1, .ref h2, h0_26, h0_27, h0_28, h0_29, h0_30, h0_31, h0_32, h0_33, h0_34, h0_35, h0_36, h0_37, h0_38, h0_39, h0_40, h0_41, h0_42, h0_43, h0_44, h0_45, h0_46, h0_47, h0_48, h0_49, h0_50, h0_51, h0_52, h0_53, h0_54, h0_55, h0_56, h0_57, h0_58, h0_59, h0_60, h0_61, h0_62, h0_63, h0_64, h0_65, h0_66, h0_67, h0_68, h0_69])), (h1, .inl (ch1, 6, .inl f_17)), (h2, .inl (ch2, 6, .inl f_19))]) [0, 1, 2] (by decide) rfl
            have hK9 := hK.sub (tys' := []) [] rfl
            refine W.widen (k := 0) (n := 0) (Nat.le_of_ble_eq_true rfl) (Nat.le_of_ble_eq_true rfl) ?_
            exact W.iret (v := z_22) hx hb hr (fun t ht hW => ⟨⟨z_22, (), rfl, (show z_22 = v_kiA mk p1 p2 by unfold v_kiA; rw [if_pos (by omega)]; first | exact ez_22 | exact z_ii (by omega)), ⟨0, z_20, f_17, f_19, (by first | omega | decide), (show z_20 = v_kiN mk p1 p2 by unfold v_kiN; rw [if_pos (by omega)]; exact ez_20), by rw [ht]; exact hP9, va_K.moved hW.alike hK9, hD9⟩⟩, hS.F ht⟩) hS.2.2 dX12_kind_73
          · have k_23 : (p2).toInt > (2 : Int) := z_nle c_14
            refine lv_iconst (v := (-1)) hx hb dX12_kind_35 (by decide) ?_
            have hP9 := hP.sub (ws' := [(h0, .inr (12, [h0_0, h0_1, .int 0, h0_3, h0_4, h0_5, h0_6, h0_7, h0_8, h0_9, h0_10, h0_11, h0_12, h0_13, h0_14, h0_15, h0_16, h0_17, h0_18, h0_19, h0_20, h0_21, h0_22, .int mk, .ref h1, .ref h2, h0_26, h0_27, h0_28, h0_29, h0_30, h0_31, h0_32, h0_33, h0_34, h0_35, h0_36, h0_37, h0_38, h0_39, h0_40, h0_41, h0_42, h0_43, h0_44, h0_45, h0_46, h0_47, h0_48, h0_49, h0_50, h0_51, h0_52, h0_53, h0_54, h0_55, h0_56, h0_57, h0_58, h0_59, h0_60, h0_61, h0_62, h0_63, h0_64, h0_65, h0_66, h0_67, h0_68, h0_69])), (h1, .inl (ch1, 6, .inl fh1)), (h2, .inl (ch2, 6, .inl fh2))]) [0, 1, 2] rfl
            have hD9 := hD.sub (ws' := [(h0, .inr (12, [h0_0, h0_1, .int 0, h0_3, h0_4, h0_5, h0_6, h0_7, h0_8, h0_9, h0_10, h0_11, h0_12, h0_13, h0_14, h0_15, h0_16, h0_17, h0_18, h0_19, h0_20, h0_21, h0_22, .int mk, .ref h1, .ref h2, h0_26, h0_27, h0_28, h0_29, h0_30, h0_31, h0_32, h0_33, h0_34, h0_35, h0_36, h0_37, h0_38, h0_39, h0_40, h0_41, h0_42, h0_43, h0_44, h0_45, h0_46, h0_47, h0_48, h0_49, h0_50, h0_51, h0_52, h0_53, h0_54, h0_55, h0_56, h0_57, h0_58, h0_59, h0_60, h0_61, h0_62, h0_63, h0_64, h0_65, h0_66, h0_67, h0_68, h0_69])), (h1, .inl (ch1, 6, .inl fh1)), (h2, .inl (ch2, 6, .inl fh2))]) [0, 1, 2] (by decide) rfl
            have hK9 := hK.sub (tys' := []) [] rfl
            refine W.widen (k := 0) (n := 0) (Nat.le_of_ble_eq_true rfl) (Nat.le_of_ble_eq_true rfl) ?_
            exact W.iret (v := (-1)) hx hb hr (fun t ht hW => ⟨⟨(-1), (), rfl, (show (-1) = v_kiA mk p1 p2 by unfold v_kiA; rw [if_neg (by omega)]), ⟨0, mk, fh1, fh2, (by first | omega | decide), (show mk = v_kiN mk p1 p2 by unfold v_kiN; rw [if_neg (by omega)]), by rw [ht]; exact hP9, va_K.moved hW.alike hK9, hD9⟩⟩, hS.F ht⟩) hS.2.2 dX12_kind_36
def u_s_X5_hasKindA : List Cond := .code yX5_hasKind cX5_hasKind 2 (some .boolean) :: ([.fieldLink RX5 41 "ShellHeap$Pantry" "kinds" "I"] ++ (wsX50 ++ []))
theorem gd_s_X5_hasKindA : z_gd u_s_X5_hasKindA := z_gdc (by decide +kernel) (z_gda gdX5 (z_gd0))
set_option maxHeartbeats 4000000 in
set_option maxRecDepth 100000 in
theorem s_X5_hasKindA (l : Launch) (dC : Nat → ClassId) (dI : Nat → Nat → Nat) (sz : Nat) (h0 : Nat) (p1 : Int32) (h0_0 : Value) (h0_1 : Value) (h0_2 : Value) (h0_3 : Value) (h0_4 : Value) (h0_5 : Value) (h0_6 : Value) (h0_7 : Value) (h0_8 : Value) (pk : Int32) (hB_pk : ((0 : Int) ≤ (pk).toInt ∧ (pk).toInt ≤ (6 : Int))) : Met l yX5_hasKind u_s_X5_hasKindA ({ frames := 0, cells := 0, slots := 0, locals := 0 }) (va_Pc [.ref h0, .int p1] (z_C (dC, dI) vwCl [(h0, .inr (5, [h0_0, h0_1, h0_2, h0_3, h0_4, h0_5, h0_6, h0_7, h0_8, .int pk]))] [] sz)) (va_Qi (fun (r : Int32) (_ : Unit) => (r = 1 ∧ (0 ≤ p1.toInt ∧ p1.toInt < pk.toInt)) ∨ (r = 0 ∧ ¬ (0 ≤ p1.toInt ∧ p1.toInt < pk.toInt))) (fun (_ : Unit) (_ : State) => True) (va_A [] sz)) 0 0 (va_A [] sz) := by
  refine Met.ofW (cc := cX5_hasKind) (maxL := 2) (ret := (some .boolean)) (by decide) rfl ?_
  intro p e s m args below meth c s₁ B hml hv
  obtain ⟨rfl, hsz, hP, hK, hD0⟩ := hv
  have hx := B.exec
  have hb := B.bytes
  have hr := B.returns
  have hts := atoms_spec (ws := u_s_X5_hasKindA) B.pre
  have hown : s.vm.findClass RX5 = some m.cls := findClass_of_methodNamed B.named
  have hlocks := B.notSynchronized
  subst hsz
  have hD := hD0
  generalize hAe : va_A [] s.heap.size = A
  have hA : ∀ q : Nat, s.heap.size ≤ q → A q := fun q h => by rw [← hAe]; exact Or.inr h
  have hS : va_S A s.heap s.heap [] := va_S.rf
  have hP : va_P (dC, dI) vwCl [(h0, .inr (5, [h0_0, h0_1, h0_2, h0_3, h0_4, h0_5, h0_6, h0_7, h0_8, .int pk]))] s.heap := hP
  have w__fieldLink_RX5_41_ShellHeap_Pantry_kinds_I_ := hts (.fieldLink RX5 41 "ShellHeap$Pantry" "kinds" "I") (by decide +kernel)
  have hiX5 := show ∀ w ∈ u_ws RX5 TX5 10, w ∈ u_s_X5_hasKindA from fun w h => z_mc (z_mr (z_ml h))
  have krr_p1 := z_rng p1
  have hl := lv_entry ([.ref h0, .int p1]) (n := 2) (Nat.le_of_ble_eq_true rfl)
  rw [lg_entry_eq]
  generalize (lg_sl ([.ref h0, .int p1]) ++ List.replicate (2 - (lg_sl ([.ref h0, .int p1])).length) Slot.unset).toArray = ls at hl ⊢
  have hl : lv_has ls 2 [(0, .ref h0), (1, .int p1)] := hl
  refine lv_iload_n hx hb dX5_hasKind_0 rfl (lv_at hl 1 rfl) ?_
  refine lv_if_lt (tgt := 16) hx hb dX5_hasKind_1 (by decide) (fun c_1 => ?_) (fun c_1 => ?_)
  · have k_2 : (p1).toInt < (0 : Int) := z_lt c_1
    refine lv_iconst (v := 0) hx hb dX5_hasKind_16 (by decide) ?_
    refine W.widen (k := 0) (n := 0) (Nat.le_of_ble_eq_true rfl) (Nat.le_of_ble_eq_true rfl) ?_
    exact W.zret (v := 0) hx hb hr (by rfl) (fun t ht hW => ⟨⟨0, (), rfl, (Or.inr (⟨rfl, by first | omega | decide⟩)), trivial⟩, hS.F ht⟩) hS.2.2 dX5_hasKind_17
  · have k_3 : (p1).toInt ≥ (0 : Int) := z_nlt c_1
    refine lv_iload_n hx hb dX5_hasKind_4 rfl (lv_at hl 1 rfl) ?_
    refine lv_aload_n hx hb dX5_hasKind_5 rfl (lv_at hl 0 rfl) ?_
    refine va_get (D := (dC, dI)) (ci := 5) (v := .int pk) (C := RX5) (T := TX5) (N := 10) hx hb hts hiX5 hown hK hP 0 rfl rfl 9 (by decide) w__fieldLink_RX5_41_ShellHeap_Pantry_kinds_I_ (fun _ h9 => h9) rfl dX5_hasKind_6 ?_
    refine lv_icmp_ge (tgt := 16) hx hb dX5_hasKind_9 (by decide) (fun c_4 => ?_) (fun c_4 => ?_)
    · have k_5 : (pk).toInt ≤ (p1).toInt := z_le c_4
      refine lv_iconst (v := 0) hx hb dX5_hasKind_16 (by decide) ?_
      refine W.widen (k := 0) (n := 0) (Nat.le_of_ble_eq_true rfl) (Nat.le_of_ble_eq_true rfl) ?_
      exact W.zret (v := 0) hx hb hr (by rfl) (fun t ht hW => ⟨⟨0, (), rfl, (Or.inr (⟨rfl, by first | omega | decide⟩)), trivial⟩, hS.F ht⟩) hS.2.2 dX5_hasKind_17
    · have k_6 : (pk).toInt > (p1).toInt := z_nle c_4
      refine lv_iconst (v := 1) hx hb dX5_hasKind_12 (by decide) ?_
      refine lv_goto (tgt := 17) hx hb dX5_hasKind_13 (by decide) ?_
      refine W.widen (k := 0) (n := 0) (Nat.le_of_ble_eq_true rfl) (Nat.le_of_ble_eq_true rfl) ?_
      exact W.zret (v := 1) hx hb hr (by rfl) (fun t ht hW => ⟨⟨1, (), rfl, (Or.inl (⟨rfl, by first | omega | decide⟩)), trivial⟩, hS.F ht⟩) hS.2.2 dX5_hasKind_17
def u_s_X12_isKindA : List Cond := .code yX12_isKind cX12_isKind 2 (some .boolean) :: ([.fieldLink RX12 192 "ShellHeapModel" "kinds" "I"] ++ (wsX120 ++ []))
theorem gd_s_X12_isKindA : z_gd u_s_X12_isKindA := z_gdc (by decide +kernel) (z_gda gdX12 (z_gd0))
set_option maxHeartbeats 4000000 in
set_option maxRecDepth 100000 in
theorem s_X12_isKindA (l : Launch) (dC : Nat → ClassId) (dI : Nat → Nat → Nat) (sz : Nat) (h0 : Nat) (p1 : Int32) (h0_0 : Value) (h0_1 : Value) (h0_2 : Value) (h0_3 : Value) (h0_4 : Value) (h0_5 : Value) (h0_6 : Value) (h0_7 : Value) (h0_8 : Value) (h0_9 : Value) (h0_10 : Value) (h0_11 : Value) (h0_12 : Value) (h0_13 : Value) (h0_14 : Value) (h0_15 : Value) (h0_16 : Value) (h0_17 : Value) (h0_18 : Value) (h0_19 : Value) (h0_20 : Value) (h0_21 : Value) (h0_22 : Value) (mk : Int32) (h0_24 : Value) (h0_25 : Value) (h0_26 : Value) (h0_27 : Value) (h0_28 : Value) (h0_29 : Value) (h0_30 : Value) (h0_31 : Value) (h0_32 : Value) (h0_33 : Value) (h0_34 : Value) (h0_35 : Value) (h0_36 : Value) (h0_37 : Value) (h0_38 : Value) (h0_39 : Value) (h0_40 : Value) (h0_41 : Value) (h0_42 : Value) (h0_43 : Value) (h0_44 : Value) (h0_45 : Value) (h0_46 : Value) (h0_47 : Value) (h0_48 : Value) (h0_49 : Value) (h0_50 : Value) (h0_51 : Value) (h0_52 : Value) (h0_53 : Value) (h0_54 : Value) (h0_55 : Value) (h0_56 : Value) (h0_57 : Value) (h0_58 : Value) (h0_59 : Value) (h0_60 : Value) (h0_61 : Value) (h0_62 : Value) (h0_63 : Value) (h0_64 : Value) (h0_65 : Value) (h0_66 : Value) (h0_67 : Value) (h0_68 : Value) (h0_69 : Value) (hB_mk : ((0 : Int) ≤ (mk).toInt ∧ (mk).toInt ≤ (6 : Int))) : Met l yX12_isKind u_s_X12_isKindA ({ frames := 0, cells := 0, slots := 0, locals := 0 }) (va_Pc [.ref h0, .int p1] (z_C (dC, dI) vwCl [(h0, .inr (12, [h0_0, h0_1, h0_2, h0_3, h0_4, h0_5, h0_6, h0_7, h0_8, h0_9, h0_10, h0_11, h0_12, h0_13, h0_14, h0_15, h0_16, h0_17, h0_18, h0_19, h0_20, h0_21, h0_22, .int mk, h0_24, h0_25, h0_26, h0_27, h0_28, h0_29, h0_30, h0_31, h0_32, h0_33, h0_34, h0_35, h0_36, h0_37, h0_38, h0_39, h0_40, h0_41, h0_42, h0_43, h0_44, h0_45, h0_46, h0_47, h0_48, h0_49, h0_50, h0_51, h0_52, h0_53, h0_54, h0_55, h0_56, h0_57, h0_58, h0_59, h0_60, h0_61, h0_62, h0_63, h0_64, h0_65, h0_66, h0_67, h0_68, h0_69]))] [] sz)) (va_Qi (fun (r : Int32) (_ : Unit) => (r = 1 ∧ (0 ≤ p1.toInt ∧ p1.toInt < mk.toInt)) ∨ (r = 0 ∧ ¬ (0 ≤ p1.toInt ∧ p1.toInt < mk.toInt))) (fun (_ : Unit) (_ : State) => True) (va_A [] sz)) 0 0 (va_A [] sz) := by
  refine Met.ofW (cc := cX12_isKind) (maxL := 2) (ret := (some .boolean)) (by decide) rfl ?_
  intro p e s m args below meth c s₁ B hml hv
  obtain ⟨rfl, hsz, hP, hK, hD0⟩ := hv
  have hx := B.exec
  have hb := B.bytes
  have hr := B.returns
  have hts := atoms_spec (ws := u_s_X12_isKindA) B.pre
  have hown : s.vm.findClass RX12 = some m.cls := findClass_of_methodNamed B.named
  have hlocks := B.notSynchronized
  subst hsz
  have hD := hD0
  generalize hAe : va_A [] s.heap.size = A
  have hA : ∀ q : Nat, s.heap.size ≤ q → A q := fun q h => by rw [← hAe]; exact Or.inr h
  have hS : va_S A s.heap s.heap [] := va_S.rf
  have hP : va_P (dC, dI) vwCl [(h0, .inr (12, [h0_0, h0_1, h0_2, h0_3, h0_4, h0_5, h0_6, h0_7, h0_8, h0_9, h0_10, h0_11, h0_12, h0_13, h0_14, h0_15, h0_16, h0_17, h0_18, h0_19, h0_20, h0_21, h0_22, .int mk, h0_24, h0_25, h0_26, h0_27, h0_28, h0_29, h0_30, h0_31, h0_32, h0_33, h0_34, h0_35, h0_36, h0_37, h0_38, h0_39, h0_40, h0_41, h0_42, h0_43, h0_44, h0_45, h0_46, h0_47, h0_48, h0_49, h0_50, h0_51, h0_52, h0_53, h0_54, h0_55, h0_56, h0_57, h0_58, h0_59, h0_60, h0_61, h0_62, h0_63, h0_64, h0_65, h0_66, h0_67, h0_68, h0_69]))] s.heap := hP
  have w__fieldLink_RX12_192_ShellHeapModel_kinds_I_ := hts (.fieldLink RX12 192 "ShellHeapModel" "kinds" "I") (by decide +kernel)
  have hiX12 := show ∀ w ∈ u_ws RX12 TX12 70, w ∈ u_s_X12_isKindA from fun w h => z_mc (z_mr (z_ml h))
  have krr_p1 := z_rng p1
  have hl := lv_entry ([.ref h0, .int p1]) (n := 2) (Nat.le_of_ble_eq_true rfl)
  rw [lg_entry_eq]
  generalize (lg_sl ([.ref h0, .int p1]) ++ List.replicate (2 - (lg_sl ([.ref h0, .int p1])).length) Slot.unset).toArray = ls at hl ⊢
  have hl : lv_has ls 2 [(0, .ref h0), (1, .int p1)] := hl
  refine lv_iload_n hx hb dX12_isKind_0 rfl (lv_at hl 1 rfl) ?_
  refine lv_if_lt (tgt := 16) hx hb dX12_isKind_1 (by decide) (fun c_1 => ?_) (fun c_1 => ?_)
  · have k_2 : (p1).toInt < (0 : Int) := z_lt c_1
    refine lv_iconst (v := 0) hx hb dX12_isKind_16 (by decide) ?_
    refine W.widen (k := 0) (n := 0) (Nat.le_of_ble_eq_true rfl) (Nat.le_of_ble_eq_true rfl) ?_
    exact W.zret (v := 0) hx hb hr (by rfl) (fun t ht hW => ⟨⟨0, (), rfl, (Or.inr (⟨rfl, by first | omega | decide⟩)), trivial⟩, hS.F ht⟩) hS.2.2 dX12_isKind_17
  · have k_3 : (p1).toInt ≥ (0 : Int) := z_nlt c_1
    refine lv_iload_n hx hb dX12_isKind_4 rfl (lv_at hl 1 rfl) ?_
    refine lv_aload_n hx hb dX12_isKind_5 rfl (lv_at hl 0 rfl) ?_
    refine va_get (D := (dC, dI)) (ci := 12) (v := .int mk) (C := RX12) (T := TX12) (N := 70) hx hb hts hiX12 hown hK hP 0 rfl rfl 23 (by decide) w__fieldLink_RX12_192_ShellHeapModel_kinds_I_ (fun _ h9 => h9) rfl dX12_isKind_6 ?_
    refine lv_icmp_ge (tgt := 16) hx hb dX12_isKind_9 (by decide) (fun c_4 => ?_) (fun c_4 => ?_)
    · have k_5 : (mk).toInt ≤ (p1).toInt := z_le c_4
      refine lv_iconst (v := 0) hx hb dX12_isKind_16 (by decide) ?_
      refine W.widen (k := 0) (n := 0) (Nat.le_of_ble_eq_true rfl) (Nat.le_of_ble_eq_true rfl) ?_
      exact W.zret (v := 0) hx hb hr (by rfl) (fun t ht hW => ⟨⟨0, (), rfl, (Or.inr (⟨rfl, by first | omega | decide⟩)), trivial⟩, hS.F ht⟩) hS.2.2 dX12_isKind_17
    · have k_6 : (mk).toInt > (p1).toInt := z_nle c_4
      refine lv_iconst (v := 1) hx hb dX12_isKind_12 (by decide) ?_
      refine lv_goto (tgt := 17) hx hb dX12_isKind_13 (by decide) ?_
      refine W.widen (k := 0) (n := 0) (Nat.le_of_ble_eq_true rfl) (Nat.le_of_ble_eq_true rfl) ?_
      exact W.zret (v := 1) hx hb hr (by rfl) (fun t ht hW => ⟨⟨1, (), rfl, (Or.inl (⟨rfl, by first | omega | decide⟩)), trivial⟩, hS.F ht⟩) hS.2.2 dX12_isKind_17
def u_s_X11_keptA : List Cond := .code yX11_kept cX11_kept 4 (some .boolean) :: ([.fieldLink RX11 42 "ShellHeap" "pantry" "LShellHeap$Pantry;", .methodLink RX11 203 yX5_hasKind, .instanceMethod yX5_hasKind, .selects RX5 yX5_hasKind yX5_hasKind, .initialized RX5, .fieldLink RX11 206 "ShellHeap$Pantry" "keeps" "[I"] ++ (wsX110 ++ (wsX50 ++ (u_s_X5_hasKindA ++ []))))
theorem gd_s_X11_keptA : z_gd u_s_X11_keptA := z_gdc (by decide +kernel) (z_gda gdX11 (z_gda gdX5 (z_gda gd_s_X5_hasKindA (z_gd0))))
set_option maxRecDepth 20000 in
theorem gw_s_X11_keptA_s_X5_hasKindA_203 : GoodIn u_s_X11_keptA (wsV RX11 203 RX5 yX5_hasKind u_s_X5_hasKindA) := z_gV (z_gr _ [2, 3, 4, 5] rfl (by decide +kernel)) (fun w h => ⟨z_mc (z_mr (z_mr (z_mr (z_ml h)))), gd_s_X5_hasKindA w h⟩)
set_option maxHeartbeats 4000000 in
set_option maxRecDepth 100000 in
theorem s_X11_keptA (l : Launch) (dC : Nat → ClassId) (dI : Nat → Nat → Nat) (sz : Nat) (h0 : Nat) (p1 : Int32) (p2 : Int32) (p3 : Int32) (h0_0 : Value) (h0_1 : Value) (h0_2 : Value) (h0_3 : Value) (hp9 : Nat) (h0_5 : Value) (h0_6 : Value) (h0_7 : Value) (h0_8 : Value) (h0_9 : Value) (hp9_0 : Value) (hp9_1 : Value) (hp9_2 : Value) (hp9_3 : Value) (h1 : Nat) (hp9_5 : Value) (hp9_6 : Value) (hp9_7 : Value) (hp9_8 : Value) (pk : Int32) (ch1 : ClassId) (fh1 : Nat → Int32) (hB_pk : ((0 : Int) ≤ (pk).toInt ∧ (pk).toInt ≤ (6 : Int))) : Met l yX11_kept u_s_X11_keptA ({ frames := 1, cells := 0, slots := 0, locals := 21 }) (va_Pc [.ref h0, .int p1, .int p2, .int p3] (z_C (dC, dI) vwCl [(h0, .inr (11, [h0_0, h0_1, h0_2, h0_3, .ref hp9, h0_5, h0_6, h0_7, h0_8, h0_9])), (hp9, .inr (5, [hp9_0, hp9_1, hp9_2, hp9_3, .ref h1, hp9_5, hp9_6, hp9_7, hp9_8, .int pk])), (h1, .inl (ch1, 24, .inl fh1))] [(ch1, .int)] sz)) (va_Qi (fun (r : Int32) (_ : Unit) => r = v_keA pk p1 p2 p3) (fun (_ : Unit) (t : State) => ∃ (g_h1 : Nat → Int32), va_P (dC, dI) vwCl [(h0, .inr (11, [h0_0, h0_1, h0_2, h0_3, .ref hp9, h0_5, h0_6, h0_7, h0_8, h0_9])), (hp9, .inr (5, [hp9_0, hp9_1, hp9_2, hp9_3, .ref h1, hp9_5, hp9_6, hp9_7, hp9_8, .int pk])), (h1, .inl (ch1, 24, .inl g_h1))] t.heap ∧ va_K (dC, dI) vwCl [] t ∧ va_D (va_A [(h0, .inr (11, [h0_0, h0_1, h0_2, h0_3, .ref hp9, h0_5, h0_6, h0_7, h0_8, h0_9])), (hp9, .inr (5, [hp9_0, hp9_1, hp9_2, hp9_3, .ref h1, hp9_5, hp9_6, hp9_7, hp9_8, .int pk])), (h1, .inl (ch1, 24, .inl fh1))] sz) [(h0, .inr (11, [h0_0, h0_1, h0_2, h0_3, .ref hp9, h0_5, h0_6, h0_7, h0_8, h0_9])), (hp9, .inr (5, [hp9_0, hp9_1, hp9_2, hp9_3, .ref h1, hp9_5, hp9_6, hp9_7, hp9_8, .int pk])), (h1, .inl (ch1, 24, .inl g_h1))]) (va_A [(h0, .inr (11, [h0_0, h0_1, h0_2, h0_3, .ref hp9, h0_5, h0_6, h0_7, h0_8, h0_9])), (hp9, .inr (5, [hp9_0, hp9_1, hp9_2, hp9_3, .ref h1, hp9_5, hp9_6, hp9_7, hp9_8, .int pk])), (h1, .inl (ch1, 24, .inl fh1))] sz)) 0 0 (va_A [(h0, .inr (11, [h0_0, h0_1, h0_2, h0_3, .ref hp9, h0_5, h0_6, h0_7, h0_8, h0_9])), (hp9, .inr (5, [hp9_0, hp9_1, hp9_2, hp9_3, .ref h1, hp9_5, hp9_6, hp9_7, hp9_8, .int pk])), (h1, .inl (ch1, 24, .inl fh1))] sz) := by
  refine Met.ofW (cc := cX11_kept) (maxL := 4) (ret := (some .boolean)) (by decide) rfl ?_
  intro p e s m args below meth c s₁ B hml hv
  obtain ⟨rfl, hsz, hP, hK, hD0⟩ := hv
  have hx := B.exec
  have hb := B.bytes
  have hr := B.returns
  have hts := atoms_spec (ws := u_s_X11_keptA) B.pre
  have hown : s.vm.findClass RX11 = some m.cls := findClass_of_methodNamed B.named
  have hlocks := B.notSynchronized
  subst hsz
  have hD := hD0.self (sz := s.heap.size)
  generalize hAe : va_A [(h0, .inr (11, [h0_0, h0_1, h0_2, h0_3, .ref hp9, h0_5, h0_6, h0_7, h0_8, h0_9])), (hp9, .inr (5, [hp9_0, hp9_1, hp9_2, hp9_3, .ref h1, hp9_5, hp9_6, hp9_7, hp9_8, .int pk])), (h1, .inl (ch1, 24, .inl fh1))] s.heap.size = A at hD ⊢
  have hA : ∀ q : Nat, s.heap.size ≤ q → A q := fun q h => by rw [← hAe]; exact Or.inr h
  have hS : va_S A s.heap s.heap [] := va_S.rf
  have hP : va_P (dC, dI) vwCl [(h0, .inr (11, [h0_0, h0_1, h0_2, h0_3, .ref hp9, h0_5, h0_6, h0_7, h0_8, h0_9])), (hp9, .inr (5, [hp9_0, hp9_1, hp9_2, hp9_3, .ref h1, hp9_5, hp9_6, hp9_7, hp9_8, .int pk])), (h1, .inl (ch1, 24, .inl fh1))] s.heap := hP
  have w__fieldLink_RX11_42_ShellHeap_pantry_LShellHeap_Pantry_ := hts (.fieldLink RX11 42 "ShellHeap" "pantry" "LShellHeap$Pantry;") (by decide +kernel)
  have hiX11 := show ∀ w ∈ u_ws RX11 TX11 10, w ∈ u_s_X11_keptA from fun w h => z_mc (z_mr (z_ml h))
  have w__fieldLink_RX11_206_ShellHeap_Pantry_keeps_I_ := hts (.fieldLink RX11 206 "ShellHeap$Pantry" "keeps" "[I") (by decide +kernel)
  have hiX5 := show ∀ w ∈ u_ws RX5 TX5 10, w ∈ u_s_X11_keptA from fun w h => z_mc (z_mr (z_mr (z_ml h)))
  have krr_p1 := z_rng p1
  have krr_p2 := z_rng p2
  have krr_p3 := z_rng p3
  have hl := lv_entry ([.ref h0, .int p1, .int p2, .int p3]) (n := 4) (Nat.le_of_ble_eq_true rfl)
  rw [lg_entry_eq]
  generalize (lg_sl ([.ref h0, .int p1, .int p2, .int p3]) ++ List.replicate (4 - (lg_sl ([.ref h0, .int p1, .int p2, .int p3])).length) Slot.unset).toArray = ls at hl ⊢
  have hl : lv_has ls 4 [(0, .ref h0), (1, .int p1), (2, .int p2), (3, .int p3)] := hl
  refine lv_aload_n hx hb dX11_kept_0 rfl (lv_at hl 0 rfl) ?_
  refine va_get (D := (dC, dI)) (ci := 11) (v := .ref hp9) (C := RX11) (T := TX11) (N := 10) hx hb hts hiX11 hown hK hP 0 rfl rfl 4 (by decide) w__fieldLink_RX11_42_ShellHeap_pantry_LShellHeap_Pantry_ (fun _ h9 => h9) rfl dX11_kept_1 ?_
  refine lv_iload_n hx hb dX11_kept_4 rfl (lv_at hl 1 rfl) ?_
  have hPc := hP.sub (ws' := [(hp9, .inr (5, [hp9_0, hp9_1, hp9_2, hp9_3, .ref h1, hp9_5, hp9_6, hp9_7, hp9_8, .int pk]))]) [1] rfl
  have hDc := hD.sub (ws' := [(hp9, .inr (5, [hp9_0, hp9_1, hp9_2, hp9_3, .ref h1, hp9_5, hp9_6, hp9_7, hp9_8, .int pk]))]) [1] (by decide) rfl
  have hKc := hK.sub (tys' := []) [] rfl
  have hFc := va_free (ws := []) (wc := []) (z_D0 _) hS hA [] rfl
  refine va_calli (va_runV (As := [.int p1]) (rest := []) ⟨hx, hb, hml, hown, hts⟩ (s_X5_hasKindA l dC dI s.heap.size hp9 p1 hp9_0 hp9_1 hp9_2 hp9_3 (.ref h1) hp9_5 hp9_6 hp9_7 hp9_8 pk (by first | omega | decide)) (cwV 1 hts gw_s_X11_keptA_s_X5_hasKindA_203 rfl rfl rfl (by decide +kernel) ⟨Nat.le_of_ble_eq_true rfl, Nat.le_of_ble_eq_true rfl⟩) ⟨z_blind, va_recv hKc hPc (ci := 5) (q0 := 0) rfl rfl, z_pre hPc hKc hDc⟩ rfl rfl hl.1 rfl (lv_room (Nat.le_of_ble_eq_true rfl)) dX11_kept_5 ⟨Nat.le_of_ble_eq_true rfl, Nat.le_of_ble_eq_true rfl⟩) hS (fun q _ h => hFc q h) hFc (fun r_2 u t H_1 locs ht hvm hw_3 hB hz1 hk1 hS => ?_)
  have hP := z_pure hP hk1
  have hP : va_P (dC, dI) vwCl [(h0, .inr (11, [h0_0, h0_1, h0_2, h0_3, .ref hp9, h0_5, h0_6, h0_7, h0_8, h0_9])), (hp9, .inr (5, [hp9_0, hp9_1, hp9_2, hp9_3, .ref h1, hp9_5, hp9_6, hp9_7, hp9_8, .int pk])), (h1, .inl (ch1, 24, .inl fh1))] H_1 := hP
  have hD : va_D A [(h0, .inr (11, [h0_0, h0_1, h0_2, h0_3, .ref hp9, h0_5, h0_6, h0_7, h0_8, h0_9])), (hp9, .inr (5, [hp9_0, hp9_1, hp9_2, hp9_3, .ref h1, hp9_5, hp9_6, hp9_7, hp9_8, .int pk])), (h1, .inl (ch1, 24, .inl fh1))] := hD
  clear hPc hDc hKc
  rcases hw_3 with ⟨rfl, hw_3⟩ | ⟨rfl, hw_3⟩
  · have hw_3 : (0 ≤ p1.toInt ∧ p1.toInt < pk.toInt) := hw_3
    refine lv_if_eq (tgt := 31) hx hb dX11_kept_8 (by decide) (fun c_4 => absurd c_4 (by decide)) (fun _ => ?_)
    refine lv_iload_n hx hb dX11_kept_11 rfl (lv_at hl 2 rfl) ?_
    refine lv_if_lt (tgt := 31) hx hb dX11_kept_12 (by decide) (fun c_5 => ?_) (fun c_5 => ?_)
    · have k_6 : (p2).toInt < (0 : Int) := z_lt c_5
      refine lv_iconst (v := 0) hx hb dX11_kept_31 (by decide) ?_
      have hP9 := hP.sub (ws' := [(h0, .inr (11, [h0_0, h0_1, h0_2, h0_3, .ref hp9, h0_5, h0_6, h0_7, h0_8, h0_9])), (hp9, .inr (5, [hp9_0, hp9_1, hp9_2, hp9_3, .ref h1, hp9_5, hp9_6, hp9_7, hp9_8, .int pk])), (h1, .inl (ch1, 24, .inl fh1))]) [0, 1, 2] rfl
      have hD9 := hD.sub (ws' := [(h0, .inr (11, [h0_0, h0_1, h0_2, h0_3, .ref hp9, h0_5, h0_6, h0_7, h0_8, h0_9])), (hp9, .inr (5, [hp9_0, hp9_1, hp9_2, hp9_3, .ref h1, hp9_5, hp9_6, hp9_7, hp9_8, .int pk])), (h1, .inl (ch1, 24, .inl fh1))]) [0, 1, 2] (by decide) rfl
      have hK9 := hK.sub (tys' := []) [] rfl
      refine W.widen (k := 0) (n := 0) (Nat.le_of_ble_eq_true rfl) (Nat.le_of_ble_eq_true rfl) ?_
      exact W.zret (v := 0) hx hb hr (by rfl) (fun t ht hW => ⟨⟨0, (), rfl, (show 0 = v_keA pk p1 p2 p3 by unfold v_keA; rw [if_neg (by omega)]), ⟨fh1, by rw [ht]; exact hP9, va_K.moved hW.alike hK9, hD9⟩⟩, hS.F ht⟩) hS.2.2 dX11_kept_32
    · have k_7 : (p2).toInt ≥ (0 : Int) := z_nlt c_5
      refine lv_iload_n hx hb dX11_kept_15 rfl (lv_at hl 2 rfl) ?_
      refine lv_iconst (v := 4) hx hb dX11_kept_16 (by decide) ?_
      refine lv_icmp_ge (tgt := 31) hx hb dX11_kept_17 (by decide) (fun c_8 => ?_) (fun c_8 => ?_)
      · have k_9 : (4 : Int) ≤ (p2).toInt := z_le c_8
        refine lv_iconst (v := 0) hx hb dX11_kept_31 (by decide) ?_
        have hP9 := hP.sub (ws' := [(h0, .inr (11, [h0_0, h0_1, h0_2, h0_3, .ref hp9, h0_5, h0_6, h0_7, h0_8, h0_9])), (hp9, .inr (5, [hp9_0, hp9_1, hp9_2, hp9_3, .ref h1, hp9_5, hp9_6, hp9_7, hp9_8, .int pk])), (h1, .inl (ch1, 24, .inl fh1))]) [0, 1, 2] rfl
        have hD9 := hD.sub (ws' := [(h0, .inr (11, [h0_0, h0_1, h0_2, h0_3, .ref hp9, h0_5, h0_6, h0_7, h0_8, h0_9])), (hp9, .inr (5, [hp9_0, hp9_1, hp9_2, hp9_3, .ref h1, hp9_5, hp9_6, hp9_7, hp9_8, .int pk])), (h1, .inl (ch1, 24, .inl fh1))]) [0, 1, 2] (by decide) rfl
        have hK9 := hK.sub (tys' := []) [] rfl
        refine W.widen (k := 0) (n := 0) (Nat.le_of_ble_eq_true rfl) (Nat.le_of_ble_eq_true rfl) ?_
        exact W.zret (v := 0) hx hb hr (by rfl) (fun t ht hW => ⟨⟨0, (), rfl, (show 0 = v_keA pk p1 p2 p3 by unfold v_keA; rw [if_neg (by omega)]), ⟨fh1, by rw [ht]; exact hP9, va_K.moved hW.alike hK9, hD9⟩⟩, hS.F ht⟩) hS.2.2 dX11_kept_32
      · have k_10 : (4 : Int) > (p2).toInt := z_nle c_8
        refine lv_iload_n hx hb dX11_kept_20 rfl (lv_at hl 3 rfl) ?_
        refine lv_iconst (v := 1) hx hb dX11_kept_21 (by decide) ?_
        refine lv_icmp_lt (tgt := 31) hx hb dX11_kept_22 (by decide) (fun c_11 => ?_) (fun c_11 => ?_)
        · have k_12 : (p3).toInt < (1 : Int) := z_lt c_11
          refine lv_iconst (v := 0) hx hb dX11_kept_31 (by decide) ?_
          have hP9 := hP.sub (ws' := [(h0, .inr (11, [h0_0, h0_1, h0_2, h0_3, .ref hp9, h0_5, h0_6, h0_7, h0_8, h0_9])), (hp9, .inr (5, [hp9_0, hp9_1, hp9_2, hp9_3, .ref h1, hp9_5, hp9_6, hp9_7, hp9_8, .int pk])), (h1, .inl (ch1, 24, .inl fh1))]) [0, 1, 2] rfl
          have hD9 := hD.sub (ws' := [(h0, .inr (11, [h0_0, h0_1, h0_2, h0_3, .ref hp9, h0_5, h0_6, h0_7, h0_8, h0_9])), (hp9, .inr (5, [hp9_0, hp9_1, hp9_2, hp9_3, .ref h1, hp9_5, hp9_6, hp9_7, hp9_8, .int pk])), (h1, .inl (ch1, 24, .inl fh1))]) [0, 1, 2] (by decide) rfl
          have hK9 := hK.sub (tys' := []) [] rfl
          refine W.widen (k := 0) (n := 0) (Nat.le_of_ble_eq_true rfl) (Nat.le_of_ble_eq_true rfl) ?_
          exact W.zret (v := 0) hx hb hr (by rfl) (fun t ht hW => ⟨⟨0, (), rfl, (show 0 = v_keA pk p1 p2 p3 by unfold v_keA; rw [if_neg (by omega)]), ⟨fh1, by rw [ht]; exact hP9, va_K.moved hW.alike hK9, hD9⟩⟩, hS.F ht⟩) hS.2.2 dX11_kept_32
        · have k_13 : (p3).toInt ≥ (1 : Int) := z_nlt c_11
          refine lv_iload_n hx hb dX11_kept_25 rfl (lv_at hl 3 rfl) ?_
          refine lv_bipush (v := 16) hx hb dX11_kept_26 (by decide) ?_
          refine lv_icmp_le (tgt := 33) hx hb dX11_kept_28 (by decide) (fun c_14 => ?_) (fun c_14 => ?_)
          · have k_15 : (p3).toInt ≤ (16 : Int) := z_le c_14
            refine lv_aload_n hx hb dX11_kept_33 rfl (lv_at hl 0 rfl) ?_
            refine va_get (D := (dC, dI)) (ci := 11) (v := .ref hp9) (C := RX11) (T := TX11) (N := 10) hx hb hts hiX11 hown hK hP 0 rfl rfl 4 (by decide) w__fieldLink_RX11_42_ShellHeap_pantry_LShellHeap_Pantry_ (fun _ h9 => h9) rfl dX11_kept_34 ?_
            refine va_get (D := (dC, dI)) (ci := 5) (v := .ref h1) (C := RX5) (T := TX5) (N := 10) hx hb hts hiX5 hown hK hP 1 rfl rfl 4 (by decide) w__fieldLink_RX11_206_ShellHeap_Pantry_keeps_I_ (fun _ h9 => h9) rfl dX11_kept_37 ?_
            refine lv_iload_n hx hb dX11_kept_40 rfl (lv_at hl 1 rfl) ?_
            refine lv_iconst (v := 4) hx hb dX11_kept_41 (by decide) ?_
            refine lv_imul hx hb dX11_kept_42 ?_
            refine lv_topi (fun z_16 ez_16 => ?_)
            have kz_16 : (z_16).toInt = (p1).toInt * (4 : Int) := by rw [ez_16]; exact z_mul (a := (p1).toInt) (b := (4 : Int)) rfl rfl (by omega) (by omega)
            refine lv_iload_n hx hb dX11_kept_43 rfl (lv_at hl 2 rfl) ?_
            refine lv_iadd hx hb dX11_kept_44 ?_
            refine lv_topi (fun z_17 ez_17 => ?_)
            have kz_17 : (z_17).toInt = (z_16).toInt + (p2).toInt := by rw [ez_17]; exact z_add (a := (z_16).toInt) (b := (p2).toInt) rfl rfl (by omega) (by omega)
            refine lv_iload_n hx hb dX11_kept_45 rfl (lv_at hl 3 rfl) ?_
            refine va_iast hx hb hK hP hD hS 2 0 rfl rfl (z_vpin (by omega) (by omega)) dX11_kept_46 (fun H_18 locs hP hD hS => ?_)
            have hP : va_P (dC, dI) vwCl [(h0, .inr (11, [h0_0, h0_1, h0_2, h0_3, .ref hp9, h0_5, h0_6, h0_7, h0_8, h0_9])), (hp9, .inr (5, [hp9_0, hp9_1, hp9_2, hp9_3, .ref h1, hp9_5, hp9_6, hp9_7, hp9_8, .int pk])), (h1, .inl (ch1, 24, .inl (upd fh1 (z_17 : Int32).toNatClampNeg p3)))] H_18 := hP
            have hD : va_D A [(h0, .inr (11, [h0_0, h0_1, h0_2, h0_3, .ref hp9, h0_5, h0_6, h0_7, h0_8, h0_9])), (hp9, .inr (5, [hp9_0, hp9_1, hp9_2, hp9_3, .ref h1, hp9_5, hp9_6, hp9_7, hp9_8, .int pk])), (h1, .inl (ch1, 24, .inl (upd fh1 (z_17 : Int32).toNatClampNeg p3)))] := hD
            generalize (upd fh1 (z_17 : Int32).toNatClampNeg p3) = f_19 at hP hD
            refine lv_iconst (v := 1) hx hb dX11_kept_47 (by decide) ?_
            have hP9 := hP.sub (ws' := [(h0, .inr (11, [h0_0, h0_1, h0_2, h0_3, .ref hp9, h0_5, h0_6, h0_7, h0_8, h0_9])), (hp9, .inr (5, [hp9_0, hp9_1, hp9_2, hp9_3, .ref h1, hp9_5, hp9_6, hp9_7, hp9_8, .int pk])), (h1, .inl (ch1, 24, .inl f_19))]) [0, 1, 2] rfl
            have hD9 := hD.sub (ws' := [(h0, .inr (11, [h0_0, h0_1, h0_2, h0_3, .ref hp9, h0_5, h0_6, h0_7, h0_8, h0_9])), (hp9, .inr (5, [hp9_0, hp9_1, hp9_2, hp9_3, .ref h1, hp9_5, hp9_6, hp9_7, hp9_8, .int pk])), (h1, .inl (ch1, 24, .inl f_19))]) [0, 1, 2] (by decide) rfl
            have hK9 := hK.sub (tys' := []) [] rfl
            refine W.widen (k := 0) (n := 0) (Nat.le_of_ble_eq_true rfl) (Nat.le_of_ble_eq_true rfl) ?_
            exact W.zret (v := 1) hx hb hr (by rfl) (fun t ht hW => ⟨⟨1, (), rfl, (show 1 = v_keA pk p1 p2 p3 by unfold v_keA; rw [if_pos (by omega)]), ⟨f_19, by rw [ht]; exact hP9, va_K.moved hW.alike hK9, hD9⟩⟩, hS.F ht⟩) hS.2.2 dX11_kept_48
          · have k_20 : (p3).toInt > (16 : Int) := z_nle c_14
            refine lv_iconst (v := 0) hx hb dX11_kept_31 (by decide) ?_
            have hP9 := hP.sub (ws' := [(h0, .inr (11, [h0_0, h0_1, h0_2, h0_3, .ref hp9, h0_5, h0_6, h0_7, h0_8, h0_9])), (hp9, .inr (5, [hp9_0, hp9_1, hp9_2, hp9_3, .ref h1, hp9_5, hp9_6, hp9_7, hp9_8, .int pk])), (h1, .inl (ch1, 24, .inl fh1))]) [0, 1, 2] rfl
            have hD9 := hD.sub (ws' := [(h0, .inr (11, [h0_0, h0_1, h0_2, h0_3, .ref hp9, h0_5, h0_6, h0_7, h0_8, h0_9])), (hp9, .inr (5, [hp9_0, hp9_1, hp9_2, hp9_3, .ref h1, hp9_5, hp9_6, hp9_7, hp9_8, .int pk])), (h1, .inl (ch1, 24, .inl fh1))]) [0, 1, 2] (by decide) rfl
            have hK9 := hK.sub (tys' := []) [] rfl
            refine W.widen (k := 0) (n := 0) (Nat.le_of_ble_eq_true rfl) (Nat.le_of_ble_eq_true rfl) ?_
            exact W.zret (v := 0) hx hb hr (by rfl) (fun t ht hW => ⟨⟨0, (), rfl, (show 0 = v_keA pk p1 p2 p3 by unfold v_keA; rw [if_neg (by omega)]), ⟨fh1, by rw [ht]; exact hP9, va_K.moved hW.alike hK9, hD9⟩⟩, hS.F ht⟩) hS.2.2 dX11_kept_32
  · have hw_3 : ¬ (0 ≤ p1.toInt ∧ p1.toInt < pk.toInt) := hw_3
    refine lv_if_eq (tgt := 31) hx hb dX11_kept_8 (by decide) (fun _ => ?_) (fun c_21 => absurd (by decide) c_21)
    refine lv_iconst (v := 0) hx hb dX11_kept_31 (by decide) ?_
    have hP9 := hP.sub (ws' := [(h0, .inr (11, [h0_0, h0_1, h0_2, h0_3, .ref hp9, h0_5, h0_6, h0_7, h0_8, h0_9])), (hp9, .inr (5, [hp9_0, hp9_1, hp9_2, hp9_3, .ref h1, hp9_5, hp9_6, hp9_7, hp9_8, .int pk])), (h1, .inl (ch1, 24, .inl fh1))]) [0, 1, 2] rfl
    have hD9 := hD.sub (ws' := [(h0, .inr (11, [h0_0, h0_1, h0_2, h0_3, .ref hp9, h0_5, h0_6, h0_7, h0_8, h0_9])), (hp9, .inr (5, [hp9_0, hp9_1, hp9_2, hp9_3, .ref h1, hp9_5, hp9_6, hp9_7, hp9_8, .int pk])), (h1, .inl (ch1, 24, .inl fh1))]) [0, 1, 2] (by decide) rfl
    have hK9 := hK.sub (tys' := []) [] rfl
    refine W.widen (k := 0) (n := 0) (Nat.le_of_ble_eq_true rfl) (Nat.le_of_ble_eq_true rfl) ?_
    exact W.zret (v := 0) hx hb hr (by rfl) (fun t ht hW => ⟨⟨0, (), rfl, (show 0 = v_keA pk p1 p2 p3 by unfold v_keA; rw [if_neg (by omega)]), ⟨fh1, by rw [ht]; exact hP9, va_K.moved hW.alike hK9, hD9⟩⟩, hS.F ht⟩) hS.2.2 dX11_kept_32
def u_s_X12_keptA : List Cond := .code yX12_kept cX12_kept 4 (some .boolean) :: ([.fieldLink RX12 145 "ShellHeapModel" "thrown" "I", .methodLink RX12 195 yX12_isKind, .instanceMethod yX12_isKind, .selects RX12 yX12_isKind yX12_isKind, .initialized RX12, .fieldLink RX12 69 "ShellHeapModel" "keptOf" "[I"] ++ (wsX120 ++ (u_s_X12_isKindA ++ [])))
theorem gd_s_X12_keptA : z_gd u_s_X12_keptA := z_gdc (by decide +kernel) (z_gda gdX12 (z_gda gd_s_X12_isKindA (z_gd0)))
set_option maxRecDepth 20000 in
theorem gw_s_X12_keptA_s_X12_isKindA_195 : GoodIn u_s_X12_keptA (wsV RX12 195 RX12 yX12_isKind u_s_X12_isKindA) := z_gV (z_gr _ [2, 3, 4, 5] rfl (by decide +kernel)) (fun w h => ⟨z_mc (z_mr (z_mr (z_ml h))), gd_s_X12_isKindA w h⟩)
set_option maxHeartbeats 4000000 in
set_option maxRecDepth 100000 in
theorem s_X12_keptA (l : Launch) (dC : Nat → ClassId) (dI : Nat → Nat → Nat) (sz : Nat) (h0 : Nat) (p1 : Int32) (p2 : Int32) (p3 : Int32) (h0_0 : Value) (h0_1 : Value) (mx : Int32) (h0_3 : Value) (h0_4 : Value) (h0_5 : Value) (h0_6 : Value) (h0_7 : Value) (h0_8 : Value) (h0_9 : Value) (h0_10 : Value) (h0_11 : Value) (h0_12 : Value) (h0_13 : Value) (h0_14 : Value) (h0_15 : Value) (h0_16 : Value) (h0_17 : Value) (h0_18 : Value) (h0_19 : Value) (h0_20 : Value) (h0_21 : Value) (h0_22 : Value) (mk : Int32) (h0_24 : Value) (h0_25 : Value) (hkp : Nat) (h0_27 : Value) (h0_28 : Value) (h0_29 : Value) (h0_30 : Value) (h0_31 : Value) (h0_32 : Value) (h0_33 : Value) (h0_34 : Value) (h0_35 : Value) (h0_36 : Value) (h0_37 : Value) (h0_38 : Value) (h0_39 : Value) (h0_40 : Value) (h0_41 : Value) (h0_42 : Value) (h0_43 : Value) (h0_44 : Value) (h0_45 : Value) (h0_46 : Value) (h0_47 : Value) (h0_48 : Value) (h0_49 : Value) (h0_50 : Value) (h0_51 : Value) (h0_52 : Value) (h0_53 : Value) (h0_54 : Value) (h0_55 : Value) (h0_56 : Value) (h0_57 : Value) (h0_58 : Value) (h0_59 : Value) (h0_60 : Value) (h0_61 : Value) (h0_62 : Value) (h0_63 : Value) (h0_64 : Value) (h0_65 : Value) (h0_66 : Value) (h0_67 : Value) (h0_68 : Value) (h0_69 : Value) (chkp : ClassId) (fhkp : Nat → Int32) (hB_mk : ((0 : Int) ≤ (mk).toInt ∧ (mk).toInt ≤ (6 : Int))) (hI_hkp : ∀ j : Nat, ((1 : Int) ≤ (fhkp j).toInt ∧ (fhkp j).toInt ≤ (16 : Int))) : Met l yX12_kept u_s_X12_keptA ({ frames := 1, cells := 0, slots := 0, locals := 21 }) (va_Pc [.ref h0, .int p1, .int p2, .int p3] (z_C (dC, dI) vwCl [(h0, .inr (12, [h0_0, h0_1, .int mx, h0_3, h0_4, h0_5, h0_6, h0_7, h0_8, h0_9, h0_10, h0_11, h0_12, h0_13, h0_14, h0_15, h0_16, h0_17, h0_18, h0_19, h0_20, h0_21, h0_22, .int mk, h0_24, h0_25, .ref hkp, h0_27, h0_28, h0_29, h0_30, h0_31, h0_32, h0_33, h0_34, h0_35, h0_36, h0_37, h0_38, h0_39, h0_40, h0_41, h0_42, h0_43, h0_44, h0_45, h0_46, h0_47, h0_48, h0_49, h0_50, h0_51, h0_52, h0_53, h0_54, h0_55, h0_56, h0_57, h0_58, h0_59, h0_60, h0_61, h0_62, h0_63, h0_64, h0_65, h0_66, h0_67, h0_68, h0_69])), (hkp, .inl (chkp, 24, .inl fhkp))] [(chkp, .int)] sz)) (va_Qi (fun (r : Int32) (_ : Unit) => r = v_keA mk p1 p2 p3) (fun (_ : Unit) (t : State) => ∃ (n_h0_thrown : Int32), ∃ (g_hkp : Nat → Int32), (∀ j : Nat, ((1 : Int) ≤ (g_hkp j).toInt ∧ (g_hkp j).toInt ≤ (16 : Int))) ∧ va_P (dC, dI) vwCl [(h0, .inr (12, [h0_0, h0_1, .int n_h0_thrown, h0_3, h0_4, h0_5, h0_6, h0_7, h0_8, h0_9, h0_10, h0_11, h0_12, h0_13, h0_14, h0_15, h0_16, h0_17, h0_18, h0_19, h0_20, h0_21, h0_22, .int mk, h0_24, h0_25, .ref hkp, h0_27, h0_28, h0_29, h0_30, h0_31, h0_32, h0_33, h0_34, h0_35, h0_36, h0_37, h0_38, h0_39, h0_40, h0_41, h0_42, h0_43, h0_44, h0_45, h0_46, h0_47, h0_48, h0_49, h0_50, h0_51, h0_52, h0_53, h0_54, h0_55, h0_56, h0_57, h0_58, h0_59, h0_60, h0_61, h0_62, h0_63, h0_64, h0_65, h0_66, h0_67, h0_68, h0_69])), (hkp, .inl (chkp, 24, .inl g_hkp))] t.heap ∧ va_K (dC, dI) vwCl [] t ∧ va_D (va_A [(h0, .inr (12, [h0_0, h0_1, .int mx, h0_3, h0_4, h0_5, h0_6, h0_7, h0_8, h0_9, h0_10, h0_11, h0_12, h0_13, h0_14, h0_15, h0_16, h0_17, h0_18, h0_19, h0_20, h0_21, h0_22, .int mk, h0_24, h0_25, .ref hkp, h0_27, h0_28, h0_29, h0_30, h0_31, h0_32, h0_33, h0_34, h0_35, h0_36, h0_37, h0_38, h0_39, h0_40, h0_41, h0_42, h0_43, h0_44, h0_45, h0_46, h0_47, h0_48, h0_49, h0_50, h0_51, h0_52, h0_53, h0_54, h0_55, h0_56, h0_57, h0_58, h0_59, h0_60, h0_61, h0_62, h0_63, h0_64, h0_65, h0_66, h0_67, h0_68, h0_69])), (hkp, .inl (chkp, 24, .inl fhkp))] sz) [(h0, .inr (12, [h0_0, h0_1, .int n_h0_thrown, h0_3, h0_4, h0_5, h0_6, h0_7, h0_8, h0_9, h0_10, h0_11, h0_12, h0_13, h0_14, h0_15, h0_16, h0_17, h0_18, h0_19, h0_20, h0_21, h0_22, .int mk, h0_24, h0_25, .ref hkp, h0_27, h0_28, h0_29, h0_30, h0_31, h0_32, h0_33, h0_34, h0_35, h0_36, h0_37, h0_38, h0_39, h0_40, h0_41, h0_42, h0_43, h0_44, h0_45, h0_46, h0_47, h0_48, h0_49, h0_50, h0_51, h0_52, h0_53, h0_54, h0_55, h0_56, h0_57, h0_58, h0_59, h0_60, h0_61, h0_62, h0_63, h0_64, h0_65, h0_66, h0_67, h0_68, h0_69])), (hkp, .inl (chkp, 24, .inl g_hkp))]) (va_A [(h0, .inr (12, [h0_0, h0_1, .int mx, h0_3, h0_4, h0_5, h0_6, h0_7, h0_8, h0_9, h0_10, h0_11, h0_12, h0_13, h0_14, h0_15, h0_16, h0_17, h0_18, h0_19, h0_20, h0_21, h0_22, .int mk, h0_24, h0_25, .ref hkp, h0_27, h0_28, h0_29, h0_30, h0_31, h0_32, h0_33, h0_34, h0_35, h0_36, h0_37, h0_38, h0_39, h0_40, h0_41, h0_42, h0_43, h0_44, h0_45, h0_46, h0_47, h0_48, h0_49, h0_50, h0_51, h0_52, h0_53, h0_54, h0_55, h0_56, h0_57, h0_58, h0_59, h0_60, h0_61, h0_62, h0_63, h0_64, h0_65, h0_66, h0_67, h0_68, h0_69])), (hkp, .inl (chkp, 24, .inl fhkp))] sz)) 0 0 (va_A [(h0, .inr (12, [h0_0, h0_1, .int mx, h0_3, h0_4, h0_5, h0_6, h0_7, h0_8, h0_9, h0_10, h0_11, h0_12, h0_13, h0_14, h0_15, h0_16, h0_17, h0_18, h0_19, h0_20, h0_21, h0_22, .int mk, h0_24, h0_25, .ref hkp, h0_27, h0_28, h0_29, h0_30, h0_31, h0_32, h0_33, h0_34, h0_35, h0_36, h0_37, h0_38, h0_39, h0_40, h0_41, h0_42, h0_43, h0_44, h0_45, h0_46, h0_47, h0_48, h0_49, h0_50, h0_51, h0_52, h0_53, h0_54, h0_55, h0_56, h0_57, h0_58, h0_59, h0_60, h0_61, h0_62, h0_63, h0_64, h0_65, h0_66, h0_67, h0_68, h0_69])), (hkp, .inl (chkp, 24, .inl fhkp))] sz) := by
  refine Met.ofW (cc := cX12_kept) (maxL := 4) (ret := (some .boolean)) (by decide) rfl ?_
  intro p e s m args below meth c s₁ B hml hv
  obtain ⟨rfl, hsz, hP, hK, hD0⟩ := hv
  have hx := B.exec
  have hb := B.bytes
  have hr := B.returns
  have hts := atoms_spec (ws := u_s_X12_keptA) B.pre
  have hown : s.vm.findClass RX12 = some m.cls := findClass_of_methodNamed B.named
  have hlocks := B.notSynchronized
  subst hsz
  have hD := hD0.self (sz := s.heap.size)
  generalize hAe : va_A [(h0, .inr (12, [h0_0, h0_1, .int mx, h0_3, h0_4, h0_5, h0_6, h0_7, h0_8, h0_9, h0_10, h0_11, h0_12, h0_13, h0_14, h0_15, h0_16, h0_17, h0_18, h0_19, h0_20, h0_21, h0_22, .int mk, h0_24, h0_25, .ref hkp, h0_27, h0_28, h0_29, h0_30, h0_31, h0_32, h0_33, h0_34, h0_35, h0_36, h0_37, h0_38, h0_39, h0_40, h0_41, h0_42, h0_43, h0_44, h0_45, h0_46, h0_47, h0_48, h0_49, h0_50, h0_51, h0_52, h0_53, h0_54, h0_55, h0_56, h0_57, h0_58, h0_59, h0_60, h0_61, h0_62, h0_63, h0_64, h0_65, h0_66, h0_67, h0_68, h0_69])), (hkp, .inl (chkp, 24, .inl fhkp))] s.heap.size = A at hD ⊢
  have hA : ∀ q : Nat, s.heap.size ≤ q → A q := fun q h => by rw [← hAe]; exact Or.inr h
  have hS : va_S A s.heap s.heap [] := va_S.rf
  have hP : va_P (dC, dI) vwCl [(h0, .inr (12, [h0_0, h0_1, .int mx, h0_3, h0_4, h0_5, h0_6, h0_7, h0_8, h0_9, h0_10, h0_11, h0_12, h0_13, h0_14, h0_15, h0_16, h0_17, h0_18, h0_19, h0_20, h0_21, h0_22, .int mk, h0_24, h0_25, .ref hkp, h0_27, h0_28, h0_29, h0_30, h0_31, h0_32, h0_33, h0_34, h0_35, h0_36, h0_37, h0_38, h0_39, h0_40, h0_41, h0_42, h0_43, h0_44, h0_45, h0_46, h0_47, h0_48, h0_49, h0_50, h0_51, h0_52, h0_53, h0_54, h0_55, h0_56, h0_57, h0_58, h0_59, h0_60, h0_61, h0_62, h0_63, h0_64, h0_65, h0_66, h0_67, h0_68, h0_69])), (hkp, .inl (chkp, 24, .inl fhkp))] s.heap := hP
  have w__fieldLink_RX12_145_ShellHeapModel_thrown_I_ := hts (.fieldLink RX12 145 "ShellHeapModel" "thrown" "I") (by decide +kernel)
  have hiX12 := show ∀ w ∈ u_ws RX12 TX12 70, w ∈ u_s_X12_keptA from fun w h => z_mc (z_mr (z_ml h))
  have w__fieldLink_RX12_69_ShellHeapModel_keptOf_I_ := hts (.fieldLink RX12 69 "ShellHeapModel" "keptOf" "[I") (by decide +kernel)
  have krr_p1 := z_rng p1
  have krr_p2 := z_rng p2
  have krr_p3 := z_rng p3
  have hl := lv_entry ([.ref h0, .int p1, .int p2, .int p3]) (n := 4) (Nat.le_of_ble_eq_true rfl)
  rw [lg_entry_eq]
  generalize (lg_sl ([.ref h0, .int p1, .int p2, .int p3]) ++ List.replicate (4 - (lg_sl ([.ref h0, .int p1, .int p2, .int p3])).length) Slot.unset).toArray = ls at hl ⊢
  have hl : lv_has ls 4 [(0, .ref h0), (1, .int p1), (2, .int p2), (3, .int p3)] := hl
  refine lv_aload_n hx hb dX12_kept_0 rfl (lv_at hl 0 rfl) ?_
  refine lv_iconst (v := 0) hx hb dX12_kept_1 (by decide) ?_
  refine va_put (D := (dC, dI)) (ci := 12) (v := .int 0) (ty := .int) (C := RX12) (T := TX12) (N := 70) hx hb hts hiX12 tyX12 tyX12_ok nmX12 hown hK hP hD hS 0 rfl rfl 2 (by decide) w__fieldLink_RX12_145_ShellHeapModel_thrown_I_ (fun _ h9 => h9) rfl (by decide +kernel) rfl rfl (Nat.le_of_ble_eq_true rfl) dX12_kept_2 (fun H_1 locs hP hD hS => ?_)
  have hP : va_P (dC, dI) vwCl [(h0, .inr (12, [h0_0, h0_1, .int 0, h0_3, h0_4, h0_5, h0_6, h0_7, h0_8, h0_9, h0_10, h0_11, h0_12, h0_13, h0_14, h0_15, h0_16, h0_17, h0_18, h0_19, h0_20, h0_21, h0_22, .int mk, h0_24, h0_25, .ref hkp, h0_27, h0_28, h0_29, h0_30, h0_31, h0_32, h0_33, h0_34, h0_35, h0_36, h0_37, h0_38, h0_39, h0_40, h0_41, h0_42, h0_43, h0_44, h0_45, h0_46, h0_47, h0_48, h0_49, h0_50, h0_51, h0_52, h0_53, h0_54, h0_55, h0_56, h0_57, h0_58, h0_59, h0_60, h0_61, h0_62, h0_63, h0_64, h0_65, h0_66, h0_67, h0_68, h0_69])), (hkp, .inl (chkp, 24, .inl fhkp))] H_1 := hP
  have hD : va_D A [(h0, .inr (12, [h0_0, h0_1, .int 0, h0_3, h0_4, h0_5, h0_6, h0_7, h0_8, h0_9, h0_10, h0_11, h0_12, h0_13, h0_14, h0_15, h0_16, h0_17, h0_18, h0_19, h0_20, h0_21, h0_22, .int mk, h0_24, h0_25, .ref hkp, h0_27, h0_28, h0_29, h0_30, h0_31, h0_32, h0_33, h0_34, h0_35, h0_36, h0_37, h0_38, h0_39, h0_40, h0_41, h0_42, h0_43, h0_44, h0_45, h0_46, h0_47, h0_48, h0_49, h0_50, h0_51, h0_52, h0_53, h0_54, h0_55, h0_56, h0_57, h0_58, h0_59, h0_60, h0_61, h0_62, h0_63, h0_64, h0_65, h0_66, h0_67, h0_68, h0_69])), (hkp, .inl (chkp, 24, .inl fhkp))] := hD
  refine lv_aload_n hx hb dX12_kept_5 rfl (lv_at hl 0 rfl) ?_
  refine lv_iload_n hx hb dX12_kept_6 rfl (lv_at hl 1 rfl) ?_
  have hPc := hP.sub (ws' := [(h0, .inr (12, [h0_0, h0_1, .int 0, h0_3, h0_4, h0_5, h0_6, h0_7, h0_8, h0_9, h0_10, h0_11, h0_12, h0_13, h0_14, h0_15, h0_16, h0_17, h0_18, h0_19, h0_20, h0_21, h0_22, .int mk, h0_24, h0_25, .ref hkp, h0_27, h0_28, h0_29, h0_30, h0_31, h0_32, h0_33, h0_34, h0_35, h0_36, h0_37, h0_38, h0_39, h0_40, h0_41, h0_42, h0_43, h0_44, h0_45, h0_46, h0_47, h0_48, h0_49, h0_50, h0_51, h0_52, h0_53, h0_54, h0_55, h0_56, h0_57, h0_58, h0_59, h0_60, h0_61, h0_62, h0_63, h0_64, h0_65, h0_66, h0_67, h0_68, h0_69]))]) [0] rfl
  have hDc := hD.sub (ws' := [(h0, .inr (12, [h0_0, h0_1, .int 0, h0_3, h0_4, h0_5, h0_6, h0_7, h0_8, h0_9, h0_10, h0_11, h0_12, h0_13, h0_14, h0_15, h0_16, h0_17, h0_18, h0_19, h0_20, h0_21, h0_22, .int mk, h0_24, h0_25, .ref hkp, h0_27, h0_28, h0_29, h0_30, h0_31, h0_32, h0_33, h0_34, h0_35, h0_36, h0_37, h0_38, h0_39, h0_40, h0_41, h0_42, h0_43, h0_44, h0_45, h0_46, h0_47, h0_48, h0_49, h0_50, h0_51, h0_52, h0_53, h0_54, h0_55, h0_56, h0_57, h0_58, h0_59, h0_60, h0_61, h0_62, h0_63, h0_64, h0_65, h0_66, h0_67, h0_68, h0_69]))]) [0] (by decide) rfl
  have hKc := hK.sub (tys' := []) [] rfl
  have hFc := va_free (ws := []) (wc := []) (z_D0 _) hS hA [] rfl
  refine va_calli (va_runV (As := [.int p1]) (rest := []) ⟨hx, hb, hml, hown, hts⟩ (s_X12_isKindA l dC dI H_1.size h0 p1 h0_0 h0_1 (.int 0) h0_3 h0_4 h0_5 h0_6 h0_7 h0_8 h0_9 h0_10 h0_11 h0_12 h0_13 h0_14 h0_15 h0_16 h0_17 h0_18 h0_19 h0_20 h0_21 h0_22 mk h0_24 h0_25 (.ref hkp) h0_27 h0_28 h0_29 h0_30 h0_31 h0_32 h0_33 h0_34 h0_35 h0_36 h0_37 h0_38 h0_39 h0_40 h0_41 h0_42 h0_43 h0_44 h0_45 h0_46 h0_47 h0_48 h0_49 h0_50 h0_51 h0_52 h0_53 h0_54 h0_55 h0_56 h0_57 h0_58 h0_59 h0_60 h0_61 h0_62 h0_63 h0_64 h0_65 h0_66 h0_67 h0_68 h0_69 (by first | omega | decide)) (cwV 1 hts gw_s_X12_keptA_s_X12_isKindA_195 rfl rfl rfl (by decide +kernel) ⟨Nat.le_of_ble_eq_true rfl, Nat.le_of_ble_eq_true rfl⟩) ⟨z_blind, va_recv hKc hPc (ci := 12) (q0 := 0) rfl rfl, z_pre hPc hKc hDc⟩ rfl rfl hl.1 rfl (lv_room (Nat.le_of_ble_eq_true rfl)) dX12_kept_7 ⟨Nat.le_of_ble_eq_true rfl, Nat.le_of_ble_eq_true rfl⟩) hS (fun q _ h => hFc q h) hFc (fun r_3 u t H_2 locs ht hvm hw_4 hB hz1 hk1 hS => ?_)
  have hP := z_pure hP hk1
  have hP : va_P (dC, dI) vwCl [(h0, .inr (12, [h0_0, h0_1, .int 0, h0_3, h0_4, h0_5, h0_6, h0_7, h0_8, h0_9, h0_10, h0_11, h0_12, h0_13, h0_14, h0_15, h0_16, h0_17, h0_18, h0_19, h0_20, h0_21, h0_22, .int mk, h0_24, h0_25, .ref hkp, h0_27, h0_28, h0_29, h0_30, h0_31, h0_32, h0_33, h0_34, h0_35, h0_36, h0_37, h0_38, h0_39, h0_40, h0_41, h0_42, h0_43, h0_44, h0_45, h0_46, h0_47, h0_48, h0_49, h0_50, h0_51, h0_52, h0_53, h0_54, h0_55, h0_56, h0_57, h0_58, h0_59, h0_60, h0_61, h0_62, h0_63, h0_64, h0_65, h0_66, h0_67, h0_68, h0_69])), (hkp, .inl (chkp, 24, .inl fhkp))] H_2 := hP
  have hD : va_D A [(h0, .inr (12, [h0_0, h0_1, .int 0, h0_3, h0_4, h0_5, h0_6, h0_7, h0_8, h0_9, h0_10, h0_11, h0_12, h0_13, h0_14, h0_15, h0_16, h0_17, h0_18, h0_19, h0_20, h0_21, h0_22, .int mk, h0_24, h0_25, .ref hkp, h0_27, h0_28, h0_29, h0_30, h0_31, h0_32, h0_33, h0_34, h0_35, h0_36, h0_37, h0_38, h0_39, h0_40, h0_41, h0_42, h0_43, h0_44, h0_45, h0_46, h0_47, h0_48, h0_49, h0_50, h0_51, h0_52, h0_53, h0_54, h0_55, h0_56, h0_57, h0_58, h0_59, h0_60, h0_61, h0_62, h0_63, h0_64, h0_65, h0_66, h0_67, h0_68, h0_69])), (hkp, .inl (chkp, 24, .inl fhkp))] := hD
  clear hPc hDc hKc
  rcases hw_4 with ⟨rfl, hw_4⟩ | ⟨rfl, hw_4⟩
  · have hw_4 : (0 ≤ p1.toInt ∧ p1.toInt < mk.toInt) := hw_4
    refine lv_if_eq (tgt := 33) hx hb dX12_kept_10 (by decide) (fun c_5 => absurd c_5 (by decide)) (fun _ => ?_)
    refine lv_iload_n hx hb dX12_kept_13 rfl (lv_at hl 2 rfl) ?_
    refine lv_if_lt (tgt := 33) hx hb dX12_kept_14 (by decide) (fun c_6 => ?_) (fun c_6 => ?_)
    · have k_7 : (p2).toInt < (0 : Int) := z_lt c_6
      refine lv_iconst (v := 0) hx hb dX12_kept_33 (by decide) ?_
      have hP9 := hP.sub (ws' := [(h0, .inr (12, [h0_0, h0_1, .int 0, h0_3, h0_4, h0_5, h0_6, h0_7, h0_8, h0_9, h0_10, h0_11, h0_12, h0_13, h0_14, h0_15, h0_16, h0_17, h0_18, h0_19, h0_20, h0_21, h0_22, .int mk, h0_24, h0_25, .ref hkp, h0_27, h0_28, h0_29, h0_30, h0_31, h0_32, h0_33, h0_34, h0_35, h0_36, h0_37, h0_38, h0_39, h0_40, h0_41, h0_42, h0_43, h0_44, h0_45, h0_46, h0_47, h0_48, h0_49, h0_50, h0_51, h0_52, h0_53, h0_54, h0_55, h0_56, h0_57, h0_58, h0_59, h0_60, h0_61, h0_62, h0_63, h0_64, h0_65, h0_66, h0_67, h0_68, h0_69])), (hkp, .inl (chkp, 24, .inl fhkp))]) [0, 1] rfl
      have hD9 := hD.sub (ws' := [(h0, .inr (12, [h0_0, h0_1, .int 0, h0_3, h0_4, h0_5, h0_6, h0_7, h0_8, h0_9, h0_10, h0_11, h0_12, h0_13, h0_14, h0_15, h0_16, h0_17, h0_18, h0_19, h0_20, h0_21, h0_22, .int mk, h0_24, h0_25, .ref hkp, h0_27, h0_28, h0_29, h0_30, h0_31, h0_32, h0_33, h0_34, h0_35, h0_36, h0_37, h0_38, h0_39, h0_40, h0_41, h0_42, h0_43, h0_44, h0_45, h0_46, h0_47, h0_48, h0_49, h0_50, h0_51, h0_52, h0_53, h0_54, h0_55, h0_56, h0_57, h0_58, h0_59, h0_60, h0_61, h0_62, h0_63, h0_64, h0_65, h0_66, h0_67, h0_68, h0_69])), (hkp, .inl (chkp, 24, .inl fhkp))]) [0, 1] (by decide) rfl
      have hK9 := hK.sub (tys' := []) [] rfl
      refine W.widen (k := 0) (n := 0) (Nat.le_of_ble_eq_true rfl) (Nat.le_of_ble_eq_true rfl) ?_
      exact W.zret (v := 0) hx hb hr (by rfl) (fun t ht hW => ⟨⟨0, (), rfl, (show 0 = v_keA mk p1 p2 p3 by unfold v_keA; rw [if_neg (by omega)]), ⟨0, fhkp, hI_hkp, by rw [ht]; exact hP9, va_K.moved hW.alike hK9, hD9⟩⟩, hS.F ht⟩) hS.2.2 dX12_kept_34
    · have k_8 : (p2).toInt ≥ (0 : Int) := z_nlt c_6
      refine lv_iload_n hx hb dX12_kept_17 rfl (lv_at hl 2 rfl) ?_
      refine lv_iconst (v := 3) hx hb dX12_kept_18 (by decide) ?_
      refine lv_icmp_gt (tgt := 33) hx hb dX12_kept_19 (by decide) (fun c_9 => ?_) (fun c_9 => ?_)
      · have k_10 : (3 : Int) < (p2).toInt := z_lt c_9
        refine lv_iconst (v := 0) hx hb dX12_kept_33 (by decide) ?_
        have hP9 := hP.sub (ws' := [(h0, .inr (12, [h0_0, h0_1, .int 0, h0_3, h0_4, h0_5, h0_6, h0_7, h0_8, h0_9, h0_10, h0_11, h0_12, h0_13, h0_14, h0_15, h0_16, h0_17, h0_18, h0_19, h0_20, h0_21, h0_22, .int mk, h0_24, h0_25, .ref hkp, h0_27, h0_28, h0_29, h0_30, h0_31, h0_32, h0_33, h0_34, h0_35, h0_36, h0_37, h0_38, h0_39, h0_40, h0_41, h0_42, h0_43, h0_44, h0_45, h0_46, h0_47, h0_48, h0_49, h0_50, h0_51, h0_52, h0_53, h0_54, h0_55, h0_56, h0_57, h0_58, h0_59, h0_60, h0_61, h0_62, h0_63, h0_64, h0_65, h0_66, h0_67, h0_68, h0_69])), (hkp, .inl (chkp, 24, .inl fhkp))]) [0, 1] rfl
        have hD9 := hD.sub (ws' := [(h0, .inr (12, [h0_0, h0_1, .int 0, h0_3, h0_4, h0_5, h0_6, h0_7, h0_8, h0_9, h0_10, h0_11, h0_12, h0_13, h0_14, h0_15, h0_16, h0_17, h0_18, h0_19, h0_20, h0_21, h0_22, .int mk, h0_24, h0_25, .ref hkp, h0_27, h0_28, h0_29, h0_30, h0_31, h0_32, h0_33, h0_34, h0_35, h0_36, h0_37, h0_38, h0_39, h0_40, h0_41, h0_42, h0_43, h0_44, h0_45, h0_46, h0_47, h0_48, h0_49, h0_50, h0_51, h0_52, h0_53, h0_54, h0_55, h0_56, h0_57, h0_58, h0_59, h0_60, h0_61, h0_62, h0_63, h0_64, h0_65, h0_66, h0_67, h0_68, h0_69])), (hkp, .inl (chkp, 24, .inl fhkp))]) [0, 1] (by decide) rfl
        have hK9 := hK.sub (tys' := []) [] rfl
        refine W.widen (k := 0) (n := 0) (Nat.le_of_ble_eq_true rfl) (Nat.le_of_ble_eq_true rfl) ?_
        exact W.zret (v := 0) hx hb hr (by rfl) (fun t ht hW => ⟨⟨0, (), rfl, (show 0 = v_keA mk p1 p2 p3 by unfold v_keA; rw [if_neg (by omega)]), ⟨0, fhkp, hI_hkp, by rw [ht]; exact hP9, va_K.moved hW.alike hK9, hD9⟩⟩, hS.F ht⟩) hS.2.2 dX12_kept_34
      · have k_11 : (3 : Int) ≥ (p2).toInt := z_nlt c_9
        refine lv_iload_n hx hb dX12_kept_22 rfl (lv_at hl 3 rfl) ?_
        refine lv_iconst (v := 1) hx hb dX12_kept_23 (by decide) ?_
        refine lv_icmp_lt (tgt := 33) hx hb dX12_kept_24 (by decide) (fun c_12 => ?_) (fun c_12 => ?_)
        · have k_13 : (p3).toInt < (1 : Int) := z_lt c_12
          refine lv_iconst (v := 0) hx hb dX12_kept_33 (by decide) ?_
          have hP9 := hP.sub (ws' := [(h0, .inr (12, [h0_0, h0_1, .int 0, h0_3, h0_4, h0_5, h0_6, h0_7, h0_8, h0_9, h0_10, h0_11, h0_12, h0_13, h0_14, h0_15, h0_16, h0_17, h0_18, h0_19, h0_20, h0_21, h0_22, .int mk, h0_24, h0_25, .ref hkp, h0_27, h0_28, h0_29, h0_30, h0_31, h0_32, h0_33, h0_34, h0_35, h0_36, h0_37, h0_38, h0_39, h0_40, h0_41, h0_42, h0_43, h0_44, h0_45, h0_46, h0_47, h0_48, h0_49, h0_50, h0_51, h0_52, h0_53, h0_54, h0_55, h0_56, h0_57, h0_58, h0_59, h0_60, h0_61, h0_62, h0_63, h0_64, h0_65, h0_66, h0_67, h0_68, h0_69])), (hkp, .inl (chkp, 24, .inl fhkp))]) [0, 1] rfl
          have hD9 := hD.sub (ws' := [(h0, .inr (12, [h0_0, h0_1, .int 0, h0_3, h0_4, h0_5, h0_6, h0_7, h0_8, h0_9, h0_10, h0_11, h0_12, h0_13, h0_14, h0_15, h0_16, h0_17, h0_18, h0_19, h0_20, h0_21, h0_22, .int mk, h0_24, h0_25, .ref hkp, h0_27, h0_28, h0_29, h0_30, h0_31, h0_32, h0_33, h0_34, h0_35, h0_36, h0_37, h0_38, h0_39, h0_40, h0_41, h0_42, h0_43, h0_44, h0_45, h0_46, h0_47, h0_48, h0_49, h0_50, h0_51, h0_52, h0_53, h0_54, h0_55, h0_56, h0_57, h0_58, h0_59, h0_60, h0_61, h0_62, h0_63, h0_64, h0_65, h0_66, h0_67, h0_68, h0_69])), (hkp, .inl (chkp, 24, .inl fhkp))]) [0, 1] (by decide) rfl
          have hK9 := hK.sub (tys' := []) [] rfl
          refine W.widen (k := 0) (n := 0) (Nat.le_of_ble_eq_true rfl) (Nat.le_of_ble_eq_true rfl) ?_
          exact W.zret (v := 0) hx hb hr (by rfl) (fun t ht hW => ⟨⟨0, (), rfl, (show 0 = v_keA mk p1 p2 p3 by unfold v_keA; rw [if_neg (by omega)]), ⟨0, fhkp, hI_hkp, by rw [ht]; exact hP9, va_K.moved hW.alike hK9, hD9⟩⟩, hS.F ht⟩) hS.2.2 dX12_kept_34
        · have k_14 : (p3).toInt ≥ (1 : Int) := z_nlt c_12
          refine lv_iload_n hx hb dX12_kept_27 rfl (lv_at hl 3 rfl) ?_
          refine lv_bipush (v := 16) hx hb dX12_kept_28 (by decide) ?_
          refine lv_icmp_le (tgt := 35) hx hb dX12_kept_30 (by decide) (fun c_15 => ?_) (fun c_15 => ?_)
          · have k_16 : (p3).toInt ≤ (16 : Int) := z_le c_15
            refine lv_aload_n hx hb dX12_kept_35 rfl (lv_at hl 0 rfl) ?_
            refine va_get (D := (dC, dI)) (ci := 12) (v := .ref hkp) (C := RX12) (T := TX12) (N := 70) hx hb hts hiX12 hown hK hP 0 rfl rfl 26 (by decide) w__fieldLink_RX12_69_ShellHeapModel_keptOf_I_ (fun _ h9 => h9) rfl dX12_kept_36 ?_
            refine lv_iconst (v := 4) hx hb dX12_kept_39 (by decide) ?_
            refine lv_iload_n hx hb dX12_kept_40 rfl (lv_at hl 1 rfl) ?_
            refine lv_imul hx hb dX12_kept_41 ?_
            refine lv_topi (fun z_17 ez_17 => ?_)
            have kz_17 : (z_17).toInt = (4 : Int) * (p1).toInt := by rw [ez_17]; exact z_mul (a := (4 : Int)) (b := (p1).toInt) rfl rfl (by omega) (by omega)
            refine lv_iload_n hx hb dX12_kept_42 rfl (lv_at hl 2 rfl) ?_
            refine lv_iadd hx hb dX12_kept_43 ?_
            refine lv_topi (fun z_18 ez_18 => ?_)
            have kz_18 : (z_18).toInt = (z_17).toInt + (p2).toInt := by rw [ez_18]; exact z_add (a := (z_17).toInt) (b := (p2).toInt) rfl rfl (by omega) (by omega)
            refine lv_iload_n hx hb dX12_kept_44 rfl (lv_at hl 3 rfl) ?_
            refine va_iast hx hb hK hP hD hS 1 0 rfl rfl (z_vpin (by omega) (by omega)) dX12_kept_45 (fun H_19 locs hP hD hS => ?_)
            have hP : va_P (dC, dI) vwCl [(h0, .inr (12, [h0_0, h0_1, .int 0, h0_3, h0_4, h0_5, h0_6, h0_7, h0_8, h0_9, h0_10, h0_11, h0_12, h0_13, h0_14, h0_15, h0_16, h0_17, h0_18, h0_19, h0_20, h0_21, h0_22, .int mk, h0_24, h0_25, .ref hkp, h0_27, h0_28, h0_29, h0_30, h0_31, h0_32, h0_33, h0_34, h0_35, h0_36, h0_37, h0_38, h0_39, h0_40, h0_41, h0_42, h0_43, h0_44, h0_45, h0_46, h0_47, h0_48, h0_49, h0_50, h0_51, h0_52, h0_53, h0_54, h0_55, h0_56, h0_57, h0_58, h0_59, h0_60, h0_61, h0_62, h0_63, h0_64, h0_65, h0_66, h0_67, h0_68, h0_69])), (hkp, .inl (chkp, 24, .inl (upd fhkp (z_18 : Int32).toNatClampNeg p3)))] H_19 := hP
            have hD : va_D A [(h0, .inr (12, [h0_0, h0_1, .int 0, h0_3, h0_4, h0_5, h0_6, h0_7, h0_8, h0_9, h0_10, h0_11, h0_12, h0_13, h0_14, h0_15, h0_16, h0_17, h0_18, h0_19, h0_20, h0_21, h0_22, .int mk, h0_24, h0_25, .ref hkp, h0_27, h0_28, h0_29, h0_30, h0_31, h0_32, h0_33, h0_34, h0_35, h0_36, h0_37, h0_38, h0_39, h0_40, h0_41, h0_42, h0_43, h0_44, h0_45, h0_46, h0_47, h0_48, h0_49, h0_50, h0_51, h0_52, h0_53, h0_54, h0_55, h0_56, h0_57, h0_58, h0_59, h0_60, h0_61, h0_62, h0_63, h0_64, h0_65, h0_66, h0_67, h0_68, h0_69])), (hkp, .inl (chkp, 24, .inl (upd fhkp (z_18 : Int32).toNatClampNeg p3)))] := hD
            have hI_f_20 : ∀ j : Nat, ((1 : Int) ≤ ((upd fhkp (z_18 : Int32).toNatClampNeg p3) j).toInt ∧ ((upd fhkp (z_18 : Int32).toNatClampNeg p3) j).toInt ≤ (16 : Int)) := z_updP (P := fun v => ((1 : Int) ≤ (v).toInt ∧ (v).toInt ≤ (16 : Int))) hI_hkp (show ((1 : Int) ≤ (p3).toInt ∧ (p3).toInt ≤ (16 : Int)) from by first | omega | decide)
            generalize (upd fhkp (z_18 : Int32).toNatClampNeg p3) = f_20 at hP hD hI_f_20
            refine lv_iconst (v := 1) hx hb dX12_kept_46 (by decide) ?_
            have hP9 := hP.sub (ws' := [(h0, .inr (12, [h0_0, h0_1, .int 0, h0_3, h0_4, h0_5, h0_6, h0_7, h0_8, h0_9, h0_10, h0_11, h0_12, h0_13, h0_14, h0_15, h0_16, h0_17, h0_18, h0_19, h0_20, h0_21, h0_22, .int mk, h0_24, h0_25, .ref hkp, h0_27, h0_28, h0_29, h0_30, h0_31, h0_32, h0_33, h0_34, h0_35, h0_36, h0_37, h0_38, h0_39, h0_40, h0_41, h0_42, h0_43, h0_44, h0_45, h0_46, h0_47, h0_48, h0_49, h0_50, h0_51, h0_52, h0_53, h0_54, h0_55, h0_56, h0_57, h0_58, h0_59, h0_60, h0_61, h0_62, h0_63, h0_64, h0_65, h0_66, h0_67, h0_68, h0_69])), (hkp, .inl (chkp, 24, .inl f_20))]) [0, 1] rfl
            have hD9 := hD.sub (ws' := [(h0, .inr (12, [h0_0, h0_1, .int 0, h0_3, h0_4, h0_5, h0_6, h0_7, h0_8, h0_9, h0_10, h0_11, h0_12, h0_13, h0_14, h0_15, h0_16, h0_17, h0_18, h0_19, h0_20, h0_21, h0_22, .int mk, h0_24, h0_25, .ref hkp, h0_27, h0_28, h0_29, h0_30, h0_31, h0_32, h0_33, h0_34, h0_35, h0_36, h0_37, h0_38, h0_39, h0_40, h0_41, h0_42, h0_43, h0_44, h0_45, h0_46, h0_47, h0_48, h0_49, h0_50, h0_51, h0_52, h0_53, h0_54, h0_55, h0_56, h0_57, h0_58, h0_59, h0_60, h0_61, h0_62, h0_63, h0_64, h0_65, h0_66, h0_67, h0_68, h0_69])), (hkp, .inl (chkp, 24, .inl f_20))]) [0, 1] (by decide) rfl
            have hK9 := hK.sub (tys' := []) [] rfl
            refine W.widen (k := 0) (n := 0) (Nat.le_of_ble_eq_true rfl) (Nat.le_of_ble_eq_true rfl) ?_
            exact W.zret (v := 1) hx hb hr (by rfl) (fun t ht hW => ⟨⟨1, (), rfl, (show 1 = v_keA mk p1 p2 p3 by unfold v_keA; rw [if_pos (by omega)]), ⟨0, f_20, hI_f_20, by rw [ht]; exact hP9, va_K.moved hW.alike hK9, hD9⟩⟩, hS.F ht⟩) hS.2.2 dX12_kept_47
          · have k_21 : (p3).toInt > (16 : Int) := z_nle c_15
            refine lv_iconst (v := 0) hx hb dX12_kept_33 (by decide) ?_
            have hP9 := hP.sub (ws' := [(h0, .inr (12, [h0_0, h0_1, .int 0, h0_3, h0_4, h0_5, h0_6, h0_7, h0_8, h0_9, h0_10, h0_11, h0_12, h0_13, h0_14, h0_15, h0_16, h0_17, h0_18, h0_19, h0_20, h0_21, h0_22, .int mk, h0_24, h0_25, .ref hkp, h0_27, h0_28, h0_29, h0_30, h0_31, h0_32, h0_33, h0_34, h0_35, h0_36, h0_37, h0_38, h0_39, h0_40, h0_41, h0_42, h0_43, h0_44, h0_45, h0_46, h0_47, h0_48, h0_49, h0_50, h0_51, h0_52, h0_53, h0_54, h0_55, h0_56, h0_57, h0_58, h0_59, h0_60, h0_61, h0_62, h0_63, h0_64, h0_65, h0_66, h0_67, h0_68, h0_69])), (hkp, .inl (chkp, 24, .inl fhkp))]) [0, 1] rfl
            have hD9 := hD.sub (ws' := [(h0, .inr (12, [h0_0, h0_1, .int 0, h0_3, h0_4, h0_5, h0_6, h0_7, h0_8, h0_9, h0_10, h0_11, h0_12, h0_13, h0_14, h0_15, h0_16, h0_17, h0_18, h0_19, h0_20, h0_21, h0_22, .int mk, h0_24, h0_25, .ref hkp, h0_27, h0_28, h0_29, h0_30, h0_31, h0_32, h0_33, h0_34, h0_35, h0_36, h0_37, h0_38, h0_39, h0_40, h0_41, h0_42, h0_43, h0_44, h0_45, h0_46, h0_47, h0_48, h0_49, h0_50, h0_51, h0_52, h0_53, h0_54, h0_55, h0_56, h0_57, h0_58, h0_59, h0_60, h0_61, h0_62, h0_63, h0_64, h0_65, h0_66, h0_67, h0_68, h0_69])), (hkp, .inl (chkp, 24, .inl fhkp))]) [0, 1] (by decide) rfl
            have hK9 := hK.sub (tys' := []) [] rfl
            refine W.widen (k := 0) (n := 0) (Nat.le_of_ble_eq_true rfl) (Nat.le_of_ble_eq_true rfl) ?_
            exact W.zret (v := 0) hx hb hr (by rfl) (fun t ht hW => ⟨⟨0, (), rfl, (show 0 = v_keA mk p1 p2 p3 by unfold v_keA; rw [if_neg (by omega)]), ⟨0, fhkp, hI_hkp, by rw [ht]; exact hP9, va_K.moved hW.alike hK9, hD9⟩⟩, hS.F ht⟩) hS.2.2 dX12_kept_34
  · have hw_4 : ¬ (0 ≤ p1.toInt ∧ p1.toInt < mk.toInt) := hw_4
    refine lv_if_eq (tgt := 33) hx hb dX12_kept_10 (by decide) (fun _ => ?_) (fun c_22 => absurd (by decide) c_22)
    refine lv_iconst (v := 0) hx hb dX12_kept_33 (by decide) ?_
    have hP9 := hP.sub (ws' := [(h0, .inr (12, [h0_0, h0_1, .int 0, h0_3, h0_4, h0_5, h0_6, h0_7, h0_8, h0_9, h0_10, h0_11, h0_12, h0_13, h0_14, h0_15, h0_16, h0_17, h0_18, h0_19, h0_20, h0_21, h0_22, .int mk, h0_24, h0_25, .ref hkp, h0_27, h0_28, h0_29, h0_30, h0_31, h0_32, h0_33, h0_34, h0_35, h0_36, h0_37, h0_38, h0_39, h0_40, h0_41, h0_42, h0_43, h0_44, h0_45, h0_46, h0_47, h0_48, h0_49, h0_50, h0_51, h0_52, h0_53, h0_54, h0_55, h0_56, h0_57, h0_58, h0_59, h0_60, h0_61, h0_62, h0_63, h0_64, h0_65, h0_66, h0_67, h0_68, h0_69])), (hkp, .inl (chkp, 24, .inl fhkp))]) [0, 1] rfl
    have hD9 := hD.sub (ws' := [(h0, .inr (12, [h0_0, h0_1, .int 0, h0_3, h0_4, h0_5, h0_6, h0_7, h0_8, h0_9, h0_10, h0_11, h0_12, h0_13, h0_14, h0_15, h0_16, h0_17, h0_18, h0_19, h0_20, h0_21, h0_22, .int mk, h0_24, h0_25, .ref hkp, h0_27, h0_28, h0_29, h0_30, h0_31, h0_32, h0_33, h0_34, h0_35, h0_36, h0_37, h0_38, h0_39, h0_40, h0_41, h0_42, h0_43, h0_44, h0_45, h0_46, h0_47, h0_48, h0_49, h0_50, h0_51, h0_52, h0_53, h0_54, h0_55, h0_56, h0_57, h0_58, h0_59, h0_60, h0_61, h0_62, h0_63, h0_64, h0_65, h0_66, h0_67, h0_68, h0_69])), (hkp, .inl (chkp, 24, .inl fhkp))]) [0, 1] (by decide) rfl
    have hK9 := hK.sub (tys' := []) [] rfl
    refine W.widen (k := 0) (n := 0) (Nat.le_of_ble_eq_true rfl) (Nat.le_of_ble_eq_true rfl) ?_
    exact W.zret (v := 0) hx hb hr (by rfl) (fun t ht hW => ⟨⟨0, (), rfl, (show 0 = v_keA mk p1 p2 p3 by unfold v_keA; rw [if_neg (by omega)]), ⟨0, fhkp, hI_hkp, by rw [ht]; exact hP9, va_K.moved hW.alike hK9, hD9⟩⟩, hS.F ht⟩) hS.2.2 dX12_kept_34
