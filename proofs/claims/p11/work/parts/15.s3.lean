def u_s_X7_clear : List Cond := .code yX7_clear cX7_clear 1 none :: ([.fieldLink RX7 19 "ShellHeap$Rules" "length" "I", .fieldLink RX7 23 "ShellHeap$Rules" "causes" "I", .fieldLink RX7 26 "ShellHeap$Rules" "knots" "I"] ++ (wsX70 ++ []))
theorem gd_s_X7_clear : z_gd u_s_X7_clear := z_gdc (by decide +kernel) (z_gda gdX7 (z_gd0))
set_option maxHeartbeats 4000000 in
set_option maxRecDepth 100000 in
theorem s_X7_clear (l : Launch) (dC : Nat → ClassId) (dI : Nat → Nat → Nat) (sz : Nat) (h0 : Nat) (h0_0 : Value) (h0_1 : Value) (h0_2 : Value) (rl : Int32) (rc : Int32) (rk : Int32) (hB_rl : ((0 : Int) ≤ (rl).toInt ∧ (rl).toInt ≤ (96 : Int))) (hB_rc : ((0 : Int) ≤ (rc).toInt ∧ (rc).toInt ≤ (6 : Int))) (hB_rk : ((0 : Int) ≤ (rk).toInt ∧ (rk).toInt ≤ (96 : Int))) : Met l yX7_clear u_s_X7_clear ({ frames := 0, cells := 0, slots := 0, locals := 0 }) (va_Pc [.ref h0] (z_C (dC, dI) vwCl [(h0, .inr (7, [h0_0, h0_1, h0_2, .int rl, .int rc, .int rk]))] [] sz)) (va_Qv (fun (_ : Unit) => True) (fun (_ : Unit) (t : State) => ∃ (n_h0_length : Int32), ∃ (n_h0_causes : Int32), ∃ (n_h0_knots : Int32), ((0 : Int) ≤ (n_h0_length).toInt ∧ (n_h0_length).toInt ≤ (96 : Int)) ∧ ((0 : Int) ≤ (n_h0_causes).toInt ∧ (n_h0_causes).toInt ≤ (6 : Int)) ∧ ((0 : Int) ≤ (n_h0_knots).toInt ∧ (n_h0_knots).toInt ≤ (96 : Int)) ∧ va_P (dC, dI) vwCl [(h0, .inr (7, [h0_0, h0_1, h0_2, .int n_h0_length, .int n_h0_causes, .int n_h0_knots]))] t.heap ∧ va_K (dC, dI) vwCl [] t ∧ va_D (va_A [(h0, .inr (7, [h0_0, h0_1, h0_2, .int rl, .int rc, .int rk]))] sz) [(h0, .inr (7, [h0_0, h0_1, h0_2, .int n_h0_length, .int n_h0_causes, .int n_h0_knots]))]) (va_A [(h0, .inr (7, [h0_0, h0_1, h0_2, .int rl, .int rc, .int rk]))] sz)) 0 0 (va_A [(h0, .inr (7, [h0_0, h0_1, h0_2, .int rl, .int rc, .int rk]))] sz) := by
  refine Met.ofW (cc := cX7_clear) (maxL := 1) (ret := none) (by decide) rfl ?_
  intro p e s m args below meth c s₁ B hml hv
  obtain ⟨rfl, hsz, hP, hK, hD0⟩ := hv
  have hx := B.exec
  have hb := B.bytes
  have hr := B.returns
  have hts := atoms_spec (ws := u_s_X7_clear) B.pre
  have hown : s.vm.findClass RX7 = some m.cls := findClass_of_methodNamed B.named
  have hlocks := B.notSynchronized
  subst hsz
  have hD := hD0.self (sz := s.heap.size)
  generalize hAe : va_A [(h0, .inr (7, [h0_0, h0_1, h0_2, .int rl, .int rc, .int rk]))] s.heap.size = A at hD ⊢
  have hA : ∀ q : Nat, s.heap.size ≤ q → A q := fun q h => by rw [← hAe]; exact Or.inr h
  have hS : va_S A s.heap s.heap [] := va_S.rf
  have hP : va_P (dC, dI) vwCl [(h0, .inr (7, [h0_0, h0_1, h0_2, .int rl, .int rc, .int rk]))] s.heap := hP
  have w__fieldLink_RX7_19_ShellHeap_Rules_length_I_ := hts (.fieldLink RX7 19 "ShellHeap$Rules" "length" "I") (z_mc (z_ml z_m0))
  have hiX7 := show ∀ w ∈ u_ws RX7 TX7 6, w ∈ u_s_X7_clear from fun w h => z_mc (z_mr (z_ml h))
  have w__fieldLink_RX7_23_ShellHeap_Rules_causes_I_ := hts (.fieldLink RX7 23 "ShellHeap$Rules" "causes" "I") (z_mc (z_ml z_m1))
  have w__fieldLink_RX7_26_ShellHeap_Rules_knots_I_ := hts (.fieldLink RX7 26 "ShellHeap$Rules" "knots" "I") (z_mc (z_ml z_m2))
  have hl := lv_entry ([.ref h0]) (n := 1) (Nat.le_of_ble_eq_true rfl)
  rw [lg_entry_eq]
  generalize (lg_sl ([.ref h0]) ++ List.replicate (1 - (lg_sl ([.ref h0])).length) Slot.unset).toArray = ls at hl ⊢
  have hl : lv_has ls 1 [(0, .ref h0)] := hl
  refine lv_aload_n hx hb dX7_clear_0 rfl (lv_at hl 0 rfl) ?_
  refine lv_iconst (v := 0) hx hb dX7_clear_1 (by decide) ?_
  refine va_put (D := (dC, dI)) (ci := 7) (v := .int 0) (ty := .int) (C := RX7) (T := TX7) (N := 6) hx hb hts hiX7 tyX7 tyX7_ok nmX7 hown hK hP hD hS 0 rfl rfl 3 (by decide) w__fieldLink_RX7_19_ShellHeap_Rules_length_I_ (fun _ h9 => h9) rfl (by decide +kernel) rfl rfl (Nat.le_of_ble_eq_true rfl) dX7_clear_2 (fun H_1 locs hP hD hS => ?_)
  obtain ⟨hP, hD⟩ := z_s_0_3 hP hD
  refine lv_aload_n hx hb dX7_clear_5 rfl (lv_at hl 0 rfl) ?_
  refine lv_iconst (v := 0) hx hb dX7_clear_6 (by decide) ?_
  refine va_put (D := (dC, dI)) (ci := 7) (v := .int 0) (ty := .int) (C := RX7) (T := TX7) (N := 6) hx hb hts hiX7 tyX7 tyX7_ok nmX7 hown hK hP hD hS 0 rfl rfl 4 (by decide) w__fieldLink_RX7_23_ShellHeap_Rules_causes_I_ (fun _ h9 => h9) rfl (by decide +kernel) rfl rfl (Nat.le_of_ble_eq_true rfl) dX7_clear_7 (fun H_2 locs hP hD hS => ?_)
  obtain ⟨hP, hD⟩ := z_s_0_4 hP hD
  refine lv_aload_n hx hb dX7_clear_10 rfl (lv_at hl 0 rfl) ?_
  refine lv_iconst (v := 0) hx hb dX7_clear_11 (by decide) ?_
  refine va_put (D := (dC, dI)) (ci := 7) (v := .int 0) (ty := .int) (C := RX7) (T := TX7) (N := 6) hx hb hts hiX7 tyX7 tyX7_ok nmX7 hown hK hP hD hS 0 rfl rfl 5 (by decide) w__fieldLink_RX7_26_ShellHeap_Rules_knots_I_ (fun _ h9 => h9) rfl (by decide +kernel) rfl rfl (Nat.le_of_ble_eq_true rfl) dX7_clear_12 (fun H_3 locs hP hD hS => ?_)
  obtain ⟨hP, hD⟩ := z_s_0_5 hP hD
  have hP9 := hP
  have hD9 := hD
  have hK9 := hK.sub (tys' := []) [] rfl
  refine W.widen (k := 0) (n := 0) (Nat.le_of_ble_eq_true rfl) (Nat.le_of_ble_eq_true rfl) ?_
  exact W.vret hx hb hr (fun t ht hW => ⟨⟨(), rfl, trivial, ⟨0, 0, 0, (by decide), (by decide), (by decide), by rw [ht]; exact hP9, va_K.moved hW.alike hK9, hD9⟩⟩, hS.F ht⟩) hS.2.2 dX7_clear_15
def u_s_X7_add : List Cond := .code yX7_add cX7_add 3 none :: ([.fieldLink RX7 19 "ShellHeap$Rules" "length" "I", .fieldLink RX7 9 "ShellHeap$Rules" "steps" "[I", .fieldLink RX7 13 "ShellHeap$Rules" "worths" "[I"] ++ (wsX70 ++ []))
theorem gd_s_X7_add : z_gd u_s_X7_add := z_gdc (by decide +kernel) (z_gda gdX7 (z_gd0))
set_option maxHeartbeats 4000000 in
set_option maxRecDepth 100000 in
theorem s_X7_add (l : Launch) (dC : Nat → ClassId) (dI : Nat → Nat → Nat) (sz : Nat) (h0 : Nat) (p1 : Int32) (p2 : Int32) (h1 : Nat) (h2 : Nat) (h0_2 : Value) (rl : Int32) (h0_4 : Value) (h0_5 : Value) (ch1 : ClassId) (fh1 : Nat → Int32) (ch2 : ClassId) (fh2 : Nat → Int32) (hB_rl : ((0 : Int) ≤ (rl).toInt ∧ (rl).toInt ≤ (96 : Int))) : Met l yX7_add u_s_X7_add ({ frames := 0, cells := 0, slots := 0, locals := 0 }) (va_Pc [.ref h0, .int p1, .int p2] (z_C (dC, dI) vwCl [(h0, .inr (7, [.ref h1, .ref h2, h0_2, .int rl, h0_4, h0_5])), (h1, .inl (ch1, 96, .inl fh1)), (h2, .inl (ch2, 96, .inl fh2))] [(ch1, .int), (ch2, .int)] sz)) (va_Qv (fun (_ : Unit) => True) (fun (_ : Unit) (t : State) => ∃ (n_h0_length : Int32), ∃ (g_h1 : Nat → Int32), ∃ (g_h2 : Nat → Int32), ((0 : Int) ≤ (n_h0_length).toInt ∧ (n_h0_length).toInt ≤ (96 : Int)) ∧ va_P (dC, dI) vwCl [(h0, .inr (7, [.ref h1, .ref h2, h0_2, .int n_h0_length, h0_4, h0_5])), (h1, .inl (ch1, 96, .inl g_h1)), (h2, .inl (ch2, 96, .inl g_h2))] t.heap ∧ va_K (dC, dI) vwCl [] t ∧ va_D (va_A [(h0, .inr (7, [.ref h1, .ref h2, h0_2, .int rl, h0_4, h0_5])), (h1, .inl (ch1, 96, .inl fh1)), (h2, .inl (ch2, 96, .inl fh2))] sz) [(h0, .inr (7, [.ref h1, .ref h2, h0_2, .int n_h0_length, h0_4, h0_5])), (h1, .inl (ch1, 96, .inl g_h1)), (h2, .inl (ch2, 96, .inl g_h2))]) (va_A [(h0, .inr (7, [.ref h1, .ref h2, h0_2, .int rl, h0_4, h0_5])), (h1, .inl (ch1, 96, .inl fh1)), (h2, .inl (ch2, 96, .inl fh2))] sz)) 0 0 (va_A [(h0, .inr (7, [.ref h1, .ref h2, h0_2, .int rl, h0_4, h0_5])), (h1, .inl (ch1, 96, .inl fh1)), (h2, .inl (ch2, 96, .inl fh2))] sz) := by
  refine Met.ofW (cc := cX7_add) (maxL := 3) (ret := none) (by decide) rfl ?_
  intro p e s m args below meth c s₁ B hml hv
  obtain ⟨rfl, hsz, hP, hK, hD0⟩ := hv
  have hx := B.exec
  have hb := B.bytes
  have hr := B.returns
  have hts := atoms_spec (ws := u_s_X7_add) B.pre
  have hown : s.vm.findClass RX7 = some m.cls := findClass_of_methodNamed B.named
  have hlocks := B.notSynchronized
  subst hsz
  have hD := hD0.self (sz := s.heap.size)
  generalize hAe : va_A [(h0, .inr (7, [.ref h1, .ref h2, h0_2, .int rl, h0_4, h0_5])), (h1, .inl (ch1, 96, .inl fh1)), (h2, .inl (ch2, 96, .inl fh2))] s.heap.size = A at hD ⊢
  have hA : ∀ q : Nat, s.heap.size ≤ q → A q := fun q h => by rw [← hAe]; exact Or.inr h
  have hS : va_S A s.heap s.heap [] := va_S.rf
  have hP : va_P (dC, dI) vwCl [(h0, .inr (7, [.ref h1, .ref h2, h0_2, .int rl, h0_4, h0_5])), (h1, .inl (ch1, 96, .inl fh1)), (h2, .inl (ch2, 96, .inl fh2))] s.heap := hP
  have w__fieldLink_RX7_19_ShellHeap_Rules_length_I_ := hts (.fieldLink RX7 19 "ShellHeap$Rules" "length" "I") (z_mc (z_ml z_m0))
  have hiX7 := show ∀ w ∈ u_ws RX7 TX7 6, w ∈ u_s_X7_add from fun w h => z_mc (z_mr (z_ml h))
  have w__fieldLink_RX7_9_ShellHeap_Rules_steps_I_ := hts (.fieldLink RX7 9 "ShellHeap$Rules" "steps" "[I") (z_mc (z_ml z_m1))
  have w__fieldLink_RX7_13_ShellHeap_Rules_worths_I_ := hts (.fieldLink RX7 13 "ShellHeap$Rules" "worths" "[I") (z_mc (z_ml z_m2))
  have krr_p1 := z_rng p1
  have krr_p2 := z_rng p2
  have hl := lv_entry ([.ref h0, .int p1, .int p2]) (n := 3) (Nat.le_of_ble_eq_true rfl)
  rw [lg_entry_eq]
  generalize (lg_sl ([.ref h0, .int p1, .int p2]) ++ List.replicate (3 - (lg_sl ([.ref h0, .int p1, .int p2])).length) Slot.unset).toArray = ls at hl ⊢
  have hl : lv_has ls 3 [(0, .ref h0), (1, .int p1), (2, .int p2)] := hl
  refine lv_aload_n hx hb dX7_add_0 rfl (lv_at hl 0 rfl) ?_
  refine va_get (D := (dC, dI)) (ci := 7) (v := .int rl) (C := RX7) (T := TX7) (N := 6) hx hb hts hiX7 hown hK hP 0 rfl rfl 3 (by decide) w__fieldLink_RX7_19_ShellHeap_Rules_length_I_ (fun _ h9 => h9) rfl dX7_add_1 ?_
  refine lv_bipush (v := 96) hx hb dX7_add_4 (by decide) ?_
  refine lv_icmp_ge (tgt := 39) hx hb dX7_add_6 (by decide) (fun c_1 => ?_) (fun c_1 => ?_)
  · have k_2 : (96 : Int) ≤ (rl).toInt := z_le c_1
    obtain rfl : rl = 96 := z_eq' (show (rl).toInt = (96 : Int) by omega)
    have hP9 := hP
    have hD9 := hD
    have hK9 := hK.sub (tys' := []) [] rfl
    refine W.widen (k := 0) (n := 0) (Nat.le_of_ble_eq_true rfl) (Nat.le_of_ble_eq_true rfl) ?_
    exact W.vret hx hb hr (fun t ht hW => ⟨⟨(), rfl, trivial, ⟨96, fh1, fh2, (by decide), by rw [ht]; exact hP9, va_K.moved hW.alike hK9, hD9⟩⟩, hS.F ht⟩) hS.2.2 dX7_add_39
  · have k_4 : (96 : Int) > (rl).toInt := z_nle c_1
    refine lv_aload_n hx hb dX7_add_9 rfl (lv_at hl 0 rfl) ?_
    refine va_get (D := (dC, dI)) (ci := 7) (v := .ref h1) (C := RX7) (T := TX7) (N := 6) hx hb hts hiX7 hown hK hP 0 rfl rfl 0 (by decide) w__fieldLink_RX7_9_ShellHeap_Rules_steps_I_ (fun _ h9 => h9) rfl dX7_add_10 ?_
    refine lv_aload_n hx hb dX7_add_13 rfl (lv_at hl 0 rfl) ?_
    refine va_get (D := (dC, dI)) (ci := 7) (v := .int rl) (C := RX7) (T := TX7) (N := 6) hx hb hts hiX7 hown hK hP 0 rfl rfl 3 (by decide) w__fieldLink_RX7_19_ShellHeap_Rules_length_I_ (fun _ h9 => h9) rfl dX7_add_14 ?_
    refine lv_iload_n hx hb dX7_add_17 rfl (lv_at hl 1 rfl) ?_
    refine va_iast hx hb hK hP hD hS 1 0 rfl rfl (z_vpin (by omega) (by omega)) dX7_add_18 (fun H_5 locs hP hD hS => ?_)
    obtain ⟨hP, hD⟩ := z_s_1 hP hD
    generalize (upd fh1 (rl : Int32).toNatClampNeg p1) = f_6 at hP hD
    refine lv_aload_n hx hb dX7_add_19 rfl (lv_at hl 0 rfl) ?_
    refine va_get (D := (dC, dI)) (ci := 7) (v := .ref h2) (C := RX7) (T := TX7) (N := 6) hx hb hts hiX7 hown hK hP 0 rfl rfl 1 (by decide) w__fieldLink_RX7_13_ShellHeap_Rules_worths_I_ (fun _ h9 => h9) rfl dX7_add_20 ?_
    refine lv_aload_n hx hb dX7_add_23 rfl (lv_at hl 0 rfl) ?_
    refine va_get (D := (dC, dI)) (ci := 7) (v := .int rl) (C := RX7) (T := TX7) (N := 6) hx hb hts hiX7 hown hK hP 0 rfl rfl 3 (by decide) w__fieldLink_RX7_19_ShellHeap_Rules_length_I_ (fun _ h9 => h9) rfl dX7_add_24 ?_
    refine lv_iload_n hx hb dX7_add_27 rfl (lv_at hl 2 rfl) ?_
    refine va_iast hx hb hK hP hD hS 2 1 rfl rfl (z_vpin (by omega) (by omega)) dX7_add_28 (fun H_7 locs hP hD hS => ?_)
    obtain ⟨hP, hD⟩ := z_s_2 hP hD
    generalize (upd fh2 (rl : Int32).toNatClampNeg p2) = f_8 at hP hD
    refine lv_aload_n hx hb dX7_add_29 rfl (lv_at hl 0 rfl) ?_
    refine lv_dup hx hb dX7_add_30 rfl ?_
    refine va_get (D := (dC, dI)) (ci := 7) (v := .int rl) (C := RX7) (T := TX7) (N := 6) hx hb hts hiX7 hown hK hP 0 rfl rfl 3 (by decide) w__fieldLink_RX7_19_ShellHeap_Rules_length_I_ (fun _ h9 => h9) rfl dX7_add_31 ?_
    refine lv_iconst (v := 1) hx hb dX7_add_34 (by decide) ?_
    refine lv_iadd hx hb dX7_add_35 ?_
    refine lv_topi (fun z_9 ez_9 => ?_)
    have kz_9 : (z_9).toInt = (rl).toInt + (1 : Int) := by rw [ez_9]; exact z_add (a := (rl).toInt) (b := (1 : Int)) rfl rfl (z_al hB_rl.1 (by decide)) (z_ah hB_rl.2 (by decide))
    refine va_put (D := (dC, dI)) (ci := 7) (v := .int z_9) (ty := .int) (C := RX7) (T := TX7) (N := 6) hx hb hts hiX7 tyX7 tyX7_ok nmX7 hown hK hP hD hS 0 rfl rfl 3 (by decide) w__fieldLink_RX7_19_ShellHeap_Rules_length_I_ (fun _ h9 => h9) rfl (by decide +kernel) rfl rfl (Nat.le_of_ble_eq_true rfl) dX7_add_36 (fun H_10 locs hP hD hS => ?_)
    obtain ⟨hP, hD⟩ := z_s_0_3 hP hD
    have hP9 := hP
    have hD9 := hD
    have hK9 := hK.sub (tys' := []) [] rfl
    refine W.widen (k := 0) (n := 0) (Nat.le_of_ble_eq_true rfl) (Nat.le_of_ble_eq_true rfl) ?_
    exact W.vret hx hb hr (fun t ht hW => ⟨⟨(), rfl, trivial, ⟨z_9, f_6, f_8, (by first | omega | decide), by rw [ht]; exact hP9, va_K.moved hW.alike hK9, hD9⟩⟩, hS.F ht⟩) hS.2.2 dX7_add_39
def u_s_X7_endCause : List Cond := .code yX7_endCause cX7_endCause 1 none :: ([.fieldLink RX7 23 "ShellHeap$Rules" "causes" "I", .fieldLink RX7 16 "ShellHeap$Rules" "begins" "[I", .fieldLink RX7 19 "ShellHeap$Rules" "length" "I"] ++ (wsX70 ++ []))
theorem gd_s_X7_endCause : z_gd u_s_X7_endCause := z_gdc (by decide +kernel) (z_gda gdX7 (z_gd0))
set_option maxHeartbeats 4000000 in
set_option maxRecDepth 100000 in
theorem s_X7_endCause (l : Launch) (dC : Nat → ClassId) (dI : Nat → Nat → Nat) (sz : Nat) (h0 : Nat) (h0_0 : Value) (h0_1 : Value) (h1 : Nat) (rl : Int32) (rc : Int32) (h0_5 : Value) (ch1 : ClassId) (fh1 : Nat → Int32) (hB_rl : ((0 : Int) ≤ (rl).toInt ∧ (rl).toInt ≤ (96 : Int))) (hB_rc : ((0 : Int) ≤ (rc).toInt ∧ (rc).toInt ≤ (6 : Int))) (hI_h1 : ∀ j : Nat, ((0 : Int) ≤ (fh1 j).toInt ∧ (fh1 j).toInt ≤ (96 : Int))) : Met l yX7_endCause u_s_X7_endCause ({ frames := 0, cells := 0, slots := 0, locals := 0 }) (va_Pc [.ref h0] (z_C (dC, dI) vwCl [(h0, .inr (7, [h0_0, h0_1, .ref h1, .int rl, .int rc, h0_5])), (h1, .inl (ch1, 7, .inl fh1))] [(ch1, .int)] sz)) (va_Qv (fun (_ : Unit) => True) (fun (_ : Unit) (t : State) => ∃ (n_h0_causes : Int32), ∃ (g_h1 : Nat → Int32), ((0 : Int) ≤ (n_h0_causes).toInt ∧ (n_h0_causes).toInt ≤ (6 : Int)) ∧ (∀ j : Nat, ((0 : Int) ≤ (g_h1 j).toInt ∧ (g_h1 j).toInt ≤ (96 : Int))) ∧ va_P (dC, dI) vwCl [(h0, .inr (7, [h0_0, h0_1, .ref h1, .int rl, .int n_h0_causes, h0_5])), (h1, .inl (ch1, 7, .inl g_h1))] t.heap ∧ va_K (dC, dI) vwCl [] t ∧ va_D (va_A [(h0, .inr (7, [h0_0, h0_1, .ref h1, .int rl, .int rc, h0_5])), (h1, .inl (ch1, 7, .inl fh1))] sz) [(h0, .inr (7, [h0_0, h0_1, .ref h1, .int rl, .int n_h0_causes, h0_5])), (h1, .inl (ch1, 7, .inl g_h1))]) (va_A [(h0, .inr (7, [h0_0, h0_1, .ref h1, .int rl, .int rc, h0_5])), (h1, .inl (ch1, 7, .inl fh1))] sz)) 0 0 (va_A [(h0, .inr (7, [h0_0, h0_1, .ref h1, .int rl, .int rc, h0_5])), (h1, .inl (ch1, 7, .inl fh1))] sz) := by
  refine Met.ofW (cc := cX7_endCause) (maxL := 1) (ret := none) (by decide) rfl ?_
  intro p e s m args below meth c s₁ B hml hv
  obtain ⟨rfl, hsz, hP, hK, hD0⟩ := hv
  have hx := B.exec
  have hb := B.bytes
  have hr := B.returns
  have hts := atoms_spec (ws := u_s_X7_endCause) B.pre
  have hown : s.vm.findClass RX7 = some m.cls := findClass_of_methodNamed B.named
  have hlocks := B.notSynchronized
  subst hsz
  have hD := hD0.self (sz := s.heap.size)
  generalize hAe : va_A [(h0, .inr (7, [h0_0, h0_1, .ref h1, .int rl, .int rc, h0_5])), (h1, .inl (ch1, 7, .inl fh1))] s.heap.size = A at hD ⊢
  have hA : ∀ q : Nat, s.heap.size ≤ q → A q := fun q h => by rw [← hAe]; exact Or.inr h
  have hS : va_S A s.heap s.heap [] := va_S.rf
  have hP : va_P (dC, dI) vwCl [(h0, .inr (7, [h0_0, h0_1, .ref h1, .int rl, .int rc, h0_5])), (h1, .inl (ch1, 7, .inl fh1))] s.heap := hP
  have w__fieldLink_RX7_23_ShellHeap_Rules_causes_I_ := hts (.fieldLink RX7 23 "ShellHeap$Rules" "causes" "I") (z_mc (z_ml z_m0))
  have hiX7 := show ∀ w ∈ u_ws RX7 TX7 6, w ∈ u_s_X7_endCause from fun w h => z_mc (z_mr (z_ml h))
  have w__fieldLink_RX7_16_ShellHeap_Rules_begins_I_ := hts (.fieldLink RX7 16 "ShellHeap$Rules" "begins" "[I") (z_mc (z_ml z_m1))
  have w__fieldLink_RX7_19_ShellHeap_Rules_length_I_ := hts (.fieldLink RX7 19 "ShellHeap$Rules" "length" "I") (z_mc (z_ml z_m2))
  have hl := lv_entry ([.ref h0]) (n := 1) (Nat.le_of_ble_eq_true rfl)
  rw [lg_entry_eq]
  generalize (lg_sl ([.ref h0]) ++ List.replicate (1 - (lg_sl ([.ref h0])).length) Slot.unset).toArray = ls at hl ⊢
  have hl : lv_has ls 1 [(0, .ref h0)] := hl
  refine lv_aload_n hx hb dX7_endCause_0 rfl (lv_at hl 0 rfl) ?_
  refine va_get (D := (dC, dI)) (ci := 7) (v := .int rc) (C := RX7) (T := TX7) (N := 6) hx hb hts hiX7 hown hK hP 0 rfl rfl 4 (by decide) w__fieldLink_RX7_23_ShellHeap_Rules_causes_I_ (fun _ h9 => h9) rfl dX7_endCause_1 ?_
  refine lv_bipush (v := 6) hx hb dX7_endCause_4 (by decide) ?_
  refine lv_icmp_ge (tgt := 32) hx hb dX7_endCause_6 (by decide) (fun c_1 => ?_) (fun c_1 => ?_)
  · have k_2 : (6 : Int) ≤ (rc).toInt := z_le c_1
    obtain rfl : rc = 6 := z_eq' (show (rc).toInt = (6 : Int) by omega)
    have hP9 := hP
    have hD9 := hD
    have hK9 := hK.sub (tys' := []) [] rfl
    refine W.widen (k := 0) (n := 0) (Nat.le_of_ble_eq_true rfl) (Nat.le_of_ble_eq_true rfl) ?_
    exact W.vret hx hb hr (fun t ht hW => ⟨⟨(), rfl, trivial, ⟨6, fh1, (by decide), hI_h1, by rw [ht]; exact hP9, va_K.moved hW.alike hK9, hD9⟩⟩, hS.F ht⟩) hS.2.2 dX7_endCause_32
  · have k_4 : (6 : Int) > (rc).toInt := z_nle c_1
    refine lv_aload_n hx hb dX7_endCause_9 rfl (lv_at hl 0 rfl) ?_
    refine lv_dup hx hb dX7_endCause_10 rfl ?_
    refine va_get (D := (dC, dI)) (ci := 7) (v := .int rc) (C := RX7) (T := TX7) (N := 6) hx hb hts hiX7 hown hK hP 0 rfl rfl 4 (by decide) w__fieldLink_RX7_23_ShellHeap_Rules_causes_I_ (fun _ h9 => h9) rfl dX7_endCause_11 ?_
    refine lv_iconst (v := 1) hx hb dX7_endCause_14 (by decide) ?_
    refine lv_iadd hx hb dX7_endCause_15 ?_
    refine lv_topi (fun z_5 ez_5 => ?_)
    have kz_5 : (z_5).toInt = (rc).toInt + (1 : Int) := by rw [ez_5]; exact z_add (a := (rc).toInt) (b := (1 : Int)) rfl rfl (z_al hB_rc.1 (by decide)) (z_ah hB_rc.2 (by decide))
    refine va_put (D := (dC, dI)) (ci := 7) (v := .int z_5) (ty := .int) (C := RX7) (T := TX7) (N := 6) hx hb hts hiX7 tyX7 tyX7_ok nmX7 hown hK hP hD hS 0 rfl rfl 4 (by decide) w__fieldLink_RX7_23_ShellHeap_Rules_causes_I_ (fun _ h9 => h9) rfl (by decide +kernel) rfl rfl (Nat.le_of_ble_eq_true rfl) dX7_endCause_16 (fun H_6 locs hP hD hS => ?_)
    obtain ⟨hP, hD⟩ := z_s_0_4 hP hD
    refine lv_aload_n hx hb dX7_endCause_19 rfl (lv_at hl 0 rfl) ?_
    refine va_get (D := (dC, dI)) (ci := 7) (v := .ref h1) (C := RX7) (T := TX7) (N := 6) hx hb hts hiX7 hown hK hP 0 rfl rfl 2 (by decide) w__fieldLink_RX7_16_ShellHeap_Rules_begins_I_ (fun _ h9 => h9) rfl dX7_endCause_20 ?_
    refine lv_aload_n hx hb dX7_endCause_23 rfl (lv_at hl 0 rfl) ?_
    refine va_get (D := (dC, dI)) (ci := 7) (v := .int z_5) (C := RX7) (T := TX7) (N := 6) hx hb hts hiX7 hown hK hP 0 rfl rfl 4 (by decide) w__fieldLink_RX7_23_ShellHeap_Rules_causes_I_ (fun _ h9 => h9) rfl dX7_endCause_24 ?_
    refine lv_aload_n hx hb dX7_endCause_27 rfl (lv_at hl 0 rfl) ?_
    refine va_get (D := (dC, dI)) (ci := 7) (v := .int rl) (C := RX7) (T := TX7) (N := 6) hx hb hts hiX7 hown hK hP 0 rfl rfl 3 (by decide) w__fieldLink_RX7_19_ShellHeap_Rules_length_I_ (fun _ h9 => h9) rfl dX7_endCause_28 ?_
    refine va_iast hx hb hK hP hD hS 1 0 rfl rfl (z_vpin (by omega) (by omega)) dX7_endCause_31 (fun H_7 locs hP hD hS => ?_)
    obtain ⟨hP, hD⟩ := z_s_1 hP hD
    have hI_f_8 : ∀ j : Nat, ((0 : Int) ≤ ((upd fh1 (z_5 : Int32).toNatClampNeg rl) j).toInt ∧ ((upd fh1 (z_5 : Int32).toNatClampNeg rl) j).toInt ≤ (96 : Int)) := z_updP (P := fun v => ((0 : Int) ≤ (v).toInt ∧ (v).toInt ≤ (96 : Int))) hI_h1 (show ((0 : Int) ≤ (rl).toInt ∧ (rl).toInt ≤ (96 : Int)) from hB_rl)
    generalize (upd fh1 (z_5 : Int32).toNatClampNeg rl) = f_8 at hP hD hI_f_8
    have hP9 := hP
    have hD9 := hD
    have hK9 := hK.sub (tys' := []) [] rfl
    refine W.widen (k := 0) (n := 0) (Nat.le_of_ble_eq_true rfl) (Nat.le_of_ble_eq_true rfl) ?_
    exact W.vret hx hb hr (fun t ht hW => ⟨⟨(), rfl, trivial, ⟨z_5, f_8, (by first | omega | decide), hI_f_8, by rw [ht]; exact hP9, va_K.moved hW.alike hK9, hD9⟩⟩, hS.F ht⟩) hS.2.2 dX7_endCause_32
def u_s_X6_has : List Cond := .code yX6_has cX6_has 1 (some .boolean) :: ([] ++ [])
theorem gd_s_X6_has : z_gd u_s_X6_has := z_gdc (by decide +kernel) (z_gd0)
set_option maxHeartbeats 4000000 in
set_option maxRecDepth 100000 in
theorem s_X6_has (l : Launch) (dC : Nat → ClassId) (dI : Nat → Nat → Nat) (sz : Nat) (p0 : Int32) : Met l yX6_has u_s_X6_has ({ frames := 0, cells := 0, slots := 0, locals := 0 }) (va_Pc [.int p0] (z_C (dC, dI) vwCl [] [] sz)) (va_Qi (fun (r : Int32) (_ : Unit) => (r = 1 ∧ (0 ≤ p0.toInt ∧ p0.toInt < 3)) ∨ (r = 0 ∧ True)) (fun (_ : Unit) (_ : State) => True) (va_A [] sz)) 0 0 (va_A [] sz) := by
  refine Met.ofW (cc := cX6_has) (maxL := 1) (ret := (some .boolean)) (by decide) rfl ?_
  intro p e s m args below meth c s₁ B hml hv
  obtain ⟨rfl, hsz, hP, hK, hD0⟩ := hv
  have hx := B.exec
  have hb := B.bytes
  have hr := B.returns
  have hts := atoms_spec (ws := u_s_X6_has) B.pre
  have hown : s.vm.findClass RX6 = some m.cls := findClass_of_methodNamed B.named
  have hlocks := B.notSynchronized
  subst hsz
  have hD := hD0
  generalize hAe : va_A [] s.heap.size = A
  have hA : ∀ q : Nat, s.heap.size ≤ q → A q := fun q h => by rw [← hAe]; exact Or.inr h
  have hS : va_S A s.heap s.heap [] := va_S.rf
  have hP : va_P (dC, dI) vwCl [] s.heap := hP
  have krr_p0 := z_rng p0
  have hl := lv_entry ([.int p0]) (n := 1) (Nat.le_of_ble_eq_true rfl)
  rw [lg_entry_eq]
  generalize (lg_sl ([.int p0]) ++ List.replicate (1 - (lg_sl ([.int p0])).length) Slot.unset).toArray = ls at hl ⊢
  have hl : lv_has ls 1 [(0, .int p0)] := hl
  refine lv_iload_n hx hb dX6_has_0 rfl (lv_at hl 0 rfl) ?_
  refine lv_if_lt (tgt := 13) hx hb dX6_has_1 (by decide) (fun c_1 => ?_) (fun c_1 => ?_)
  · have k_2 : (p0).toInt < (0 : Int) := z_lt c_1
    refine lv_iconst (v := 0) hx hb dX6_has_13 (by decide) ?_
    refine W.widen (k := 0) (n := 0) (Nat.le_of_ble_eq_true rfl) (Nat.le_of_ble_eq_true rfl) ?_
    exact W.zret (v := 0) hx hb hr (by rfl) (fun t ht hW => ⟨⟨0, (), rfl, (Or.inr (⟨rfl, by first | omega | decide⟩)), trivial⟩, hS.F ht⟩) hS.2.2 dX6_has_14
  · have k_3 : (p0).toInt ≥ (0 : Int) := z_nlt c_1
    refine lv_iload_n hx hb dX6_has_4 rfl (lv_at hl 0 rfl) ?_
    refine lv_iconst (v := 3) hx hb dX6_has_5 (by decide) ?_
    refine lv_icmp_ge (tgt := 13) hx hb dX6_has_6 (by decide) (fun c_4 => ?_) (fun c_4 => ?_)
    · have k_5 : (3 : Int) ≤ (p0).toInt := z_le c_4
      refine lv_iconst (v := 0) hx hb dX6_has_13 (by decide) ?_
      refine W.widen (k := 0) (n := 0) (Nat.le_of_ble_eq_true rfl) (Nat.le_of_ble_eq_true rfl) ?_
      exact W.zret (v := 0) hx hb hr (by rfl) (fun t ht hW => ⟨⟨0, (), rfl, (Or.inr (⟨rfl, by first | omega | decide⟩)), trivial⟩, hS.F ht⟩) hS.2.2 dX6_has_14
    · have k_6 : (3 : Int) > (p0).toInt := z_nle c_4
      refine lv_iconst (v := 1) hx hb dX6_has_9 (by decide) ?_
      refine lv_goto (tgt := 14) hx hb dX6_has_10 (by decide) ?_
      refine W.widen (k := 0) (n := 0) (Nat.le_of_ble_eq_true rfl) (Nat.le_of_ble_eq_true rfl) ?_
      exact W.zret (v := 1) hx hb hr (by rfl) (fun t ht hW => ⟨⟨1, (), rfl, (Or.inl (⟨rfl, by first | omega | decide⟩)), trivial⟩, hS.F ht⟩) hS.2.2 dX6_has_14
def u_s_X6_areWithin : List Cond := .code yX6_areWithin cX6_areWithin 5 (some .boolean) :: ([] ++ [])
theorem gd_s_X6_areWithin : z_gd u_s_X6_areWithin := z_gdc (by decide +kernel) (z_gd0)
set_option maxHeartbeats 4000000 in
set_option maxRecDepth 100000 in
theorem s_X6_areWithin (l : Launch) (dC : Nat → ClassId) (dI : Nat → Nat → Nat) (sz : Nat) (p0 : Int32) (p1 : Int32) (p2 : Int32) (p3 : Int32) (p4 : Int32) : Met l yX6_areWithin u_s_X6_areWithin ({ frames := 0, cells := 0, slots := 0, locals := 0 }) (va_Pc [.int p0, .int p1, .int p2, .int p3, .int p4] (z_C (dC, dI) vwCl [] [] sz)) (va_Qi (fun (r : Int32) (_ : Unit) => (r = 1 ∧ (0 ≤ p1.toInt ∧ p1.toInt ≤ p0.toInt ∧ 0 ≤ p2.toInt ∧ p2.toInt ≤ p0.toInt ∧ 0 ≤ p3.toInt ∧ p3.toInt ≤ p0.toInt ∧ 0 ≤ p4.toInt ∧ p4.toInt ≤ p0.toInt)) ∨ (r = 0 ∧ True)) (fun (_ : Unit) (_ : State) => True) (va_A [] sz)) 0 0 (va_A [] sz) := by
  refine Met.ofW (cc := cX6_areWithin) (maxL := 5) (ret := (some .boolean)) (by decide) rfl ?_
  intro p e s m args below meth c s₁ B hml hv
  obtain ⟨rfl, hsz, hP, hK, hD0⟩ := hv
  have hx := B.exec
  have hb := B.bytes
  have hr := B.returns
  have hts := atoms_spec (ws := u_s_X6_areWithin) B.pre
  have hown : s.vm.findClass RX6 = some m.cls := findClass_of_methodNamed B.named
  have hlocks := B.notSynchronized
  subst hsz
  have hD := hD0
  generalize hAe : va_A [] s.heap.size = A
  have hA : ∀ q : Nat, s.heap.size ≤ q → A q := fun q h => by rw [← hAe]; exact Or.inr h
  have hS : va_S A s.heap s.heap [] := va_S.rf
  have hP : va_P (dC, dI) vwCl [] s.heap := hP
  have krr_p0 := z_rng p0
  have krr_p1 := z_rng p1
  have krr_p2 := z_rng p2
  have krr_p3 := z_rng p3
  have krr_p4 := z_rng p4
  have hl := lv_entry ([.int p0, .int p1, .int p2, .int p3, .int p4]) (n := 5) (Nat.le_of_ble_eq_true rfl)
  rw [lg_entry_eq]
  generalize (lg_sl ([.int p0, .int p1, .int p2, .int p3, .int p4]) ++ List.replicate (5 - (lg_sl ([.int p0, .int p1, .int p2, .int p3, .int p4])).length) Slot.unset).toArray = ls at hl ⊢
  have hl : lv_has ls 5 [(0, .int p0), (1, .int p1), (2, .int p2), (3, .int p3), (4, .int p4)] := hl
  refine lv_iload_n hx hb dX6_areWithin_0 rfl (lv_at hl 1 rfl) ?_
  refine lv_if_lt (tgt := 42) hx hb dX6_areWithin_1 (by decide) (fun c_1 => ?_) (fun c_1 => ?_)
  · have k_2 : (p1).toInt < (0 : Int) := z_lt c_1
    refine lv_iconst (v := 0) hx hb dX6_areWithin_42 (by decide) ?_
    refine W.widen (k := 0) (n := 0) (Nat.le_of_ble_eq_true rfl) (Nat.le_of_ble_eq_true rfl) ?_
    exact W.zret (v := 0) hx hb hr (by rfl) (fun t ht hW => ⟨⟨0, (), rfl, (Or.inr (⟨rfl, by first | omega | decide⟩)), trivial⟩, hS.F ht⟩) hS.2.2 dX6_areWithin_43
  · have k_3 : (p1).toInt ≥ (0 : Int) := z_nlt c_1
    refine lv_iload_n hx hb dX6_areWithin_4 rfl (lv_at hl 1 rfl) ?_
    refine lv_iload_n hx hb dX6_areWithin_5 rfl (lv_at hl 0 rfl) ?_
    refine lv_icmp_gt (tgt := 42) hx hb dX6_areWithin_6 (by decide) (fun c_4 => ?_) (fun c_4 => ?_)
    · have k_5 : (p0).toInt < (p1).toInt := z_lt c_4
      refine lv_iconst (v := 0) hx hb dX6_areWithin_42 (by decide) ?_
      refine W.widen (k := 0) (n := 0) (Nat.le_of_ble_eq_true rfl) (Nat.le_of_ble_eq_true rfl) ?_
      exact W.zret (v := 0) hx hb hr (by rfl) (fun t ht hW => ⟨⟨0, (), rfl, (Or.inr (⟨rfl, by first | omega | decide⟩)), trivial⟩, hS.F ht⟩) hS.2.2 dX6_areWithin_43
    · have k_6 : (p0).toInt ≥ (p1).toInt := z_nlt c_4
      refine lv_iload_n hx hb dX6_areWithin_9 rfl (lv_at hl 2 rfl) ?_
      refine lv_if_lt (tgt := 42) hx hb dX6_areWithin_10 (by decide) (fun c_7 => ?_) (fun c_7 => ?_)
      · have k_8 : (p2).toInt < (0 : Int) := z_lt c_7
        refine lv_iconst (v := 0) hx hb dX6_areWithin_42 (by decide) ?_
        refine W.widen (k := 0) (n := 0) (Nat.le_of_ble_eq_true rfl) (Nat.le_of_ble_eq_true rfl) ?_
        exact W.zret (v := 0) hx hb hr (by rfl) (fun t ht hW => ⟨⟨0, (), rfl, (Or.inr (⟨rfl, by first | omega | decide⟩)), trivial⟩, hS.F ht⟩) hS.2.2 dX6_areWithin_43
      · have k_9 : (p2).toInt ≥ (0 : Int) := z_nlt c_7
        refine lv_iload_n hx hb dX6_areWithin_13 rfl (lv_at hl 2 rfl) ?_
        refine lv_iload_n hx hb dX6_areWithin_14 rfl (lv_at hl 0 rfl) ?_
        refine lv_icmp_gt (tgt := 42) hx hb dX6_areWithin_15 (by decide) (fun c_10 => ?_) (fun c_10 => ?_)
        · have k_11 : (p0).toInt < (p2).toInt := z_lt c_10
          refine lv_iconst (v := 0) hx hb dX6_areWithin_42 (by decide) ?_
          refine W.widen (k := 0) (n := 0) (Nat.le_of_ble_eq_true rfl) (Nat.le_of_ble_eq_true rfl) ?_
          exact W.zret (v := 0) hx hb hr (by rfl) (fun t ht hW => ⟨⟨0, (), rfl, (Or.inr (⟨rfl, by first | omega | decide⟩)), trivial⟩, hS.F ht⟩) hS.2.2 dX6_areWithin_43
        · have k_12 : (p0).toInt ≥ (p2).toInt := z_nlt c_10
          refine lv_iload_n hx hb dX6_areWithin_18 rfl (lv_at hl 3 rfl) ?_
          refine lv_if_lt (tgt := 42) hx hb dX6_areWithin_19 (by decide) (fun c_13 => ?_) (fun c_13 => ?_)
          · have k_14 : (p3).toInt < (0 : Int) := z_lt c_13
            refine lv_iconst (v := 0) hx hb dX6_areWithin_42 (by decide) ?_
            refine W.widen (k := 0) (n := 0) (Nat.le_of_ble_eq_true rfl) (Nat.le_of_ble_eq_true rfl) ?_
            exact W.zret (v := 0) hx hb hr (by rfl) (fun t ht hW => ⟨⟨0, (), rfl, (Or.inr (⟨rfl, by first | omega | decide⟩)), trivial⟩, hS.F ht⟩) hS.2.2 dX6_areWithin_43
          · have k_15 : (p3).toInt ≥ (0 : Int) := z_nlt c_13
            refine lv_iload_n hx hb dX6_areWithin_22 rfl (lv_at hl 3 rfl) ?_
            refine lv_iload_n hx hb dX6_areWithin_23 rfl (lv_at hl 0 rfl) ?_
            refine lv_icmp_gt (tgt := 42) hx hb dX6_areWithin_24 (by decide) (fun c_16 => ?_) (fun c_16 => ?_)
            · have k_17 : (p0).toInt < (p3).toInt := z_lt c_16
              refine lv_iconst (v := 0) hx hb dX6_areWithin_42 (by decide) ?_
              refine W.widen (k := 0) (n := 0) (Nat.le_of_ble_eq_true rfl) (Nat.le_of_ble_eq_true rfl) ?_
              exact W.zret (v := 0) hx hb hr (by rfl) (fun t ht hW => ⟨⟨0, (), rfl, (Or.inr (⟨rfl, by first | omega | decide⟩)), trivial⟩, hS.F ht⟩) hS.2.2 dX6_areWithin_43
            · have k_18 : (p0).toInt ≥ (p3).toInt := z_nlt c_16
              refine lv_iload hx hb dX6_areWithin_27 (lv_at hl 4 rfl) ?_
              refine lv_if_lt (tgt := 42) hx hb dX6_areWithin_29 (by decide) (fun c_19 => ?_) (fun c_19 => ?_)
              · have k_20 : (p4).toInt < (0 : Int) := z_lt c_19
                refine lv_iconst (v := 0) hx hb dX6_areWithin_42 (by decide) ?_
                refine W.widen (k := 0) (n := 0) (Nat.le_of_ble_eq_true rfl) (Nat.le_of_ble_eq_true rfl) ?_
                exact W.zret (v := 0) hx hb hr (by rfl) (fun t ht hW => ⟨⟨0, (), rfl, (Or.inr (⟨rfl, by first | omega | decide⟩)), trivial⟩, hS.F ht⟩) hS.2.2 dX6_areWithin_43
              · have k_21 : (p4).toInt ≥ (0 : Int) := z_nlt c_19
                refine lv_iload hx hb dX6_areWithin_32 (lv_at hl 4 rfl) ?_
                refine lv_iload_n hx hb dX6_areWithin_34 rfl (lv_at hl 0 rfl) ?_
                refine lv_icmp_gt (tgt := 42) hx hb dX6_areWithin_35 (by decide) (fun c_22 => ?_) (fun c_22 => ?_)
                · have k_23 : (p0).toInt < (p4).toInt := z_lt c_22
                  refine lv_iconst (v := 0) hx hb dX6_areWithin_42 (by decide) ?_
                  refine W.widen (k := 0) (n := 0) (Nat.le_of_ble_eq_true rfl) (Nat.le_of_ble_eq_true rfl) ?_
                  exact W.zret (v := 0) hx hb hr (by rfl) (fun t ht hW => ⟨⟨0, (), rfl, (Or.inr (⟨rfl, by first | omega | decide⟩)), trivial⟩, hS.F ht⟩) hS.2.2 dX6_areWithin_43
                · have k_24 : (p0).toInt ≥ (p4).toInt := z_nlt c_22
                  refine lv_iconst (v := 1) hx hb dX6_areWithin_38 (by decide) ?_
                  refine lv_goto (tgt := 43) hx hb dX6_areWithin_39 (by decide) ?_
                  refine W.widen (k := 0) (n := 0) (Nat.le_of_ble_eq_true rfl) (Nat.le_of_ble_eq_true rfl) ?_
                  exact W.zret (v := 1) hx hb hr (by rfl) (fun t ht hW => ⟨⟨1, (), rfl, (Or.inl (⟨rfl, by first | omega | decide⟩)), trivial⟩, hS.F ht⟩) hS.2.2 dX6_areWithin_43
def u_s_X6_setRow : List Cond := .code yX6_setRow cX6_setRow 8 none :: ([.fieldLink RX6 11 "ShellHeap$Readers" "rows" "[I"] ++ (wsX60 ++ []))
theorem gd_s_X6_setRow : z_gd u_s_X6_setRow := z_gdc (by decide +kernel) (z_gda gdX6 (z_gd0))
set_option maxHeartbeats 4000000 in
set_option maxRecDepth 100000 in
theorem s_X6_setRow (l : Launch) (dC : Nat → ClassId) (dI : Nat → Nat → Nat) (sz : Nat) (h0 : Nat) (p1 : Int32) (p2 : Int32) (p3 : Int32) (p4 : Int32) (p5 : Int32) (p6 : Int32) (h1 : Nat) (h0_1 : Value) (h0_2 : Value) (h0_3 : Value) (h0_4 : Value) (h0_5 : Value) (h0_6 : Value) (ch1 : ClassId) (fh1 : Nat → Int32) (hB_p1 : ((0 : Int) ≤ (p1).toInt ∧ (p1).toInt ≤ (2 : Int))) (hB_p2 : ((0 : Int) ≤ (p2).toInt ∧ (p2).toInt ≤ (3 : Int))) : Met l yX6_setRow u_s_X6_setRow ({ frames := 0, cells := 0, slots := 0, locals := 0 }) (va_Pc [.ref h0, .int p1, .int p2, .int p3, .int p4, .int p5, .int p6] (z_C (dC, dI) vwCl [(h0, .inr (6, [.ref h1, h0_1, h0_2, h0_3, h0_4, h0_5, h0_6])), (h1, .inl (ch1, 48, .inl fh1))] [(ch1, .int)] sz)) (va_Qv (fun (_ : Unit) => True) (fun (_ : Unit) (t : State) => ∃ (g_h1 : Nat → Int32), va_P (dC, dI) vwCl [(h0, .inr (6, [.ref h1, h0_1, h0_2, h0_3, h0_4, h0_5, h0_6])), (h1, .inl (ch1, 48, .inl g_h1))] t.heap ∧ va_K (dC, dI) vwCl [] t ∧ va_D (va_A [(h0, .inr (6, [.ref h1, h0_1, h0_2, h0_3, h0_4, h0_5, h0_6])), (h1, .inl (ch1, 48, .inl fh1))] sz) [(h0, .inr (6, [.ref h1, h0_1, h0_2, h0_3, h0_4, h0_5, h0_6])), (h1, .inl (ch1, 48, .inl g_h1))]) (va_A [(h0, .inr (6, [.ref h1, h0_1, h0_2, h0_3, h0_4, h0_5, h0_6])), (h1, .inl (ch1, 48, .inl fh1))] sz)) 0 0 (va_A [(h0, .inr (6, [.ref h1, h0_1, h0_2, h0_3, h0_4, h0_5, h0_6])), (h1, .inl (ch1, 48, .inl fh1))] sz) := by
  refine Met.ofW (cc := cX6_setRow) (maxL := 8) (ret := none) (by decide) rfl ?_
  intro p e s m args below meth c s₁ B hml hv
  obtain ⟨rfl, hsz, hP, hK, hD0⟩ := hv
  have hx := B.exec
  have hb := B.bytes
  have hr := B.returns
  have hts := atoms_spec (ws := u_s_X6_setRow) B.pre
  have hown : s.vm.findClass RX6 = some m.cls := findClass_of_methodNamed B.named
  have hlocks := B.notSynchronized
  subst hsz
  have hD := hD0.self (sz := s.heap.size)
  generalize hAe : va_A [(h0, .inr (6, [.ref h1, h0_1, h0_2, h0_3, h0_4, h0_5, h0_6])), (h1, .inl (ch1, 48, .inl fh1))] s.heap.size = A at hD ⊢
  have hA : ∀ q : Nat, s.heap.size ≤ q → A q := fun q h => by rw [← hAe]; exact Or.inr h
  have hS : va_S A s.heap s.heap [] := va_S.rf
  have hP : va_P (dC, dI) vwCl [(h0, .inr (6, [.ref h1, h0_1, h0_2, h0_3, h0_4, h0_5, h0_6])), (h1, .inl (ch1, 48, .inl fh1))] s.heap := hP
  have w__fieldLink_RX6_11_ShellHeap_Readers_rows_I_ := hts (.fieldLink RX6 11 "ShellHeap$Readers" "rows" "[I") (z_mc (z_ml z_m0))
  have hiX6 := show ∀ w ∈ u_ws RX6 TX6 7, w ∈ u_s_X6_setRow from fun w h => z_mc (z_mr (z_ml h))
  have krr_p3 := z_rng p3
  have krr_p4 := z_rng p4
  have krr_p5 := z_rng p5
  have krr_p6 := z_rng p6
  have hl := lv_entry ([.ref h0, .int p1, .int p2, .int p3, .int p4, .int p5, .int p6]) (n := 8) (Nat.le_of_ble_eq_true rfl)
  rw [lg_entry_eq]
  generalize (lg_sl ([.ref h0, .int p1, .int p2, .int p3, .int p4, .int p5, .int p6]) ++ List.replicate (8 - (lg_sl ([.ref h0, .int p1, .int p2, .int p3, .int p4, .int p5, .int p6])).length) Slot.unset).toArray = ls at hl ⊢
  have hl : lv_has ls 8 [(0, .ref h0), (1, .int p1), (2, .int p2), (3, .int p3), (4, .int p4), (5, .int p5), (6, .int p6)] := hl
  refine lv_iload_n hx hb dX6_setRow_0 rfl (lv_at hl 1 rfl) ?_
  refine lv_iconst (v := 4) hx hb dX6_setRow_1 (by decide) ?_
  refine lv_imul hx hb dX6_setRow_2 ?_
  refine lv_topi (fun z_1 ez_1 => ?_)
  have kz_1 : (z_1).toInt = (p1).toInt * (4 : Int) := by rw [ez_1]; exact z_mul (a := (p1).toInt) (b := (4 : Int)) rfl rfl (by omega) (by omega)
  refine lv_iload_n hx hb dX6_setRow_3 rfl (lv_at hl 2 rfl) ?_
  refine lv_iadd hx hb dX6_setRow_4 ?_
  refine lv_topi (fun z_2 ez_2 => ?_)
  have kz_2 : (z_2).toInt = (z_1).toInt + (p2).toInt := by rw [ez_2]; exact z_add (a := (z_1).toInt) (b := (p2).toInt) rfl rfl (by omega) (by omega)
  refine lv_iconst (v := 4) hx hb dX6_setRow_5 (by decide) ?_
  refine lv_imul hx hb dX6_setRow_6 ?_
  refine lv_topi (fun z_3 ez_3 => ?_)
  have kz_3 : (z_3).toInt = (z_2).toInt * (4 : Int) := by rw [ez_3]; exact z_mul (a := (z_2).toInt) (b := (4 : Int)) rfl rfl (by omega) (by omega)
  refine lv_istore (lv' := [(7, .int z_3), (0, .ref h0), (1, .int p1), (2, .int p2), (3, .int p3), (4, .int p4), (5, .int p5), (6, .int p6)]) hx hb dX6_setRow_7 hl (by decide) rfl (fun ls hl => ?_)
  refine lv_aload_n hx hb dX6_setRow_9 rfl (lv_at hl 1 rfl) ?_
  refine va_get (D := (dC, dI)) (ci := 6) (v := .ref h1) (C := RX6) (T := TX6) (N := 7) hx hb hts hiX6 hown hK hP 0 rfl rfl 0 (by decide) w__fieldLink_RX6_11_ShellHeap_Readers_rows_I_ (fun _ h9 => h9) rfl dX6_setRow_10 ?_
  refine lv_iload hx hb dX6_setRow_13 (lv_at hl 0 rfl) ?_
  refine lv_iload_n hx hb dX6_setRow_15 rfl (lv_at hl 4 rfl) ?_
  refine va_iast hx hb hK hP hD hS 1 0 rfl rfl (z_vpin (by omega) (by omega)) dX6_setRow_16 (fun H_4 locs hP hD hS => ?_)
  obtain ⟨hP, hD⟩ := z_s_1 hP hD
  generalize (upd fh1 (z_3 : Int32).toNatClampNeg p3) = f_5 at hP hD
  refine lv_aload_n hx hb dX6_setRow_17 rfl (lv_at hl 1 rfl) ?_
  refine va_get (D := (dC, dI)) (ci := 6) (v := .ref h1) (C := RX6) (T := TX6) (N := 7) hx hb hts hiX6 hown hK hP 0 rfl rfl 0 (by decide) w__fieldLink_RX6_11_ShellHeap_Readers_rows_I_ (fun _ h9 => h9) rfl dX6_setRow_18 ?_
  refine lv_iload hx hb dX6_setRow_21 (lv_at hl 0 rfl) ?_
  refine lv_iconst (v := 1) hx hb dX6_setRow_23 (by decide) ?_
  refine lv_iadd hx hb dX6_setRow_24 ?_
  refine lv_topi (fun z_6 ez_6 => ?_)
  have kz_6 : (z_6).toInt = (z_3).toInt + (1 : Int) := by rw [ez_6]; exact z_add (a := (z_3).toInt) (b := (1 : Int)) rfl rfl (by omega) (by omega)
  refine lv_iload hx hb dX6_setRow_25 (lv_at hl 5 rfl) ?_
  refine va_iast hx hb hK hP hD hS 1 0 rfl rfl (z_vpin (by omega) (by omega)) dX6_setRow_27 (fun H_7 locs hP hD hS => ?_)
  obtain ⟨hP, hD⟩ := z_s_1 hP hD
  generalize (upd f_5 (z_6 : Int32).toNatClampNeg p4) = f_8 at hP hD
  refine lv_aload_n hx hb dX6_setRow_28 rfl (lv_at hl 1 rfl) ?_
  refine va_get (D := (dC, dI)) (ci := 6) (v := .ref h1) (C := RX6) (T := TX6) (N := 7) hx hb hts hiX6 hown hK hP 0 rfl rfl 0 (by decide) w__fieldLink_RX6_11_ShellHeap_Readers_rows_I_ (fun _ h9 => h9) rfl dX6_setRow_29 ?_
  refine lv_iload hx hb dX6_setRow_32 (lv_at hl 0 rfl) ?_
  refine lv_iconst (v := 2) hx hb dX6_setRow_34 (by decide) ?_
  refine lv_iadd hx hb dX6_setRow_35 ?_
  refine lv_topi (fun z_9 ez_9 => ?_)
  have kz_9 : (z_9).toInt = (z_3).toInt + (2 : Int) := by rw [ez_9]; exact z_add (a := (z_3).toInt) (b := (2 : Int)) rfl rfl (by omega) (by omega)
  refine lv_iload hx hb dX6_setRow_36 (lv_at hl 6 rfl) ?_
  refine va_iast hx hb hK hP hD hS 1 0 rfl rfl (z_vpin (by omega) (by omega)) dX6_setRow_38 (fun H_10 locs hP hD hS => ?_)
  obtain ⟨hP, hD⟩ := z_s_1 hP hD
  generalize (upd f_8 (z_9 : Int32).toNatClampNeg p5) = f_11 at hP hD
  refine lv_aload_n hx hb dX6_setRow_39 rfl (lv_at hl 1 rfl) ?_
  refine va_get (D := (dC, dI)) (ci := 6) (v := .ref h1) (C := RX6) (T := TX6) (N := 7) hx hb hts hiX6 hown hK hP 0 rfl rfl 0 (by decide) w__fieldLink_RX6_11_ShellHeap_Readers_rows_I_ (fun _ h9 => h9) rfl dX6_setRow_40 ?_
  refine lv_iload hx hb dX6_setRow_43 (lv_at hl 0 rfl) ?_
  refine lv_iconst (v := 3) hx hb dX6_setRow_45 (by decide) ?_
  refine lv_iadd hx hb dX6_setRow_46 ?_
  refine lv_topi (fun z_12 ez_12 => ?_)
  have kz_12 : (z_12).toInt = (z_3).toInt + (3 : Int) := by rw [ez_12]; exact z_add (a := (z_3).toInt) (b := (3 : Int)) rfl rfl (by omega) (by omega)
  refine lv_iload hx hb dX6_setRow_47 (lv_at hl 7 rfl) ?_
  refine va_iast hx hb hK hP hD hS 1 0 rfl rfl (z_vpin (by omega) (by omega)) dX6_setRow_49 (fun H_13 locs hP hD hS => ?_)
  obtain ⟨hP, hD⟩ := z_s_1 hP hD
  generalize (upd f_11 (z_12 : Int32).toNatClampNeg p6) = f_14 at hP hD
  have hP9 := hP
  have hD9 := hD
  have hK9 := hK.sub (tys' := []) [] rfl
  refine W.widen (k := 0) (n := 0) (Nat.le_of_ble_eq_true rfl) (Nat.le_of_ble_eq_true rfl) ?_
  exact W.vret hx hb hr (fun t ht hW => ⟨⟨(), rfl, trivial, ⟨f_14, by rw [ht]; exact hP9, va_K.moved hW.alike hK9, hD9⟩⟩, hS.F ht⟩) hS.2.2 dX6_setRow_50
def u_s_X6_tell : List Cond := .code yX6_tell cX6_tell 8 none :: ([.fieldLink RX6 15 "ShellHeap$Readers" "told" "[I"] ++ (wsX60 ++ []))
theorem gd_s_X6_tell : z_gd u_s_X6_tell := z_gdc (by decide +kernel) (z_gda gdX6 (z_gd0))
set_option maxHeartbeats 4000000 in
set_option maxRecDepth 100000 in
theorem s_X6_tell (l : Launch) (dC : Nat → ClassId) (dI : Nat → Nat → Nat) (sz : Nat) (h0 : Nat) (p1 : Int32) (p2 : Int32) (p3 : Int32) (p4 : Int32) (p5 : Int32) (p6 : Int32) (h0_0 : Value) (h1 : Nat) (h0_2 : Value) (h0_3 : Value) (h0_4 : Value) (h0_5 : Value) (h0_6 : Value) (ch1 : ClassId) (fh1 : Nat → Int32) (hB_p1 : ((0 : Int) ≤ (p1).toInt ∧ (p1).toInt ≤ (11 : Int))) (hB_p2 : ((0 : Int) ≤ (p2).toInt ∧ (p2).toInt ≤ (2 : Int))) : Met l yX6_tell u_s_X6_tell ({ frames := 0, cells := 0, slots := 0, locals := 0 }) (va_Pc [.ref h0, .int p1, .int p2, .int p3, .int p4, .int p5, .int p6] (z_C (dC, dI) vwCl [(h0, .inr (6, [h0_0, .ref h1, h0_2, h0_3, h0_4, h0_5, h0_6])), (h1, .inl (ch1, 144, .inl fh1))] [(ch1, .int)] sz)) (va_Qv (fun (_ : Unit) => True) (fun (_ : Unit) (t : State) => ∃ (g_h1 : Nat → Int32), va_P (dC, dI) vwCl [(h0, .inr (6, [h0_0, .ref h1, h0_2, h0_3, h0_4, h0_5, h0_6])), (h1, .inl (ch1, 144, .inl g_h1))] t.heap ∧ va_K (dC, dI) vwCl [] t ∧ va_D (va_A [(h0, .inr (6, [h0_0, .ref h1, h0_2, h0_3, h0_4, h0_5, h0_6])), (h1, .inl (ch1, 144, .inl fh1))] sz) [(h0, .inr (6, [h0_0, .ref h1, h0_2, h0_3, h0_4, h0_5, h0_6])), (h1, .inl (ch1, 144, .inl g_h1))]) (va_A [(h0, .inr (6, [h0_0, .ref h1, h0_2, h0_3, h0_4, h0_5, h0_6])), (h1, .inl (ch1, 144, .inl fh1))] sz)) 0 0 (va_A [(h0, .inr (6, [h0_0, .ref h1, h0_2, h0_3, h0_4, h0_5, h0_6])), (h1, .inl (ch1, 144, .inl fh1))] sz) := by
  refine Met.ofW (cc := cX6_tell) (maxL := 8) (ret := none) (by decide) rfl ?_
  intro p e s m args below meth c s₁ B hml hv
  obtain ⟨rfl, hsz, hP, hK, hD0⟩ := hv
  have hx := B.exec
  have hb := B.bytes
  have hr := B.returns
  have hts := atoms_spec (ws := u_s_X6_tell) B.pre
  have hown : s.vm.findClass RX6 = some m.cls := findClass_of_methodNamed B.named
  have hlocks := B.notSynchronized
  subst hsz
  have hD := hD0.self (sz := s.heap.size)
  generalize hAe : va_A [(h0, .inr (6, [h0_0, .ref h1, h0_2, h0_3, h0_4, h0_5, h0_6])), (h1, .inl (ch1, 144, .inl fh1))] s.heap.size = A at hD ⊢
  have hA : ∀ q : Nat, s.heap.size ≤ q → A q := fun q h => by rw [← hAe]; exact Or.inr h
  have hS : va_S A s.heap s.heap [] := va_S.rf
  have hP : va_P (dC, dI) vwCl [(h0, .inr (6, [h0_0, .ref h1, h0_2, h0_3, h0_4, h0_5, h0_6])), (h1, .inl (ch1, 144, .inl fh1))] s.heap := hP
  have w__fieldLink_RX6_15_ShellHeap_Readers_told_I_ := hts (.fieldLink RX6 15 "ShellHeap$Readers" "told" "[I") (z_mc (z_ml z_m0))
  have hiX6 := show ∀ w ∈ u_ws RX6 TX6 7, w ∈ u_s_X6_tell from fun w h => z_mc (z_mr (z_ml h))
  have krr_p3 := z_rng p3
  have krr_p4 := z_rng p4
  have krr_p5 := z_rng p5
  have krr_p6 := z_rng p6
  have hl := lv_entry ([.ref h0, .int p1, .int p2, .int p3, .int p4, .int p5, .int p6]) (n := 8) (Nat.le_of_ble_eq_true rfl)
  rw [lg_entry_eq]
  generalize (lg_sl ([.ref h0, .int p1, .int p2, .int p3, .int p4, .int p5, .int p6]) ++ List.replicate (8 - (lg_sl ([.ref h0, .int p1, .int p2, .int p3, .int p4, .int p5, .int p6])).length) Slot.unset).toArray = ls at hl ⊢
  have hl : lv_has ls 8 [(0, .ref h0), (1, .int p1), (2, .int p2), (3, .int p3), (4, .int p4), (5, .int p5), (6, .int p6)] := hl
  refine lv_iload_n hx hb dX6_tell_0 rfl (lv_at hl 1 rfl) ?_
  refine lv_iconst (v := 3) hx hb dX6_tell_1 (by decide) ?_
  refine lv_imul hx hb dX6_tell_2 ?_
  refine lv_topi (fun z_1 ez_1 => ?_)
  have kz_1 : (z_1).toInt = (p1).toInt * (3 : Int) := by rw [ez_1]; exact z_mul (a := (p1).toInt) (b := (3 : Int)) rfl rfl (by omega) (by omega)
  refine lv_iload_n hx hb dX6_tell_3 rfl (lv_at hl 2 rfl) ?_
  refine lv_iadd hx hb dX6_tell_4 ?_
  refine lv_topi (fun z_2 ez_2 => ?_)
  have kz_2 : (z_2).toInt = (z_1).toInt + (p2).toInt := by rw [ez_2]; exact z_add (a := (z_1).toInt) (b := (p2).toInt) rfl rfl (by omega) (by omega)
  refine lv_iconst (v := 4) hx hb dX6_tell_5 (by decide) ?_
  refine lv_imul hx hb dX6_tell_6 ?_
  refine lv_topi (fun z_3 ez_3 => ?_)
  have kz_3 : (z_3).toInt = (z_2).toInt * (4 : Int) := by rw [ez_3]; exact z_mul (a := (z_2).toInt) (b := (4 : Int)) rfl rfl (by omega) (by omega)
  refine lv_istore (lv' := [(7, .int z_3), (0, .ref h0), (1, .int p1), (2, .int p2), (3, .int p3), (4, .int p4), (5, .int p5), (6, .int p6)]) hx hb dX6_tell_7 hl (by decide) rfl (fun ls hl => ?_)
  refine lv_aload_n hx hb dX6_tell_9 rfl (lv_at hl 1 rfl) ?_
  refine va_get (D := (dC, dI)) (ci := 6) (v := .ref h1) (C := RX6) (T := TX6) (N := 7) hx hb hts hiX6 hown hK hP 0 rfl rfl 1 (by decide) w__fieldLink_RX6_15_ShellHeap_Readers_told_I_ (fun _ h9 => h9) rfl dX6_tell_10 ?_
  refine lv_iload hx hb dX6_tell_13 (lv_at hl 0 rfl) ?_
  refine lv_dup2_11 hx hb dX6_tell_15 rfl rfl ?_
  refine va_iald hx hb hK hP 1 0 rfl rfl (z_vpin (by omega) (by omega)) dX6_tell_16 ?_
  refine lv_topi (fun z_4 ez_4 => ?_)
  refine lv_iload_n hx hb dX6_tell_17 rfl (lv_at hl 4 rfl) ?_
  refine lv_iadd hx hb dX6_tell_18 ?_
  refine lv_topi (fun z_5 ez_5 => ?_)
  refine va_iast hx hb hK hP hD hS 1 0 rfl rfl (z_vpin (by omega) (by omega)) dX6_tell_19 (fun H_6 locs hP hD hS => ?_)
  obtain ⟨hP, hD⟩ := z_s_1 hP hD
  generalize (upd fh1 (z_3 : Int32).toNatClampNeg z_5) = f_7 at hP hD
  refine lv_aload_n hx hb dX6_tell_20 rfl (lv_at hl 1 rfl) ?_
  refine va_get (D := (dC, dI)) (ci := 6) (v := .ref h1) (C := RX6) (T := TX6) (N := 7) hx hb hts hiX6 hown hK hP 0 rfl rfl 1 (by decide) w__fieldLink_RX6_15_ShellHeap_Readers_told_I_ (fun _ h9 => h9) rfl dX6_tell_21 ?_
  refine lv_iload hx hb dX6_tell_24 (lv_at hl 0 rfl) ?_
  refine lv_iconst (v := 1) hx hb dX6_tell_26 (by decide) ?_
  refine lv_iadd hx hb dX6_tell_27 ?_
  refine lv_topi (fun z_8 ez_8 => ?_)
  have kz_8 : (z_8).toInt = (z_3).toInt + (1 : Int) := by rw [ez_8]; exact z_add (a := (z_3).toInt) (b := (1 : Int)) rfl rfl (by omega) (by omega)
  refine lv_dup2_11 hx hb dX6_tell_28 rfl rfl ?_
  refine va_iald hx hb hK hP 1 0 rfl rfl (z_vpin (by omega) (by omega)) dX6_tell_29 ?_
  refine lv_topi (fun z_9 ez_9 => ?_)
  refine lv_iload hx hb dX6_tell_30 (lv_at hl 5 rfl) ?_
  refine lv_iadd hx hb dX6_tell_32 ?_
  refine lv_topi (fun z_10 ez_10 => ?_)
  refine va_iast hx hb hK hP hD hS 1 0 rfl rfl (z_vpin (by omega) (by omega)) dX6_tell_33 (fun H_11 locs hP hD hS => ?_)
  obtain ⟨hP, hD⟩ := z_s_1 hP hD
  generalize (upd f_7 (z_8 : Int32).toNatClampNeg z_10) = f_12 at hP hD
  refine lv_aload_n hx hb dX6_tell_34 rfl (lv_at hl 1 rfl) ?_
  refine va_get (D := (dC, dI)) (ci := 6) (v := .ref h1) (C := RX6) (T := TX6) (N := 7) hx hb hts hiX6 hown hK hP 0 rfl rfl 1 (by decide) w__fieldLink_RX6_15_ShellHeap_Readers_told_I_ (fun _ h9 => h9) rfl dX6_tell_35 ?_
  refine lv_iload hx hb dX6_tell_38 (lv_at hl 0 rfl) ?_
  refine lv_iconst (v := 2) hx hb dX6_tell_40 (by decide) ?_
  refine lv_iadd hx hb dX6_tell_41 ?_
  refine lv_topi (fun z_13 ez_13 => ?_)
  have kz_13 : (z_13).toInt = (z_3).toInt + (2 : Int) := by rw [ez_13]; exact z_add (a := (z_3).toInt) (b := (2 : Int)) rfl rfl (by omega) (by omega)
  refine lv_dup2_11 hx hb dX6_tell_42 rfl rfl ?_
  refine va_iald hx hb hK hP 1 0 rfl rfl (z_vpin (by omega) (by omega)) dX6_tell_43 ?_
  refine lv_topi (fun z_14 ez_14 => ?_)
  refine lv_iload hx hb dX6_tell_44 (lv_at hl 6 rfl) ?_
  refine lv_iadd hx hb dX6_tell_46 ?_
  refine lv_topi (fun z_15 ez_15 => ?_)
  refine va_iast hx hb hK hP hD hS 1 0 rfl rfl (z_vpin (by omega) (by omega)) dX6_tell_47 (fun H_16 locs hP hD hS => ?_)
  obtain ⟨hP, hD⟩ := z_s_1 hP hD
  generalize (upd f_12 (z_13 : Int32).toNatClampNeg z_15) = f_17 at hP hD
  refine lv_aload_n hx hb dX6_tell_48 rfl (lv_at hl 1 rfl) ?_
  refine va_get (D := (dC, dI)) (ci := 6) (v := .ref h1) (C := RX6) (T := TX6) (N := 7) hx hb hts hiX6 hown hK hP 0 rfl rfl 1 (by decide) w__fieldLink_RX6_15_ShellHeap_Readers_told_I_ (fun _ h9 => h9) rfl dX6_tell_49 ?_
  refine lv_iload hx hb dX6_tell_52 (lv_at hl 0 rfl) ?_
  refine lv_iconst (v := 3) hx hb dX6_tell_54 (by decide) ?_
  refine lv_iadd hx hb dX6_tell_55 ?_
  refine lv_topi (fun z_18 ez_18 => ?_)
  have kz_18 : (z_18).toInt = (z_3).toInt + (3 : Int) := by rw [ez_18]; exact z_add (a := (z_3).toInt) (b := (3 : Int)) rfl rfl (by omega) (by omega)
  refine lv_dup2_11 hx hb dX6_tell_56 rfl rfl ?_
  refine va_iald hx hb hK hP 1 0 rfl rfl (z_vpin (by omega) (by omega)) dX6_tell_57 ?_
  refine lv_topi (fun z_19 ez_19 => ?_)
  refine lv_iload hx hb dX6_tell_58 (lv_at hl 7 rfl) ?_
  refine lv_iadd hx hb dX6_tell_60 ?_
  refine lv_topi (fun z_20 ez_20 => ?_)
  refine va_iast hx hb hK hP hD hS 1 0 rfl rfl (z_vpin (by omega) (by omega)) dX6_tell_61 (fun H_21 locs hP hD hS => ?_)
  obtain ⟨hP, hD⟩ := z_s_1 hP hD
  generalize (upd f_17 (z_18 : Int32).toNatClampNeg z_20) = f_22 at hP hD
  have hP9 := hP
  have hD9 := hD
  have hK9 := hK.sub (tys' := []) [] rfl
  refine W.widen (k := 0) (n := 0) (Nat.le_of_ble_eq_true rfl) (Nat.le_of_ble_eq_true rfl) ?_
  exact W.vret hx hb hr (fun t ht hW => ⟨⟨(), rfl, trivial, ⟨f_22, by rw [ht]; exact hP9, va_K.moved hW.alike hK9, hD9⟩⟩, hS.F ht⟩) hS.2.2 dX6_tell_62
def u_s_X6_sum : List Cond := .code yX6_sum cX6_sum 6 (some .int) :: ([.fieldLink RX6 18 "ShellHeap$Readers" "ofBed" "[I", .fieldLink RX6 15 "ShellHeap$Readers" "told" "[I"] ++ (wsX60 ++ []))
theorem gd_s_X6_sum : z_gd u_s_X6_sum := z_gdc (by decide +kernel) (z_gda gdX6 (z_gd0))
set_option maxHeartbeats 4000000 in
set_option maxRecDepth 100000 in
theorem s_X6_sum (l : Launch) (dC : Nat → ClassId) (dI : Nat → Nat → Nat) (sz : Nat) (h0 : Nat) (p1 : Int32) (p2 : Int32) (h0_0 : Value) (h1 : Nat) (h2 : Nat) (h0_3 : Value) (h0_4 : Value) (h0_5 : Value) (h0_6 : Value) (ch1 : ClassId) (fh1 : Nat → Int32) (ch2 : ClassId) (fh2 : Nat → Int32) (hB_p2 : ((0 : Int) ≤ (p2).toInt ∧ (p2).toInt ≤ (2 : Int))) : Met l yX6_sum u_s_X6_sum ({ frames := 0, cells := 0, slots := 0, locals := 0 }) (va_Pc [.ref h0, .int p1, .int p2] (z_C (dC, dI) vwCl [(h0, .inr (6, [h0_0, .ref h1, .ref h2, h0_3, h0_4, h0_5, h0_6])), (h1, .inl (ch1, 144, .inl fh1)), (h2, .inl (ch2, 4, .inl fh2))] [(ch1, .int), (ch2, .int)] sz)) (va_Qi (fun (r : Int32) (_ : Unit) => True) (fun (_ : Unit) (t : State) => ∃ (g_h2 : Nat → Int32), va_P (dC, dI) vwCl [(h0, .inr (6, [h0_0, .ref h1, .ref h2, h0_3, h0_4, h0_5, h0_6])), (h1, .inl (ch1, 144, .inl fh1)), (h2, .inl (ch2, 4, .inl g_h2))] t.heap ∧ va_K (dC, dI) vwCl [] t ∧ va_D (va_A [(h0, .inr (6, [h0_0, .ref h1, .ref h2, h0_3, h0_4, h0_5, h0_6])), (h1, .inl (ch1, 144, .inl fh1)), (h2, .inl (ch2, 4, .inl fh2))] sz) [(h0, .inr (6, [h0_0, .ref h1, .ref h2, h0_3, h0_4, h0_5, h0_6])), (h1, .inl (ch1, 144, .inl fh1)), (h2, .inl (ch2, 4, .inl g_h2))]) (va_A [(h0, .inr (6, [h0_0, .ref h1, .ref h2, h0_3, h0_4, h0_5, h0_6])), (h1, .inl (ch1, 144, .inl fh1)), (h2, .inl (ch2, 4, .inl fh2))] sz)) 0 0 (va_A [(h0, .inr (6, [h0_0, .ref h1, .ref h2, h0_3, h0_4, h0_5, h0_6])), (h1, .inl (ch1, 144, .inl fh1)), (h2, .inl (ch2, 4, .inl fh2))] sz) := by
  refine Met.ofW (cc := cX6_sum) (maxL := 6) (ret := (some .int)) (by decide) rfl ?_
  intro p e s m args below meth c s₁ B hml hv
  obtain ⟨rfl, hsz, hP, hK, hD0⟩ := hv
  have hx := B.exec
  have hb := B.bytes
  have hr := B.returns
  have hts := atoms_spec (ws := u_s_X6_sum) B.pre
  have hown : s.vm.findClass RX6 = some m.cls := findClass_of_methodNamed B.named
  have hlocks := B.notSynchronized
  subst hsz
  have hD := hD0.self (sz := s.heap.size)
  generalize hAe : va_A [(h0, .inr (6, [h0_0, .ref h1, .ref h2, h0_3, h0_4, h0_5, h0_6])), (h1, .inl (ch1, 144, .inl fh1)), (h2, .inl (ch2, 4, .inl fh2))] s.heap.size = A at hD ⊢
  have hA : ∀ q : Nat, s.heap.size ≤ q → A q := fun q h => by rw [← hAe]; exact Or.inr h
  have hS : va_S A s.heap s.heap [] := va_S.rf
  have hP : va_P (dC, dI) vwCl [(h0, .inr (6, [h0_0, .ref h1, .ref h2, h0_3, h0_4, h0_5, h0_6])), (h1, .inl (ch1, 144, .inl fh1)), (h2, .inl (ch2, 4, .inl fh2))] s.heap := hP
  have w__fieldLink_RX6_18_ShellHeap_Readers_ofBed_I_ := hts (.fieldLink RX6 18 "ShellHeap$Readers" "ofBed" "[I") (z_mc (z_ml z_m0))
  have hiX6 := show ∀ w ∈ u_ws RX6 TX6 7, w ∈ u_s_X6_sum from fun w h => z_mc (z_mr (z_ml h))
  have w__fieldLink_RX6_15_ShellHeap_Readers_told_I_ := hts (.fieldLink RX6 15 "ShellHeap$Readers" "told" "[I") (z_mc (z_ml z_m1))
  have krr_p1 := z_rng p1
  have hl := lv_entry ([.ref h0, .int p1, .int p2]) (n := 6) (Nat.le_of_ble_eq_true rfl)
  rw [lg_entry_eq]
  generalize (lg_sl ([.ref h0, .int p1, .int p2]) ++ List.replicate (6 - (lg_sl ([.ref h0, .int p1, .int p2])).length) Slot.unset).toArray = ls at hl ⊢
  have hl : lv_has ls 6 [(0, .ref h0), (1, .int p1), (2, .int p2)] := hl
  refine z_nameQ (fun QQ hQQ => ?_)
  refine lv_iconst (v := 0) hx hb dX6_sum_0 (by decide) ?_
  refine lv_istore_n (lv' := [(3, .int 0), (0, .ref h0), (1, .int p1), (2, .int p2)]) hx hb dX6_sum_1 rfl hl (by decide) rfl (fun ls hl => ?_)
  refine lv_iconst (v := 0) hx hb dX6_sum_2 (by decide) ?_
  refine lv_istore (lv' := [(4, .int 0), (3, .int 0), (0, .ref h0), (1, .int p1), (2, .int p2)]) hx hb dX6_sum_3 hl (by decide) rfl (fun ls hl => ?_)
  have loop_1 : ∀ (n_2 : Nat) (i_4 : Int32) (n_5 : Int32) (f_6 : Nat → Int32) (H : Heap) (locs : List Loc) (ls : Array Slot), (5 - (i_4).toInt).toNat < n_2 → (((0 : Int) ≤ (i_4).toInt ∧ (i_4).toInt ≤ (4 : Int))) → va_P (dC, dI) vwCl [(h0, .inr (6, [h0_0, .ref h1, .ref h2, h0_3, h0_4, h0_5, h0_6])), (h1, .inl (ch1, 144, .inl fh1)), (h2, .inl (ch2, 4, .inl f_6))] H → va_D A [(h0, .inr (6, [h0_0, .ref h1, .ref h2, h0_3, h0_4, h0_5, h0_6])), (h1, .inl (ch1, 144, .inl fh1)), (h2, .inl (ch2, 4, .inl f_6))] → va_S A s.heap H locs → lv_has ls 6 [(4, .int i_4), (3, .int n_5), (0, .ref h0), (1, .int p1), (2, .int p2)] → W p l e ({ frames := 0, cells := 0, slots := 0, locals := 0 } : Room) s m ([.ref h0, .int p1, .int p2] : List Value).toArray below meth c H locs 0 0 QQ (F0 m 5 ls []) := by
    intro n_2
    induction n_2 with
    | zero => intro i_4 n_5 f_6 H locs ls hm; exact absurd hm (Nat.not_lt_zero _)
    | succ n_2 ih_3 =>
      intro i_4 n_5 f_6 H locs ls hm hF_7 hP hD hS hl
      refine lv_iload hx hb dX6_sum_5 (lv_at hl 0 rfl) ?_
      refine lv_iconst (v := 4) hx hb dX6_sum_7 (by decide) ?_
      refine lv_icmp_ge (tgt := 86) hx hb dX6_sum_8 (by decide) (fun c_8 => ?_) (fun c_8 => ?_)
      · have k_9 : (4 : Int) ≤ (i_4).toInt := z_le c_8
        obtain rfl : i_4 = 4 := z_eq' (show (i_4).toInt = (4 : Int) by omega)
        refine lv_iload_n hx hb dX6_sum_86 rfl (lv_at hl 1 rfl) ?_
        refine z_backQ hQQ ?_
        have hP9 := hP
        have hD9 := hD
        have hK9 := hK.sub (tys' := []) [] rfl
        refine W.widen (k := 0) (n := 0) (Nat.le_of_ble_eq_true rfl) (Nat.le_of_ble_eq_true rfl) ?_
        exact W.iret (v := n_5) hx hb hr (fun t ht hW => ⟨⟨n_5, (), rfl, trivial, ⟨f_6, by rw [ht]; exact hP9, va_K.moved hW.alike hK9, hD9⟩⟩, hS.F ht⟩) hS.2.2 dX6_sum_87
      · have k_11 : (4 : Int) > (i_4).toInt := z_nle c_8
        refine lv_aload_n hx hb dX6_sum_11 rfl (lv_at hl 2 rfl) ?_
        refine va_get (D := (dC, dI)) (ci := 6) (v := .ref h2) (C := RX6) (T := TX6) (N := 7) hx hb hts hiX6 hown hK hP 0 rfl rfl 2 (by decide) w__fieldLink_RX6_18_ShellHeap_Readers_ofBed_I_ (fun _ h9 => h9) rfl dX6_sum_12 ?_
        refine lv_iload hx hb dX6_sum_15 (lv_at hl 0 rfl) ?_
        refine lv_iconst (v := 0) hx hb dX6_sum_17 (by decide) ?_
        refine va_iast hx hb hK hP hD hS 2 1 rfl rfl (z_vpin (by omega) (by omega)) dX6_sum_18 (fun H_12 locs hP hD hS => ?_)
        obtain ⟨hP, hD⟩ := z_s_2 hP hD
        generalize (upd f_6 (i_4 : Int32).toNatClampNeg 0) = f_13 at hP hD
        refine lv_iconst (v := 0) hx hb dX6_sum_19 (by decide) ?_
        refine lv_istore (lv' := [(5, .int 0), (4, .int i_4), (3, .int n_5), (0, .ref h0), (1, .int p1), (2, .int p2)]) hx hb dX6_sum_20 hl (by decide) rfl (fun ls hl => ?_)
        have loop_14 : ∀ (n_15 : Nat) (i_17 : Int32) (f_18 : Nat → Int32) (H : Heap) (locs : List Loc) (ls : Array Slot), (13 - (i_17).toInt).toNat < n_15 → (((0 : Int) ≤ (i_17).toInt ∧ (i_17).toInt ≤ (12 : Int))) → va_P (dC, dI) vwCl [(h0, .inr (6, [h0_0, .ref h1, .ref h2, h0_3, h0_4, h0_5, h0_6])), (h1, .inl (ch1, 144, .inl fh1)), (h2, .inl (ch2, 4, .inl f_18))] H → va_D A [(h0, .inr (6, [h0_0, .ref h1, .ref h2, h0_3, h0_4, h0_5, h0_6])), (h1, .inl (ch1, 144, .inl fh1)), (h2, .inl (ch2, 4, .inl f_18))] → va_S A s.heap H locs → lv_has ls 6 [(5, .int i_17), (4, .int i_4), (3, .int n_5), (0, .ref h0), (1, .int p1), (2, .int p2)] → W p l e ({ frames := 0, cells := 0, slots := 0, locals := 0 } : Room) s m ([.ref h0, .int p1, .int p2] : List Value).toArray below meth c H locs 0 0 QQ (F0 m 22 ls []) := by
          intro n_15
          induction n_15 with
          | zero => intro i_17 f_18 H locs ls hm; exact absurd hm (Nat.not_lt_zero _)
          | succ n_15 ih_16 =>
            intro i_17 f_18 H locs ls hm hF_19 hP hD hS hl
            refine lv_iload hx hb dX6_sum_22 (lv_at hl 0 rfl) ?_
            refine lv_bipush (v := 12) hx hb dX6_sum_24 (by decide) ?_
            refine lv_icmp_ge (tgt := 70) hx hb dX6_sum_26 (by decide) (fun c_20 => ?_) (fun c_20 => ?_)
            · have k_21 : (12 : Int) ≤ (i_17).toInt := z_le c_20
              obtain rfl : i_17 = 12 := z_eq' (show (i_17).toInt = (12 : Int) by omega)
              refine lv_iload_n hx hb dX6_sum_70 rfl (lv_at hl 2 rfl) ?_
              refine lv_aload_n hx hb dX6_sum_71 rfl (lv_at hl 3 rfl) ?_
              refine va_get (D := (dC, dI)) (ci := 6) (v := .ref h2) (C := RX6) (T := TX6) (N := 7) hx hb hts hiX6 hown hK hP 0 rfl rfl 2 (by decide) w__fieldLink_RX6_18_ShellHeap_Readers_ofBed_I_ (fun _ h9 => h9) rfl dX6_sum_72 ?_
              refine lv_iload hx hb dX6_sum_75 (lv_at hl 1 rfl) ?_
              refine va_iald hx hb hK hP 2 1 rfl rfl (z_vpin (by omega) (by omega)) dX6_sum_77 ?_
              refine lv_topi (fun z_23 ez_23 => ?_)
              refine lv_iadd hx hb dX6_sum_78 ?_
              refine lv_topi (fun z_24 ez_24 => ?_)
              refine lv_istore_n (lv' := [(3, .int z_24), (5, .int 12), (4, .int i_4), (0, .ref h0), (1, .int p1), (2, .int p2)]) hx hb dX6_sum_79 rfl hl (by decide) rfl (fun ls hl => ?_)
              obtain ⟨z_25, ez_25⟩ : ∃ y : Int32, y = i_4 + 1 := ⟨_, rfl⟩
              have kz_25 : (z_25).toInt = (i_4).toInt + (1 : Int) := by rw [ez_25]; exact z_add (b := 1) rfl rfl (z_al hF_7.1 (by decide)) (z_ah hF_7.2 (by decide))
              refine lv_iinc (v := z_25) (lv' := [(4, .int z_25), (3, .int z_24), (5, .int 12), (0, .ref h0), (1, .int p1), (2, .int p2)]) hx hb dX6_sum_80 hl (k := 2) rfl (by rw [ez_25]; rfl) (by decide) rfl (fun ls hl => ?_)
              refine lv_goto (tgt := 5) hx hb dX6_sum_83 (by decide) ?_
              exact ih_3 z_25 z_24 f_18 _ _ _ (show (5 - (z_25).toInt).toNat < n_2 by omega) (show ((0 : Int) ≤ (z_25).toInt ∧ (z_25).toInt ≤ (4 : Int)) by omega) hP hD hS (lv_sub hl [0, 1, 3, 4, 5] rfl)
            · have k_26 : (12 : Int) > (i_17).toInt := z_nle c_20
              refine lv_iload_n hx hb dX6_sum_29 rfl (lv_at hl 4 rfl) ?_
              refine lv_iload hx hb dX6_sum_30 (lv_at hl 0 rfl) ?_
              refine lv_ishr hx hb dX6_sum_32 ?_
              refine lv_topi (fun z_27 ez_27 => ?_)
              refine lv_iconst (v := 1) hx hb dX6_sum_33 (by decide) ?_
              refine lv_iand hx hb dX6_sum_34 ?_
              refine lv_topi (fun z_28 ez_28 => ?_)
              have kz_28 : (0 : Int) ≤ (z_28).toInt ∧ (z_28).toInt ≤ (1 : Int) := by rw [ez_28]; exact z_and _ 1 (by decide) (by decide)
              refine lv_if_eq (tgt := 64) hx hb dX6_sum_35 (by decide) (fun c_29 => ?_) (fun c_29 => ?_)
              · have k_30 : (z_28).toInt = (0 : Int) := z_eq c_29
                obtain rfl : z_28 = 0 := z_eq' (show (z_28).toInt = (0 : Int) by omega)
                obtain ⟨z_32, ez_32⟩ : ∃ y : Int32, y = i_17 + 1 := ⟨_, rfl⟩
                have kz_32 : (z_32).toInt = (i_17).toInt + (1 : Int) := by rw [ez_32]; exact z_add (b := 1) rfl rfl (z_al hF_19.1 (by decide)) (z_ah hF_19.2 (by decide))
                refine lv_iinc (v := z_32) (lv' := [(5, .int z_32), (4, .int i_4), (3, .int n_5), (0, .ref h0), (1, .int p1), (2, .int p2)]) hx hb dX6_sum_64 hl (k := 0) rfl (by rw [ez_32]; rfl) (by decide) rfl (fun ls hl => ?_)
                refine lv_goto (tgt := 22) hx hb dX6_sum_67 (by decide) ?_
                exact ih_16 z_32 f_18 _ _ _ (show (13 - (z_32).toInt).toNat < n_15 by omega) (show ((0 : Int) ≤ (z_32).toInt ∧ (z_32).toInt ≤ (12 : Int)) by omega) hP hD hS (lv_sub hl [0, 1, 2, 3, 4, 5] rfl)
              · have k_33 : (z_28).toInt ≠ (0 : Int) := z_ne c_29
                obtain rfl : z_28 = 1 := z_eq' (show (z_28).toInt = (1 : Int) by omega)
                refine lv_aload_n hx hb dX6_sum_38 rfl (lv_at hl 3 rfl) ?_
                refine va_get (D := (dC, dI)) (ci := 6) (v := .ref h2) (C := RX6) (T := TX6) (N := 7) hx hb hts hiX6 hown hK hP 0 rfl rfl 2 (by decide) w__fieldLink_RX6_18_ShellHeap_Readers_ofBed_I_ (fun _ h9 => h9) rfl dX6_sum_39 ?_
                refine lv_iload hx hb dX6_sum_42 (lv_at hl 1 rfl) ?_
                refine lv_dup2_11 hx hb dX6_sum_44 rfl rfl ?_
                refine va_iald hx hb hK hP 2 1 rfl rfl (z_vpin (by omega) (by omega)) dX6_sum_45 ?_
                refine lv_topi (fun z_35 ez_35 => ?_)
                refine lv_aload_n hx hb dX6_sum_46 rfl (lv_at hl 3 rfl) ?_
                refine va_get (D := (dC, dI)) (ci := 6) (v := .ref h1) (C := RX6) (T := TX6) (N := 7) hx hb hts hiX6 hown hK hP 0 rfl rfl 1 (by decide) w__fieldLink_RX6_15_ShellHeap_Readers_told_I_ (fun _ h9 => h9) rfl dX6_sum_47 ?_
                refine lv_iload hx hb dX6_sum_50 (lv_at hl 0 rfl) ?_
                refine lv_iconst (v := 3) hx hb dX6_sum_52 (by decide) ?_
                refine lv_imul hx hb dX6_sum_53 ?_
                refine lv_topi (fun z_36 ez_36 => ?_)
                have kz_36 : (z_36).toInt = (i_17).toInt * (3 : Int) := by rw [ez_36]; exact z_mul (a := (i_17).toInt) (b := (3 : Int)) rfl rfl (by omega) (by omega)
                refine lv_iload_n hx hb dX6_sum_54 rfl (lv_at hl 5 rfl) ?_
                refine lv_iadd hx hb dX6_sum_55 ?_
                refine lv_topi (fun z_37 ez_37 => ?_)
                have kz_37 : (z_37).toInt = (z_36).toInt + (p2).toInt := by rw [ez_37]; exact z_add (a := (z_36).toInt) (b := (p2).toInt) rfl rfl (by omega) (by omega)
                refine lv_iconst (v := 4) hx hb dX6_sum_56 (by decide) ?_
                refine lv_imul hx hb dX6_sum_57 ?_
                refine lv_topi (fun z_38 ez_38 => ?_)
                have kz_38 : (z_38).toInt = (z_37).toInt * (4 : Int) := by rw [ez_38]; exact z_mul (a := (z_37).toInt) (b := (4 : Int)) rfl rfl (by omega) (by omega)
                refine lv_iload hx hb dX6_sum_58 (lv_at hl 1 rfl) ?_
                refine lv_iadd hx hb dX6_sum_60 ?_
                refine lv_topi (fun z_39 ez_39 => ?_)
                have kz_39 : (z_39).toInt = (z_38).toInt + (i_4).toInt := by rw [ez_39]; exact z_add (a := (z_38).toInt) (b := (i_4).toInt) rfl rfl (by omega) (by omega)
                refine va_iald hx hb hK hP 1 0 rfl rfl (z_vpin (by omega) (by omega)) dX6_sum_61 ?_
                refine lv_topi (fun z_40 ez_40 => ?_)
                refine lv_iadd hx hb dX6_sum_62 ?_
                refine lv_topi (fun z_41 ez_41 => ?_)
                refine va_iast hx hb hK hP hD hS 2 1 rfl rfl (z_vpin (by omega) (by omega)) dX6_sum_63 (fun H_42 locs hP hD hS => ?_)
                obtain ⟨hP, hD⟩ := z_s_2 hP hD
                generalize (upd f_18 (i_4 : Int32).toNatClampNeg z_41) = f_43 at hP hD
                obtain ⟨z_44, ez_44⟩ : ∃ y : Int32, y = i_17 + 1 := ⟨_, rfl⟩
                have kz_44 : (z_44).toInt = (i_17).toInt + (1 : Int) := by rw [ez_44]; exact z_add (b := 1) rfl rfl (z_al hF_19.1 (by decide)) (z_ah hF_19.2 (by decide))
                refine lv_iinc (v := z_44) (lv' := [(5, .int z_44), (4, .int i_4), (3, .int n_5), (0, .ref h0), (1, .int p1), (2, .int p2)]) hx hb dX6_sum_64 hl (k := 0) rfl (by rw [ez_44]; rfl) (by decide) rfl (fun ls hl => ?_)
                refine lv_goto (tgt := 22) hx hb dX6_sum_67 (by decide) ?_
                exact ih_16 z_44 f_43 _ _ _ (show (13 - (z_44).toInt).toNat < n_15 by omega) (show ((0 : Int) ≤ (z_44).toInt ∧ (z_44).toInt ≤ (12 : Int)) by omega) hP hD hS (lv_sub hl [0, 1, 2, 3, 4, 5] rfl)
        exact loop_14 _ 0 f_13 _ _ _ (Nat.lt_succ_self _) (show ((0 : Int) ≤ (0 : Int) ∧ (0 : Int) ≤ (12 : Int)) by omega) hP hD hS hl
  exact loop_1 _ 0 0 fh2 _ _ _ (Nat.lt_succ_self _) (show ((0 : Int) ≤ (0 : Int) ∧ (0 : Int) ≤ (4 : Int)) by omega) hP hD hS hl
def u_s_X6_missAt : List Cond := .code yX6_missAt cX6_missAt 5 (some .int) :: ([.fieldLink RX6 21 "ShellHeap$Readers" "gaps" "[I", .fieldLink RX6 24 "ShellHeap$Readers" "steps" "[I"] ++ (wsX60 ++ []))
theorem gd_s_X6_missAt : z_gd u_s_X6_missAt := z_gdc (by decide +kernel) (z_gda gdX6 (z_gd0))
set_option maxHeartbeats 4000000 in
set_option maxRecDepth 100000 in
theorem s_X6_missAt (l : Launch) (dC : Nat → ClassId) (dI : Nat → Nat → Nat) (sz : Nat) (h0 : Nat) (p1 : Int32) (h0_0 : Value) (h0_1 : Value) (h0_2 : Value) (h1 : Nat) (h2 : Nat) (h0_5 : Value) (h0_6 : Value) (ch1 : ClassId) (fh1 : Nat → Int32) (ch2 : ClassId) (fh2 : Nat → Int32) : Met l yX6_missAt u_s_X6_missAt ({ frames := 0, cells := 0, slots := 0, locals := 0 }) (va_Pc [.ref h0, .int p1] (z_C (dC, dI) vwCl [(h0, .inr (6, [h0_0, h0_1, h0_2, .ref h1, .ref h2, h0_5, h0_6])), (h1, .inl (ch1, 4, .inl fh1)), (h2, .inl (ch2, 4, .inl fh2))] [(ch1, .int), (ch2, .int)] sz)) (va_Qi (fun (r : Int32) (_ : Unit) => True) (fun (_ : Unit) (_ : State) => True) (va_A [] sz)) 0 0 (va_A [] sz) := by
  refine Met.ofW (cc := cX6_missAt) (maxL := 5) (ret := (some .int)) (by decide) rfl ?_
  intro p e s m args below meth c s₁ B hml hv
  obtain ⟨rfl, hsz, hP, hK, hD0⟩ := hv
  have hx := B.exec
  have hb := B.bytes
  have hr := B.returns
  have hts := atoms_spec (ws := u_s_X6_missAt) B.pre
  have hown : s.vm.findClass RX6 = some m.cls := findClass_of_methodNamed B.named
  have hlocks := B.notSynchronized
  subst hsz
  have hD := hD0
  generalize hAe : va_A [] s.heap.size = A
  have hA : ∀ q : Nat, s.heap.size ≤ q → A q := fun q h => by rw [← hAe]; exact Or.inr h
  have hS : va_S A s.heap s.heap [] := va_S.rf
  have hP : va_P (dC, dI) vwCl [(h0, .inr (6, [h0_0, h0_1, h0_2, .ref h1, .ref h2, h0_5, h0_6])), (h1, .inl (ch1, 4, .inl fh1)), (h2, .inl (ch2, 4, .inl fh2))] s.heap := hP
  have w__fieldLink_RX6_21_ShellHeap_Readers_gaps_I_ := hts (.fieldLink RX6 21 "ShellHeap$Readers" "gaps" "[I") (z_mc (z_ml z_m0))
  have hiX6 := show ∀ w ∈ u_ws RX6 TX6 7, w ∈ u_s_X6_missAt from fun w h => z_mc (z_mr (z_ml h))
  have w__fieldLink_RX6_24_ShellHeap_Readers_steps_I_ := hts (.fieldLink RX6 24 "ShellHeap$Readers" "steps" "[I") (z_mc (z_ml z_m1))
  have krr_p1 := z_rng p1
  have hl := lv_entry ([.ref h0, .int p1]) (n := 5) (Nat.le_of_ble_eq_true rfl)
  rw [lg_entry_eq]
  generalize (lg_sl ([.ref h0, .int p1]) ++ List.replicate (5 - (lg_sl ([.ref h0, .int p1])).length) Slot.unset).toArray = ls at hl ⊢
  have hl : lv_has ls 5 [(0, .ref h0), (1, .int p1)] := hl
  refine z_nameQ (fun QQ hQQ => ?_)
  refine lv_iconst (v := 0) hx hb dX6_missAt_0 (by decide) ?_
  refine lv_istore_n (lv' := [(2, .int 0), (0, .ref h0), (1, .int p1)]) hx hb dX6_missAt_1 rfl hl (by decide) rfl (fun ls hl => ?_)
  refine lv_iconst (v := 0) hx hb dX6_missAt_2 (by decide) ?_
  refine lv_istore_n (lv' := [(3, .int 0), (2, .int 0), (0, .ref h0), (1, .int p1)]) hx hb dX6_missAt_3 rfl hl (by decide) rfl (fun ls hl => ?_)
  have loop_1 : ∀ (n_2 : Nat) (i_4 : Int32) (n_5 : Int32) (H : Heap) (locs : List Loc) (ls : Array Slot), (5 - (i_4).toInt).toNat < n_2 → (((0 : Int) ≤ (i_4).toInt ∧ (i_4).toInt ≤ (4 : Int))) → va_P (dC, dI) vwCl [(h0, .inr (6, [h0_0, h0_1, h0_2, .ref h1, .ref h2, h0_5, h0_6])), (h1, .inl (ch1, 4, .inl fh1)), (h2, .inl (ch2, 4, .inl fh2))] H → va_D (fun _ => True) [(h0, .inr (6, [h0_0, h0_1, h0_2, .ref h1, .ref h2, h0_5, h0_6])), (h1, .inl (ch1, 4, .inl fh1)), (h2, .inl (ch2, 4, .inl fh2))] → va_S A s.heap H locs → lv_has ls 5 [(3, .int i_4), (2, .int n_5), (0, .ref h0), (1, .int p1)] → W p l e ({ frames := 0, cells := 0, slots := 0, locals := 0 } : Room) s m ([.ref h0, .int p1] : List Value).toArray below meth c H locs 0 0 QQ (F0 m 4 ls []) := by
    intro n_2
    induction n_2 with
    | zero => intro i_4 n_5 H locs ls hm; exact absurd hm (Nat.not_lt_zero _)
    | succ n_2 ih_3 =>
      intro i_4 n_5 H locs ls hm hF_6 hP hD hS hl
      refine lv_iload_n hx hb dX6_missAt_4 rfl (lv_at hl 0 rfl) ?_
      refine lv_iconst (v := 4) hx hb dX6_missAt_5 (by decide) ?_
      refine lv_icmp_ge (tgt := 40) hx hb dX6_missAt_6 (by decide) (fun c_7 => ?_) (fun c_7 => ?_)
      · have k_8 : (4 : Int) ≤ (i_4).toInt := z_le c_7
        obtain rfl : i_4 = 4 := z_eq' (show (i_4).toInt = (4 : Int) by omega)
        refine lv_iload_n hx hb dX6_missAt_40 rfl (lv_at hl 1 rfl) ?_
        refine z_backQ hQQ ?_
        refine W.widen (k := 0) (n := 0) (Nat.le_of_ble_eq_true rfl) (Nat.le_of_ble_eq_true rfl) ?_
        exact W.iret (v := n_5) hx hb hr (fun t ht hW => ⟨⟨n_5, (), rfl, trivial, trivial⟩, hS.F ht⟩) hS.2.2 dX6_missAt_41
      · have k_10 : (4 : Int) > (i_4).toInt := z_nle c_7
        refine lv_aload_n hx hb dX6_missAt_9 rfl (lv_at hl 2 rfl) ?_
        refine va_get (D := (dC, dI)) (ci := 6) (v := .ref h1) (C := RX6) (T := TX6) (N := 7) hx hb hts hiX6 hown hK hP 0 rfl rfl 3 (by decide) w__fieldLink_RX6_21_ShellHeap_Readers_gaps_I_ (fun _ h9 => h9) rfl dX6_missAt_10 ?_
        refine lv_iload_n hx hb dX6_missAt_13 rfl (lv_at hl 0 rfl) ?_
        refine va_iald hx hb hK hP 1 0 rfl rfl (z_vpin (by omega) (by omega)) dX6_missAt_14 ?_
        refine lv_topi (fun z_11 ez_11 => ?_)
        refine lv_iload_n hx hb dX6_missAt_15 rfl (lv_at hl 3 rfl) ?_
        refine lv_aload_n hx hb dX6_missAt_16 rfl (lv_at hl 2 rfl) ?_
        refine va_get (D := (dC, dI)) (ci := 6) (v := .ref h2) (C := RX6) (T := TX6) (N := 7) hx hb hts hiX6 hown hK hP 0 rfl rfl 4 (by decide) w__fieldLink_RX6_24_ShellHeap_Readers_steps_I_ (fun _ h9 => h9) rfl dX6_missAt_17 ?_
        refine lv_iload_n hx hb dX6_missAt_20 rfl (lv_at hl 0 rfl) ?_
        refine va_iald hx hb hK hP 2 1 rfl rfl (z_vpin (by omega) (by omega)) dX6_missAt_21 ?_
        refine lv_topi (fun z_12 ez_12 => ?_)
        refine lv_imul hx hb dX6_missAt_22 ?_
        refine lv_topi (fun z_13 ez_13 => ?_)
        refine lv_isub hx hb dX6_missAt_23 ?_
        refine lv_topi (fun z_14 ez_14 => ?_)
        refine lv_istore (lv' := [(4, .int z_14), (3, .int i_4), (2, .int n_5), (0, .ref h0), (1, .int p1)]) hx hb dX6_missAt_24 hl (by decide) rfl (fun ls hl => ?_)
        refine lv_iload_n hx hb dX6_missAt_26 rfl (lv_at hl 2 rfl) ?_
        refine lv_iload hx hb dX6_missAt_27 (lv_at hl 0 rfl) ?_
        refine lv_iload hx hb dX6_missAt_29 (lv_at hl 0 rfl) ?_
        refine lv_imul hx hb dX6_missAt_31 ?_
        refine lv_topi (fun z_15 ez_15 => ?_)
        refine lv_iadd hx hb dX6_missAt_32 ?_
        refine lv_topi (fun z_16 ez_16 => ?_)
        refine lv_istore_n (lv' := [(2, .int z_16), (4, .int z_14), (3, .int i_4), (0, .ref h0), (1, .int p1)]) hx hb dX6_missAt_33 rfl hl (by decide) rfl (fun ls hl => ?_)
        obtain ⟨z_17, ez_17⟩ : ∃ y : Int32, y = i_4 + 1 := ⟨_, rfl⟩
        have kz_17 : (z_17).toInt = (i_4).toInt + (1 : Int) := by rw [ez_17]; exact z_add (b := 1) rfl rfl (z_al hF_6.1 (by decide)) (z_ah hF_6.2 (by decide))
        refine lv_iinc (v := z_17) (lv' := [(3, .int z_17), (2, .int z_16), (4, .int z_14), (0, .ref h0), (1, .int p1)]) hx hb dX6_missAt_34 hl (k := 2) rfl (by rw [ez_17]; rfl) (by decide) rfl (fun ls hl => ?_)
        refine lv_goto (tgt := 4) hx hb dX6_missAt_37 (by decide) ?_
        exact ih_3 z_17 z_16 _ _ _ (show (5 - (z_17).toInt).toNat < n_2 by omega) (show ((0 : Int) ≤ (z_17).toInt ∧ (z_17).toInt ≤ (4 : Int)) by omega) hP hD hS (lv_sub hl [0, 1, 3, 4] rfl)
  exact loop_1 _ 0 0 _ _ _ (Nat.lt_succ_self _) (show ((0 : Int) ≤ (0 : Int) ∧ (0 : Int) ≤ (4 : Int)) by omega) hP hD hS hl
def u_s_X6_tryPair : List Cond := .code yX6_tryPair cX6_tryPair 10 none :: ([.methodLink RX6 47 yX6_missAt, .instanceMethod yX6_missAt, .selects RX6 yX6_missAt yX6_missAt, .initialized RX6, .fieldLink RX6 30 "ShellHeap$Readers" "miss" "I", .fieldLink RX6 27 "ShellHeap$Readers" "died" "[I", .methodLink RX6 42 Lib.Math.min.name, .static Lib.Math.min.name, .initialized "java/lang/Math", .code Lib.Math.min.name Lib.Math.min.code 2 (some .int), .fieldLink RX6 11 "ShellHeap$Readers" "rows" "[I", .fieldLink RX6 24 "ShellHeap$Readers" "steps" "[I", .fieldLink RX6 21 "ShellHeap$Readers" "gaps" "[I", .fieldLink RX6 18 "ShellHeap$Readers" "ofBed" "[I"] ++ (wsX60 ++ (u_s_X6_missAt ++ [])))
theorem gd_s_X6_tryPair : z_gd u_s_X6_tryPair := z_gdc (by decide +kernel) (z_gda gdX6 (z_gda gd_s_X6_missAt (z_gd0)))
set_option maxRecDepth 20000 in
theorem gw_s_X6_tryPair_s_X6_missAt_47 : GoodIn u_s_X6_tryPair (wsV RX6 47 RX6 yX6_missAt u_s_X6_missAt) := z_gV (z_gr _ [1, 2, 3, 4] rfl (by decide +kernel)) (fun w h => ⟨z_mc (z_mr (z_mr (z_ml h))), gd_s_X6_missAt w h⟩)
set_option maxHeartbeats 4000000 in
set_option maxRecDepth 100000 in
theorem s_X6_tryPair (l : Launch) (dC : Nat → ClassId) (dI : Nat → Nat → Nat) (sz : Nat) (h0 : Nat) (p1 : Int32) (p2 : Int32) (p3 : Int32) (p4 : Int32) (h1 : Nat) (h0_1 : Value) (h2 : Nat) (h3 : Nat) (h4 : Nat) (h5 : Nat) (rm : Int32) (ch1 : ClassId) (fh1 : Nat → Int32) (ch2 : ClassId) (fh2 : Nat → Int32) (ch3 : ClassId) (fh3 : Nat → Int32) (ch4 : ClassId) (fh4 : Nat → Int32) (ch5 : ClassId) (fh5 : Nat → Int32) (hB_p1 : ((0 : Int) ≤ (p1).toInt ∧ (p1).toInt ≤ (2 : Int))) : Met l yX6_tryPair u_s_X6_tryPair ({ frames := 1, cells := 0, slots := 0, locals := 24 }) (va_Pc [.ref h0, .int p1, .int p2, .int p3, .int p4] (z_C (dC, dI) vwCl [(h0, .inr (6, [.ref h1, h0_1, .ref h2, .ref h3, .ref h4, .ref h5, .int rm])), (h1, .inl (ch1, 48, .inl fh1)), (h2, .inl (ch2, 4, .inl fh2)), (h3, .inl (ch3, 4, .inl fh3)), (h4, .inl (ch4, 4, .inl fh4)), (h5, .inl (ch5, 4, .inl fh5))] [(ch1, .int), (ch2, .int), (ch3, .int), (ch4, .int), (ch5, .int)] sz)) (va_Qv (fun (_ : Unit) => True) (fun (_ : Unit) (t : State) => ∃ (n_h0_miss : Int32), ∃ (g_h3 : Nat → Int32), ∃ (g_h4 : Nat → Int32), ∃ (g_h5 : Nat → Int32), va_P (dC, dI) vwCl [(h0, .inr (6, [.ref h1, h0_1, .ref h2, .ref h3, .ref h4, .ref h5, .int n_h0_miss])), (h1, .inl (ch1, 48, .inl fh1)), (h2, .inl (ch2, 4, .inl fh2)), (h3, .inl (ch3, 4, .inl g_h3)), (h4, .inl (ch4, 4, .inl g_h4)), (h5, .inl (ch5, 4, .inl g_h5))] t.heap ∧ va_K (dC, dI) vwCl [] t ∧ va_D (va_A [(h0, .inr (6, [.ref h1, h0_1, .ref h2, .ref h3, .ref h4, .ref h5, .int rm])), (h1, .inl (ch1, 48, .inl fh1)), (h2, .inl (ch2, 4, .inl fh2)), (h3, .inl (ch3, 4, .inl fh3)), (h4, .inl (ch4, 4, .inl fh4)), (h5, .inl (ch5, 4, .inl fh5))] sz) [(h0, .inr (6, [.ref h1, h0_1, .ref h2, .ref h3, .ref h4, .ref h5, .int n_h0_miss])), (h1, .inl (ch1, 48, .inl fh1)), (h2, .inl (ch2, 4, .inl fh2)), (h3, .inl (ch3, 4, .inl g_h3)), (h4, .inl (ch4, 4, .inl g_h4)), (h5, .inl (ch5, 4, .inl g_h5))]) (va_A [(h0, .inr (6, [.ref h1, h0_1, .ref h2, .ref h3, .ref h4, .ref h5, .int rm])), (h1, .inl (ch1, 48, .inl fh1)), (h2, .inl (ch2, 4, .inl fh2)), (h3, .inl (ch3, 4, .inl fh3)), (h4, .inl (ch4, 4, .inl fh4)), (h5, .inl (ch5, 4, .inl fh5))] sz)) 0 0 (va_A [(h0, .inr (6, [.ref h1, h0_1, .ref h2, .ref h3, .ref h4, .ref h5, .int rm])), (h1, .inl (ch1, 48, .inl fh1)), (h2, .inl (ch2, 4, .inl fh2)), (h3, .inl (ch3, 4, .inl fh3)), (h4, .inl (ch4, 4, .inl fh4)), (h5, .inl (ch5, 4, .inl fh5))] sz) := by
  refine Met.ofW (cc := cX6_tryPair) (maxL := 10) (ret := none) (by decide) rfl ?_
  intro p e s m args below meth c s₁ B hml hv
  obtain ⟨rfl, hsz, hP, hK, hD0⟩ := hv
  have hx := B.exec
  have hb := B.bytes
  have hr := B.returns
  have hts := atoms_spec (ws := u_s_X6_tryPair) B.pre
  have hown : s.vm.findClass RX6 = some m.cls := findClass_of_methodNamed B.named
  have hlocks := B.notSynchronized
  subst hsz
  have hD := hD0.self (sz := s.heap.size)
  generalize hAe : va_A [(h0, .inr (6, [.ref h1, h0_1, .ref h2, .ref h3, .ref h4, .ref h5, .int rm])), (h1, .inl (ch1, 48, .inl fh1)), (h2, .inl (ch2, 4, .inl fh2)), (h3, .inl (ch3, 4, .inl fh3)), (h4, .inl (ch4, 4, .inl fh4)), (h5, .inl (ch5, 4, .inl fh5))] s.heap.size = A at hD ⊢
  have hA : ∀ q : Nat, s.heap.size ≤ q → A q := fun q h => by rw [← hAe]; exact Or.inr h
  have hS : va_S A s.heap s.heap [] := va_S.rf
  have hP : va_P (dC, dI) vwCl [(h0, .inr (6, [.ref h1, h0_1, .ref h2, .ref h3, .ref h4, .ref h5, .int rm])), (h1, .inl (ch1, 48, .inl fh1)), (h2, .inl (ch2, 4, .inl fh2)), (h3, .inl (ch3, 4, .inl fh3)), (h4, .inl (ch4, 4, .inl fh4)), (h5, .inl (ch5, 4, .inl fh5))] s.heap := hP
  have w__fieldLink_RX6_30_ShellHeap_Readers_miss_I_ := hts (.fieldLink RX6 30 "ShellHeap$Readers" "miss" "I") (z_mc (z_ml z_m4))
  have hiX6 := show ∀ w ∈ u_ws RX6 TX6 7, w ∈ u_s_X6_tryPair from fun w h => z_mc (z_mr (z_ml h))
  have w__fieldLink_RX6_27_ShellHeap_Readers_died_I_ := hts (.fieldLink RX6 27 "ShellHeap$Readers" "died" "[I") (z_mc (z_ml z_m5))
  have w__methodLink_RX6_42_Lib_Math_min_name := hts (.methodLink RX6 42 Lib.Math.min.name) (z_mc (z_ml z_m6))
  have w__static_Lib_Math_min_name := hts (.static Lib.Math.min.name) (z_mc (z_ml z_m7))
  have w__initialized_java_lang_Math_ := hts (.initialized "java/lang/Math") (z_mc (z_ml z_m8))
  have w__code_Lib_Math_min_name_Lib_Math_min_code_2_some_int_ := hts (.code Lib.Math.min.name Lib.Math.min.code 2 (some .int)) (z_mc (z_ml z_m9))
  have w__fieldLink_RX6_11_ShellHeap_Readers_rows_I_ := hts (.fieldLink RX6 11 "ShellHeap$Readers" "rows" "[I") (z_mc (z_ml z_m10))
  have w__fieldLink_RX6_24_ShellHeap_Readers_steps_I_ := hts (.fieldLink RX6 24 "ShellHeap$Readers" "steps" "[I") (z_mc (z_ml z_m11))
  have w__fieldLink_RX6_21_ShellHeap_Readers_gaps_I_ := hts (.fieldLink RX6 21 "ShellHeap$Readers" "gaps" "[I") (z_mc (z_ml z_m12))
  have w__fieldLink_RX6_18_ShellHeap_Readers_ofBed_I_ := hts (.fieldLink RX6 18 "ShellHeap$Readers" "ofBed" "[I") (z_mc (z_ml z_m13))
  have krr_p2 := z_rng p2
  have krr_p3 := z_rng p3
  have krr_p4 := z_rng p4
  have hl := lv_entry ([.ref h0, .int p1, .int p2, .int p3, .int p4]) (n := 10) (Nat.le_of_ble_eq_true rfl)
  rw [lg_entry_eq]
  generalize (lg_sl ([.ref h0, .int p1, .int p2, .int p3, .int p4]) ++ List.replicate (10 - (lg_sl ([.ref h0, .int p1, .int p2, .int p3, .int p4])).length) Slot.unset).toArray = ls at hl ⊢
  have hl : lv_has ls 10 [(0, .ref h0), (1, .int p1), (2, .int p2), (3, .int p3), (4, .int p4)] := hl
  refine z_nameQ (fun QQ hQQ => ?_)
  refine lv_iload_n hx hb dX6_tryPair_0 rfl (lv_at hl 1 rfl) ?_
  refine lv_iconst (v := 4) hx hb dX6_tryPair_1 (by decide) ?_
  refine lv_imul hx hb dX6_tryPair_2 ?_
  refine lv_topi (fun z_1 ez_1 => ?_)
  have kz_1 : (z_1).toInt = (p1).toInt * (4 : Int) := by rw [ez_1]; exact z_mul (a := (p1).toInt) (b := (4 : Int)) rfl rfl (by omega) (by omega)
  refine lv_iconst (v := 4) hx hb dX6_tryPair_3 (by decide) ?_
  refine lv_imul hx hb dX6_tryPair_4 ?_
  refine lv_topi (fun z_2 ez_2 => ?_)
  have kz_2 : (z_2).toInt = (z_1).toInt * (4 : Int) := by rw [ez_2]; exact z_mul (a := (z_1).toInt) (b := (4 : Int)) rfl rfl (by omega) (by omega)
  refine lv_istore (lv' := [(5, .int z_2), (0, .ref h0), (1, .int p1), (2, .int p2), (3, .int p3), (4, .int p4)]) hx hb dX6_tryPair_5 hl (by decide) rfl (fun ls hl => ?_)
  refine lv_iconst (v := 0) hx hb dX6_tryPair_7 (by decide) ?_
  refine lv_istore (lv' := [(6, .int 0), (5, .int z_2), (0, .ref h0), (1, .int p1), (2, .int p2), (3, .int p3), (4, .int p4)]) hx hb dX6_tryPair_8 hl (by decide) rfl (fun ls hl => ?_)
  refine lv_iconst (v := 0) hx hb dX6_tryPair_10 (by decide) ?_
  refine lv_istore (lv' := [(7, .int 0), (6, .int 0), (5, .int z_2), (0, .ref h0), (1, .int p1), (2, .int p2), (3, .int p3), (4, .int p4)]) hx hb dX6_tryPair_11 hl (by decide) rfl (fun ls hl => ?_)
  refine lv_iconst (v := 0) hx hb dX6_tryPair_13 (by decide) ?_
  refine lv_istore (lv' := [(8, .int 0), (7, .int 0), (6, .int 0), (5, .int z_2), (0, .ref h0), (1, .int p1), (2, .int p2), (3, .int p3), (4, .int p4)]) hx hb dX6_tryPair_14 hl (by decide) rfl (fun ls hl => ?_)
  have loop_3 : ∀ (n_4 : Nat) (i_6 : Int32) (a_7 : Int32) (c_8 : Int32) (f_9 : Nat → Int32) (f_10 : Nat → Int32) (H : Heap) (locs : List Loc) (ls : Array Slot), (5 - (i_6).toInt).toNat < n_4 → (((0 : Int) ≤ (i_6).toInt ∧ (i_6).toInt ≤ (4 : Int))) → va_P (dC, dI) vwCl [(h0, .inr (6, [.ref h1, h0_1, .ref h2, .ref h3, .ref h4, .ref h5, .int rm])), (h1, .inl (ch1, 48, .inl fh1)), (h2, .inl (ch2, 4, .inl fh2)), (h3, .inl (ch3, 4, .inl f_9)), (h4, .inl (ch4, 4, .inl f_10)), (h5, .inl (ch5, 4, .inl fh5))] H → va_D A [(h0, .inr (6, [.ref h1, h0_1, .ref h2, .ref h3, .ref h4, .ref h5, .int rm])), (h1, .inl (ch1, 48, .inl fh1)), (h2, .inl (ch2, 4, .inl fh2)), (h3, .inl (ch3, 4, .inl f_9)), (h4, .inl (ch4, 4, .inl f_10)), (h5, .inl (ch5, 4, .inl fh5))] → va_S A s.heap H locs → lv_has ls 10 [(8, .int i_6), (7, .int c_8), (6, .int a_7), (5, .int z_2), (0, .ref h0), (1, .int p1), (2, .int p2), (3, .int p3), (4, .int p4)] → W p l e ({ frames := 1, cells := 0, slots := 0, locals := 24 } : Room) s m ([.ref h0, .int p1, .int p2, .int p3, .int p4] : List Value).toArray below meth c H locs 0 0 QQ (F0 m 16 ls []) := by
    intro n_4
    induction n_4 with
    | zero => intro i_6 a_7 c_8 f_9 f_10 H locs ls hm; exact absurd hm (Nat.not_lt_zero _)
    | succ n_4 ih_5 =>
      intro i_6 a_7 c_8 f_9 f_10 H locs ls hm hF_11 hP hD hS hl
      refine lv_iload hx hb dX6_tryPair_16 (lv_at hl 0 rfl) ?_
      refine lv_iconst (v := 4) hx hb dX6_tryPair_18 (by decide) ?_
      refine lv_icmp_ge (tgt := 157) hx hb dX6_tryPair_19 (by decide) (fun c_12 => ?_) (fun c_12 => ?_)
      · have k_13 : (4 : Int) ≤ (i_6).toInt := z_le c_12
        obtain rfl : i_6 = 4 := z_eq' (show (i_6).toInt = (4 : Int) by omega)
        refine lv_iload hx hb dX6_tryPair_157 (lv_at hl 1 rfl) ?_
        refine lv_if_le (tgt := 180) hx hb dX6_tryPair_159 (by decide) (fun c_15 => ?_) (fun c_15 => ?_)
        · have k_16 : (c_8).toInt ≤ (0 : Int) := z_le c_15
          refine lv_iconst (v := 0) hx hb dX6_tryPair_180 (by decide) ?_
          refine lv_istore (lv' := [(8, .int 0), (7, .int c_8), (6, .int a_7), (5, .int z_2), (0, .ref h0), (1, .int p1), (2, .int p2), (3, .int p3), (4, .int p4)]) hx hb dX6_tryPair_181 hl (by decide) rfl (fun ls hl => ?_)
          refine lv_aload_n hx hb dX6_tryPair_183 rfl (lv_at hl 4 rfl) ?_
          refine lv_iload hx hb dX6_tryPair_184 (lv_at hl 0 rfl) ?_
          obtain ⟨hPc, hDc⟩ := z_sub2 (ws' := [(h0, .inr (6, [.ref h1, h0_1, .ref h2, .ref h3, .ref h4, .ref h5, .int rm])), (h3, .inl (ch3, 4, .inl f_9)), (h4, .inl (ch4, 4, .inl f_10))]) hP hD [0, 3, 4] (by decide) rfl
          have hKc := hK.sub (tys' := [(ch3, .int), (ch4, .int)]) [2, 3] rfl
          have hFc := va_free (ws := []) (wc := []) (z_D0 _) hS hA [] rfl
          refine va_calli (va_runV (As := [.int 0]) (rest := []) ⟨hx, hb, hml, hown, hts⟩ (s_X6_missAt l dC dI H.size h0 0 (.ref h1) h0_1 (.ref h2) h3 h4 (.ref h5) (.int rm) ch3 f_9 ch4 f_10) (cwV 1 hts gw_s_X6_tryPair_s_X6_missAt_47 rfl rfl rfl (by decide +kernel) ⟨Nat.le_of_ble_eq_true rfl, Nat.le_of_ble_eq_true rfl⟩) ⟨z_blind, va_recv hKc hPc (ci := 6) (q0 := 0) rfl rfl, z_pre hPc hKc hDc⟩ rfl rfl hl.1 rfl (lv_room (Nat.le_of_ble_eq_true rfl)) dX6_tryPair_186 ⟨Nat.le_of_ble_eq_true rfl, Nat.le_of_ble_eq_true rfl⟩) hS (fun q _ h => hFc q h) hFc (fun r_18 u t H_17 locs ht hvm hw_19 hB hz1 hk1 hS => ?_)
          replace hP := z_pure hP hk1
          clear hPc hDc hKc
          refine lv_istore (lv' := [(9, .int r_18), (8, .int 0), (7, .int c_8), (6, .int a_7), (5, .int z_2), (0, .ref h0), (1, .int p1), (2, .int p2), (3, .int p3), (4, .int p4)]) hx hb dX6_tryPair_189 hl (by decide) rfl (fun ls hl => ?_)
          refine lv_iload hx hb dX6_tryPair_191 (lv_at hl 1 rfl) ?_
          refine lv_iload hx hb dX6_tryPair_193 (lv_at hl 9 rfl) ?_
          refine lv_icmp_ge (tgt := 222) hx hb dX6_tryPair_195 (by decide) (fun c_20 => ?_) (fun c_20 => ?_)
          · have k_21 : (p4).toInt ≤ (0 : Int) := z_le c_20
            refine lv_aload_n hx hb dX6_tryPair_222 rfl (lv_at hl 5 rfl) ?_
            refine va_get (D := (dC, dI)) (ci := 6) (v := .int rm) (C := RX6) (T := TX6) (N := 7) hx hb hts hiX6 hown hK hP 0 rfl rfl 6 (by decide) w__fieldLink_RX6_30_ShellHeap_Readers_miss_I_ (fun _ h9 => h9) rfl dX6_tryPair_223 ?_
            refine lv_iconst (v := (-1)) hx hb dX6_tryPair_226 (by decide) ?_
            refine lv_icmp_eq (tgt := 239) hx hb dX6_tryPair_227 (by decide) (fun c_22 => ?_) (fun c_22 => ?_)
            · have k_23 : (rm).toInt = (-1 : Int) := z_eq c_22
              obtain rfl : rm = (-1) := z_eq' (show (rm).toInt = (-1 : Int) by omega)
              refine lv_aload_n hx hb dX6_tryPair_239 rfl (lv_at hl 5 rfl) ?_
              refine lv_iload hx hb dX6_tryPair_240 (lv_at hl 0 rfl) ?_
              refine va_put (D := (dC, dI)) (ci := 6) (v := .int r_18) (ty := .int) (C := RX6) (T := TX6) (N := 7) hx hb hts hiX6 tyX6 tyX6_ok nmX6 hown hK hP hD hS 0 rfl rfl 6 (by decide) w__fieldLink_RX6_30_ShellHeap_Readers_miss_I_ (fun _ h9 => h9) rfl (by decide +kernel) rfl rfl (Nat.le_of_ble_eq_true rfl) dX6_tryPair_242 (fun H_25 locs hP hD hS => ?_)
              obtain ⟨hP, hD⟩ := z_s_0_6 hP hD
              refine lv_aload_n hx hb dX6_tryPair_245 rfl (lv_at hl 5 rfl) ?_
              refine va_get (D := (dC, dI)) (ci := 6) (v := .ref h5) (C := RX6) (T := TX6) (N := 7) hx hb hts hiX6 hown hK hP 0 rfl rfl 5 (by decide) w__fieldLink_RX6_27_ShellHeap_Readers_died_I_ (fun _ h9 => h9) rfl dX6_tryPair_246 ?_
              refine lv_iconst (v := 0) hx hb dX6_tryPair_249 (by decide) ?_
              refine lv_iload_n hx hb dX6_tryPair_250 rfl (lv_at hl 7 rfl) ?_
              refine va_iast hx hb hK hP hD hS 5 4 rfl rfl (by unfold vp_in; decide) dX6_tryPair_251 (fun H_26 locs hP hD hS => ?_)
              obtain ⟨hP, hD⟩ := z_s_5 hP hD
              generalize (upd fh5 (0 : Int32).toNatClampNeg p2) = f_27 at hP hD
              refine lv_aload_n hx hb dX6_tryPair_252 rfl (lv_at hl 5 rfl) ?_
              refine va_get (D := (dC, dI)) (ci := 6) (v := .ref h5) (C := RX6) (T := TX6) (N := 7) hx hb hts hiX6 hown hK hP 0 rfl rfl 5 (by decide) w__fieldLink_RX6_27_ShellHeap_Readers_died_I_ (fun _ h9 => h9) rfl dX6_tryPair_253 ?_
              refine lv_iconst (v := 1) hx hb dX6_tryPair_256 (by decide) ?_
              refine lv_iload_n hx hb dX6_tryPair_257 rfl (lv_at hl 8 rfl) ?_
              refine va_iast hx hb hK hP hD hS 5 4 rfl rfl (by unfold vp_in; decide) dX6_tryPair_258 (fun H_28 locs hP hD hS => ?_)
              obtain ⟨hP, hD⟩ := z_s_5 hP hD
              generalize (upd f_27 (1 : Int32).toNatClampNeg p3) = f_29 at hP hD
              refine lv_aload_n hx hb dX6_tryPair_259 rfl (lv_at hl 5 rfl) ?_
              refine va_get (D := (dC, dI)) (ci := 6) (v := .ref h5) (C := RX6) (T := TX6) (N := 7) hx hb hts hiX6 hown hK hP 0 rfl rfl 5 (by decide) w__fieldLink_RX6_27_ShellHeap_Readers_died_I_ (fun _ h9 => h9) rfl dX6_tryPair_260 ?_
              refine lv_iconst (v := 2) hx hb dX6_tryPair_263 (by decide) ?_
              refine lv_iload hx hb dX6_tryPair_264 (lv_at hl 1 rfl) ?_
              refine va_iast hx hb hK hP hD hS 5 4 rfl rfl (by unfold vp_in; decide) dX6_tryPair_266 (fun H_30 locs hP hD hS => ?_)
              obtain ⟨hP, hD⟩ := z_s_5 hP hD
              generalize (upd f_29 (2 : Int32).toNatClampNeg 0) = f_31 at hP hD
              refine lv_aload_n hx hb dX6_tryPair_267 rfl (lv_at hl 5 rfl) ?_
              refine va_get (D := (dC, dI)) (ci := 6) (v := .ref h5) (C := RX6) (T := TX6) (N := 7) hx hb hts hiX6 hown hK hP 0 rfl rfl 5 (by decide) w__fieldLink_RX6_27_ShellHeap_Readers_died_I_ (fun _ h9 => h9) rfl dX6_tryPair_268 ?_
              refine lv_iconst (v := 3) hx hb dX6_tryPair_271 (by decide) ?_
              refine lv_iload hx hb dX6_tryPair_272 (lv_at hl 9 rfl) ?_
              refine lv_iload hx hb dX6_tryPair_274 (lv_at hl 1 rfl) ?_
              refine lv_isub hx hb dX6_tryPair_276 ?_
              refine lv_topi (fun z_32 ez_32 => ?_)
              have kr_z_32_p4 := z_rng p4
              have kz_32 : (z_32).toInt = (p4).toInt - (0 : Int) := by rw [ez_32]; exact z_sub (a := (p4).toInt) (b := (0 : Int)) rfl rfl (by omega) (by omega)
              refine va_iast hx hb hK hP hD hS 5 4 rfl rfl (by unfold vp_in; decide) dX6_tryPair_277 (fun H_33 locs hP hD hS => ?_)
              obtain ⟨hP, hD⟩ := z_s_5 hP hD
              generalize (upd f_31 (3 : Int32).toNatClampNeg z_32) = f_34 at hP hD
              refine z_backQ hQQ ?_
              have hP9 := hP
              have hD9 := hD
              have hK9 := hK.sub (tys' := []) [] rfl
              refine W.widen (k := 0) (n := 0) (Nat.le_of_ble_eq_true rfl) (Nat.le_of_ble_eq_true rfl) ?_
              exact W.vret hx hb hr (fun t ht hW => ⟨⟨(), rfl, trivial, ⟨r_18, f_9, f_10, f_34, by rw [ht]; exact hP9, va_K.moved hW.alike hK9, hD9⟩⟩, hS.F ht⟩) hS.2.2 dX6_tryPair_278
            · have k_35 : (rm).toInt ≠ (-1 : Int) := z_ne c_22
              refine lv_iload hx hb dX6_tryPair_230 (lv_at hl 0 rfl) ?_
              refine lv_aload_n hx hb dX6_tryPair_232 rfl (lv_at hl 5 rfl) ?_
              refine va_get (D := (dC, dI)) (ci := 6) (v := .int rm) (C := RX6) (T := TX6) (N := 7) hx hb hts hiX6 hown hK hP 0 rfl rfl 6 (by decide) w__fieldLink_RX6_30_ShellHeap_Readers_miss_I_ (fun _ h9 => h9) rfl dX6_tryPair_233 ?_
              refine lv_icmp_ge (tgt := 278) hx hb dX6_tryPair_236 (by decide) (fun c_36 => ?_) (fun c_36 => ?_)
              · have k_37 : (rm).toInt ≤ (r_18).toInt := z_le c_36
                refine z_backQ hQQ ?_
                have hP9 := hP
                have hD9 := hD
                have hK9 := hK.sub (tys' := []) [] rfl
                refine W.widen (k := 0) (n := 0) (Nat.le_of_ble_eq_true rfl) (Nat.le_of_ble_eq_true rfl) ?_
                exact W.vret hx hb hr (fun t ht hW => ⟨⟨(), rfl, trivial, ⟨rm, f_9, f_10, fh5, by rw [ht]; exact hP9, va_K.moved hW.alike hK9, hD9⟩⟩, hS.F ht⟩) hS.2.2 dX6_tryPair_278
              · have k_38 : (rm).toInt > (r_18).toInt := z_nle c_36
                refine lv_aload_n hx hb dX6_tryPair_239 rfl (lv_at hl 5 rfl) ?_
                refine lv_iload hx hb dX6_tryPair_240 (lv_at hl 0 rfl) ?_
                refine va_put (D := (dC, dI)) (ci := 6) (v := .int r_18) (ty := .int) (C := RX6) (T := TX6) (N := 7) hx hb hts hiX6 tyX6 tyX6_ok nmX6 hown hK hP hD hS 0 rfl rfl 6 (by decide) w__fieldLink_RX6_30_ShellHeap_Readers_miss_I_ (fun _ h9 => h9) rfl (by decide +kernel) rfl rfl (Nat.le_of_ble_eq_true rfl) dX6_tryPair_242 (fun H_39 locs hP hD hS => ?_)
                obtain ⟨hP, hD⟩ := z_s_0_6 hP hD
                refine lv_aload_n hx hb dX6_tryPair_245 rfl (lv_at hl 5 rfl) ?_
                refine va_get (D := (dC, dI)) (ci := 6) (v := .ref h5) (C := RX6) (T := TX6) (N := 7) hx hb hts hiX6 hown hK hP 0 rfl rfl 5 (by decide) w__fieldLink_RX6_27_ShellHeap_Readers_died_I_ (fun _ h9 => h9) rfl dX6_tryPair_246 ?_
                refine lv_iconst (v := 0) hx hb dX6_tryPair_249 (by decide) ?_
                refine lv_iload_n hx hb dX6_tryPair_250 rfl (lv_at hl 7 rfl) ?_
                refine va_iast hx hb hK hP hD hS 5 4 rfl rfl (by unfold vp_in; decide) dX6_tryPair_251 (fun H_40 locs hP hD hS => ?_)
                obtain ⟨hP, hD⟩ := z_s_5 hP hD
                generalize (upd fh5 (0 : Int32).toNatClampNeg p2) = f_41 at hP hD
                refine lv_aload_n hx hb dX6_tryPair_252 rfl (lv_at hl 5 rfl) ?_
                refine va_get (D := (dC, dI)) (ci := 6) (v := .ref h5) (C := RX6) (T := TX6) (N := 7) hx hb hts hiX6 hown hK hP 0 rfl rfl 5 (by decide) w__fieldLink_RX6_27_ShellHeap_Readers_died_I_ (fun _ h9 => h9) rfl dX6_tryPair_253 ?_
                refine lv_iconst (v := 1) hx hb dX6_tryPair_256 (by decide) ?_
                refine lv_iload_n hx hb dX6_tryPair_257 rfl (lv_at hl 8 rfl) ?_
                refine va_iast hx hb hK hP hD hS 5 4 rfl rfl (by unfold vp_in; decide) dX6_tryPair_258 (fun H_42 locs hP hD hS => ?_)
                obtain ⟨hP, hD⟩ := z_s_5 hP hD
                generalize (upd f_41 (1 : Int32).toNatClampNeg p3) = f_43 at hP hD
                refine lv_aload_n hx hb dX6_tryPair_259 rfl (lv_at hl 5 rfl) ?_
                refine va_get (D := (dC, dI)) (ci := 6) (v := .ref h5) (C := RX6) (T := TX6) (N := 7) hx hb hts hiX6 hown hK hP 0 rfl rfl 5 (by decide) w__fieldLink_RX6_27_ShellHeap_Readers_died_I_ (fun _ h9 => h9) rfl dX6_tryPair_260 ?_
                refine lv_iconst (v := 2) hx hb dX6_tryPair_263 (by decide) ?_
                refine lv_iload hx hb dX6_tryPair_264 (lv_at hl 1 rfl) ?_
                refine va_iast hx hb hK hP hD hS 5 4 rfl rfl (by unfold vp_in; decide) dX6_tryPair_266 (fun H_44 locs hP hD hS => ?_)
                obtain ⟨hP, hD⟩ := z_s_5 hP hD
                generalize (upd f_43 (2 : Int32).toNatClampNeg 0) = f_45 at hP hD
                refine lv_aload_n hx hb dX6_tryPair_267 rfl (lv_at hl 5 rfl) ?_
                refine va_get (D := (dC, dI)) (ci := 6) (v := .ref h5) (C := RX6) (T := TX6) (N := 7) hx hb hts hiX6 hown hK hP 0 rfl rfl 5 (by decide) w__fieldLink_RX6_27_ShellHeap_Readers_died_I_ (fun _ h9 => h9) rfl dX6_tryPair_268 ?_
                refine lv_iconst (v := 3) hx hb dX6_tryPair_271 (by decide) ?_
                refine lv_iload hx hb dX6_tryPair_272 (lv_at hl 9 rfl) ?_
                refine lv_iload hx hb dX6_tryPair_274 (lv_at hl 1 rfl) ?_
                refine lv_isub hx hb dX6_tryPair_276 ?_
                refine lv_topi (fun z_46 ez_46 => ?_)
                have kr_z_46_p4 := z_rng p4
                have kz_46 : (z_46).toInt = (p4).toInt - (0 : Int) := by rw [ez_46]; exact z_sub (a := (p4).toInt) (b := (0 : Int)) rfl rfl (by omega) (by omega)
                refine va_iast hx hb hK hP hD hS 5 4 rfl rfl (by unfold vp_in; decide) dX6_tryPair_277 (fun H_47 locs hP hD hS => ?_)
                obtain ⟨hP, hD⟩ := z_s_5 hP hD
                generalize (upd f_45 (3 : Int32).toNatClampNeg z_46) = f_48 at hP hD
                refine z_backQ hQQ ?_
                have hP9 := hP
                have hD9 := hD
                have hK9 := hK.sub (tys' := []) [] rfl
                refine W.widen (k := 0) (n := 0) (Nat.le_of_ble_eq_true rfl) (Nat.le_of_ble_eq_true rfl) ?_
                exact W.vret hx hb hr (fun t ht hW => ⟨⟨(), rfl, trivial, ⟨r_18, f_9, f_10, f_48, by rw [ht]; exact hP9, va_K.moved hW.alike hK9, hD9⟩⟩, hS.F ht⟩) hS.2.2 dX6_tryPair_278
          · have k_49 : (p4).toInt > (0 : Int) := z_nle c_20
            refine lv_aload_n hx hb dX6_tryPair_198 rfl (lv_at hl 5 rfl) ?_
            refine lv_iload hx hb dX6_tryPair_199 (lv_at hl 1 rfl) ?_
            refine lv_iconst (v := 1) hx hb dX6_tryPair_201 (by decide) ?_
            refine lv_iadd hx hb dX6_tryPair_202 ?_
            refine lv_topi (fun x_50 e_51 => ?_)
            obtain rfl : x_50 = 1 := e_51.trans (by decide)
            obtain ⟨hPc, hDc⟩ := z_sub2 (ws' := [(h0, .inr (6, [.ref h1, h0_1, .ref h2, .ref h3, .ref h4, .ref h5, .int rm])), (h3, .inl (ch3, 4, .inl f_9)), (h4, .inl (ch4, 4, .inl f_10))]) hP hD [0, 3, 4] (by decide) rfl
            have hKc := hK.sub (tys' := [(ch3, .int), (ch4, .int)]) [2, 3] rfl
            have hFc := va_free (ws := []) (wc := []) (z_D0 _) hS hA [] rfl
            refine va_calli (va_runV (As := [.int 1]) (rest := []) ⟨hx, hb, hml, hown, hts⟩ (s_X6_missAt l dC dI H_17.size h0 1 (.ref h1) h0_1 (.ref h2) h3 h4 (.ref h5) (.int rm) ch3 f_9 ch4 f_10) (cwV 1 hts gw_s_X6_tryPair_s_X6_missAt_47 rfl rfl rfl (by decide +kernel) ⟨Nat.le_of_ble_eq_true rfl, Nat.le_of_ble_eq_true rfl⟩) ⟨z_blind, va_recv hKc hPc (ci := 6) (q0 := 0) rfl rfl, z_pre hPc hKc hDc⟩ rfl rfl hl.1 rfl (lv_room (Nat.le_of_ble_eq_true rfl)) dX6_tryPair_203 ⟨Nat.le_of_ble_eq_true rfl, Nat.le_of_ble_eq_true rfl⟩) hS (fun q _ h => hFc q h) hFc (fun r_53 u t H_52 locs ht hvm hw_54 hB hz1 hk1 hS => ?_)
            replace hP := z_pure hP hk1
            clear hPc hDc hKc
            refine lv_iload hx hb dX6_tryPair_206 (lv_at hl 0 rfl) ?_
            refine lv_icmp_ge (tgt := 222) hx hb dX6_tryPair_208 (by decide) (fun c_55 => ?_) (fun c_55 => ?_)
            · have k_56 : (r_18).toInt ≤ (r_53).toInt := z_le c_55
              refine lv_aload_n hx hb dX6_tryPair_222 rfl (lv_at hl 5 rfl) ?_
              refine va_get (D := (dC, dI)) (ci := 6) (v := .int rm) (C := RX6) (T := TX6) (N := 7) hx hb hts hiX6 hown hK hP 0 rfl rfl 6 (by decide) w__fieldLink_RX6_30_ShellHeap_Readers_miss_I_ (fun _ h9 => h9) rfl dX6_tryPair_223 ?_
              refine lv_iconst (v := (-1)) hx hb dX6_tryPair_226 (by decide) ?_
              refine lv_icmp_eq (tgt := 239) hx hb dX6_tryPair_227 (by decide) (fun c_57 => ?_) (fun c_57 => ?_)
              · have k_58 : (rm).toInt = (-1 : Int) := z_eq c_57
                obtain rfl : rm = (-1) := z_eq' (show (rm).toInt = (-1 : Int) by omega)
                refine lv_aload_n hx hb dX6_tryPair_239 rfl (lv_at hl 5 rfl) ?_
                refine lv_iload hx hb dX6_tryPair_240 (lv_at hl 0 rfl) ?_
                refine va_put (D := (dC, dI)) (ci := 6) (v := .int r_18) (ty := .int) (C := RX6) (T := TX6) (N := 7) hx hb hts hiX6 tyX6 tyX6_ok nmX6 hown hK hP hD hS 0 rfl rfl 6 (by decide) w__fieldLink_RX6_30_ShellHeap_Readers_miss_I_ (fun _ h9 => h9) rfl (by decide +kernel) rfl rfl (Nat.le_of_ble_eq_true rfl) dX6_tryPair_242 (fun H_60 locs hP hD hS => ?_)
                obtain ⟨hP, hD⟩ := z_s_0_6 hP hD
                refine lv_aload_n hx hb dX6_tryPair_245 rfl (lv_at hl 5 rfl) ?_
                refine va_get (D := (dC, dI)) (ci := 6) (v := .ref h5) (C := RX6) (T := TX6) (N := 7) hx hb hts hiX6 hown hK hP 0 rfl rfl 5 (by decide) w__fieldLink_RX6_27_ShellHeap_Readers_died_I_ (fun _ h9 => h9) rfl dX6_tryPair_246 ?_
                refine lv_iconst (v := 0) hx hb dX6_tryPair_249 (by decide) ?_
                refine lv_iload_n hx hb dX6_tryPair_250 rfl (lv_at hl 7 rfl) ?_
                refine va_iast hx hb hK hP hD hS 5 4 rfl rfl (by unfold vp_in; decide) dX6_tryPair_251 (fun H_61 locs hP hD hS => ?_)
                obtain ⟨hP, hD⟩ := z_s_5 hP hD
                generalize (upd fh5 (0 : Int32).toNatClampNeg p2) = f_62 at hP hD
                refine lv_aload_n hx hb dX6_tryPair_252 rfl (lv_at hl 5 rfl) ?_
                refine va_get (D := (dC, dI)) (ci := 6) (v := .ref h5) (C := RX6) (T := TX6) (N := 7) hx hb hts hiX6 hown hK hP 0 rfl rfl 5 (by decide) w__fieldLink_RX6_27_ShellHeap_Readers_died_I_ (fun _ h9 => h9) rfl dX6_tryPair_253 ?_
                refine lv_iconst (v := 1) hx hb dX6_tryPair_256 (by decide) ?_
                refine lv_iload_n hx hb dX6_tryPair_257 rfl (lv_at hl 8 rfl) ?_
                refine va_iast hx hb hK hP hD hS 5 4 rfl rfl (by unfold vp_in; decide) dX6_tryPair_258 (fun H_63 locs hP hD hS => ?_)
                obtain ⟨hP, hD⟩ := z_s_5 hP hD
                generalize (upd f_62 (1 : Int32).toNatClampNeg p3) = f_64 at hP hD
                refine lv_aload_n hx hb dX6_tryPair_259 rfl (lv_at hl 5 rfl) ?_
                refine va_get (D := (dC, dI)) (ci := 6) (v := .ref h5) (C := RX6) (T := TX6) (N := 7) hx hb hts hiX6 hown hK hP 0 rfl rfl 5 (by decide) w__fieldLink_RX6_27_ShellHeap_Readers_died_I_ (fun _ h9 => h9) rfl dX6_tryPair_260 ?_
                refine lv_iconst (v := 2) hx hb dX6_tryPair_263 (by decide) ?_
                refine lv_iload hx hb dX6_tryPair_264 (lv_at hl 1 rfl) ?_
                refine va_iast hx hb hK hP hD hS 5 4 rfl rfl (by unfold vp_in; decide) dX6_tryPair_266 (fun H_65 locs hP hD hS => ?_)
                obtain ⟨hP, hD⟩ := z_s_5 hP hD
                generalize (upd f_64 (2 : Int32).toNatClampNeg 0) = f_66 at hP hD
                refine lv_aload_n hx hb dX6_tryPair_267 rfl (lv_at hl 5 rfl) ?_
                refine va_get (D := (dC, dI)) (ci := 6) (v := .ref h5) (C := RX6) (T := TX6) (N := 7) hx hb hts hiX6 hown hK hP 0 rfl rfl 5 (by decide) w__fieldLink_RX6_27_ShellHeap_Readers_died_I_ (fun _ h9 => h9) rfl dX6_tryPair_268 ?_
                refine lv_iconst (v := 3) hx hb dX6_tryPair_271 (by decide) ?_
                refine lv_iload hx hb dX6_tryPair_272 (lv_at hl 9 rfl) ?_
                refine lv_iload hx hb dX6_tryPair_274 (lv_at hl 1 rfl) ?_
                refine lv_isub hx hb dX6_tryPair_276 ?_
                refine lv_topi (fun z_67 ez_67 => ?_)
                have kr_z_67_p4 := z_rng p4
                have kz_67 : (z_67).toInt = (p4).toInt - (0 : Int) := by rw [ez_67]; exact z_sub (a := (p4).toInt) (b := (0 : Int)) rfl rfl (by omega) (by omega)
                refine va_iast hx hb hK hP hD hS 5 4 rfl rfl (by unfold vp_in; decide) dX6_tryPair_277 (fun H_68 locs hP hD hS => ?_)
                obtain ⟨hP, hD⟩ := z_s_5 hP hD
                generalize (upd f_66 (3 : Int32).toNatClampNeg z_67) = f_69 at hP hD
                refine z_backQ hQQ ?_
                have hP9 := hP
                have hD9 := hD
                have hK9 := hK.sub (tys' := []) [] rfl
                refine W.widen (k := 0) (n := 0) (Nat.le_of_ble_eq_true rfl) (Nat.le_of_ble_eq_true rfl) ?_
                exact W.vret hx hb hr (fun t ht hW => ⟨⟨(), rfl, trivial, ⟨r_18, f_9, f_10, f_69, by rw [ht]; exact hP9, va_K.moved hW.alike hK9, hD9⟩⟩, hS.F ht⟩) hS.2.2 dX6_tryPair_278
              · have k_70 : (rm).toInt ≠ (-1 : Int) := z_ne c_57
                refine lv_iload hx hb dX6_tryPair_230 (lv_at hl 0 rfl) ?_
                refine lv_aload_n hx hb dX6_tryPair_232 rfl (lv_at hl 5 rfl) ?_
                refine va_get (D := (dC, dI)) (ci := 6) (v := .int rm) (C := RX6) (T := TX6) (N := 7) hx hb hts hiX6 hown hK hP 0 rfl rfl 6 (by decide) w__fieldLink_RX6_30_ShellHeap_Readers_miss_I_ (fun _ h9 => h9) rfl dX6_tryPair_233 ?_
                refine lv_icmp_ge (tgt := 278) hx hb dX6_tryPair_236 (by decide) (fun c_71 => ?_) (fun c_71 => ?_)
                · have k_72 : (rm).toInt ≤ (r_18).toInt := z_le c_71
                  refine z_backQ hQQ ?_
                  have hP9 := hP
                  have hD9 := hD
                  have hK9 := hK.sub (tys' := []) [] rfl
                  refine W.widen (k := 0) (n := 0) (Nat.le_of_ble_eq_true rfl) (Nat.le_of_ble_eq_true rfl) ?_
                  exact W.vret hx hb hr (fun t ht hW => ⟨⟨(), rfl, trivial, ⟨rm, f_9, f_10, fh5, by rw [ht]; exact hP9, va_K.moved hW.alike hK9, hD9⟩⟩, hS.F ht⟩) hS.2.2 dX6_tryPair_278
                · have k_73 : (rm).toInt > (r_18).toInt := z_nle c_71
                  refine lv_aload_n hx hb dX6_tryPair_239 rfl (lv_at hl 5 rfl) ?_
                  refine lv_iload hx hb dX6_tryPair_240 (lv_at hl 0 rfl) ?_
                  refine va_put (D := (dC, dI)) (ci := 6) (v := .int r_18) (ty := .int) (C := RX6) (T := TX6) (N := 7) hx hb hts hiX6 tyX6 tyX6_ok nmX6 hown hK hP hD hS 0 rfl rfl 6 (by decide) w__fieldLink_RX6_30_ShellHeap_Readers_miss_I_ (fun _ h9 => h9) rfl (by decide +kernel) rfl rfl (Nat.le_of_ble_eq_true rfl) dX6_tryPair_242 (fun H_74 locs hP hD hS => ?_)
                  obtain ⟨hP, hD⟩ := z_s_0_6 hP hD
                  refine lv_aload_n hx hb dX6_tryPair_245 rfl (lv_at hl 5 rfl) ?_
                  refine va_get (D := (dC, dI)) (ci := 6) (v := .ref h5) (C := RX6) (T := TX6) (N := 7) hx hb hts hiX6 hown hK hP 0 rfl rfl 5 (by decide) w__fieldLink_RX6_27_ShellHeap_Readers_died_I_ (fun _ h9 => h9) rfl dX6_tryPair_246 ?_
                  refine lv_iconst (v := 0) hx hb dX6_tryPair_249 (by decide) ?_
                  refine lv_iload_n hx hb dX6_tryPair_250 rfl (lv_at hl 7 rfl) ?_
                  refine va_iast hx hb hK hP hD hS 5 4 rfl rfl (by unfold vp_in; decide) dX6_tryPair_251 (fun H_75 locs hP hD hS => ?_)
                  obtain ⟨hP, hD⟩ := z_s_5 hP hD
                  generalize (upd fh5 (0 : Int32).toNatClampNeg p2) = f_76 at hP hD
                  refine lv_aload_n hx hb dX6_tryPair_252 rfl (lv_at hl 5 rfl) ?_
                  refine va_get (D := (dC, dI)) (ci := 6) (v := .ref h5) (C := RX6) (T := TX6) (N := 7) hx hb hts hiX6 hown hK hP 0 rfl rfl 5 (by decide) w__fieldLink_RX6_27_ShellHeap_Readers_died_I_ (fun _ h9 => h9) rfl dX6_tryPair_253 ?_
                  refine lv_iconst (v := 1) hx hb dX6_tryPair_256 (by decide) ?_
                  refine lv_iload_n hx hb dX6_tryPair_257 rfl (lv_at hl 8 rfl) ?_
                  refine va_iast hx hb hK hP hD hS 5 4 rfl rfl (by unfold vp_in; decide) dX6_tryPair_258 (fun H_77 locs hP hD hS => ?_)
                  obtain ⟨hP, hD⟩ := z_s_5 hP hD
                  generalize (upd f_76 (1 : Int32).toNatClampNeg p3) = f_78 at hP hD
                  refine lv_aload_n hx hb dX6_tryPair_259 rfl (lv_at hl 5 rfl) ?_
                  refine va_get (D := (dC, dI)) (ci := 6) (v := .ref h5) (C := RX6) (T := TX6) (N := 7) hx hb hts hiX6 hown hK hP 0 rfl rfl 5 (by decide) w__fieldLink_RX6_27_ShellHeap_Readers_died_I_ (fun _ h9 => h9) rfl dX6_tryPair_260 ?_
                  refine lv_iconst (v := 2) hx hb dX6_tryPair_263 (by decide) ?_
                  refine lv_iload hx hb dX6_tryPair_264 (lv_at hl 1 rfl) ?_
                  refine va_iast hx hb hK hP hD hS 5 4 rfl rfl (by unfold vp_in; decide) dX6_tryPair_266 (fun H_79 locs hP hD hS => ?_)
                  obtain ⟨hP, hD⟩ := z_s_5 hP hD
                  generalize (upd f_78 (2 : Int32).toNatClampNeg 0) = f_80 at hP hD
                  refine lv_aload_n hx hb dX6_tryPair_267 rfl (lv_at hl 5 rfl) ?_
                  refine va_get (D := (dC, dI)) (ci := 6) (v := .ref h5) (C := RX6) (T := TX6) (N := 7) hx hb hts hiX6 hown hK hP 0 rfl rfl 5 (by decide) w__fieldLink_RX6_27_ShellHeap_Readers_died_I_ (fun _ h9 => h9) rfl dX6_tryPair_268 ?_
                  refine lv_iconst (v := 3) hx hb dX6_tryPair_271 (by decide) ?_
                  refine lv_iload hx hb dX6_tryPair_272 (lv_at hl 9 rfl) ?_
                  refine lv_iload hx hb dX6_tryPair_274 (lv_at hl 1 rfl) ?_
                  refine lv_isub hx hb dX6_tryPair_276 ?_
                  refine lv_topi (fun z_81 ez_81 => ?_)
                  have kr_z_81_p4 := z_rng p4
                  have kz_81 : (z_81).toInt = (p4).toInt - (0 : Int) := by rw [ez_81]; exact z_sub (a := (p4).toInt) (b := (0 : Int)) rfl rfl (by omega) (by omega)
                  refine va_iast hx hb hK hP hD hS 5 4 rfl rfl (by unfold vp_in; decide) dX6_tryPair_277 (fun H_82 locs hP hD hS => ?_)
                  obtain ⟨hP, hD⟩ := z_s_5 hP hD
                  generalize (upd f_80 (3 : Int32).toNatClampNeg z_81) = f_83 at hP hD
                  refine z_backQ hQQ ?_
                  have hP9 := hP
                  have hD9 := hD
                  have hK9 := hK.sub (tys' := []) [] rfl
                  refine W.widen (k := 0) (n := 0) (Nat.le_of_ble_eq_true rfl) (Nat.le_of_ble_eq_true rfl) ?_
                  exact W.vret hx hb hr (fun t ht hW => ⟨⟨(), rfl, trivial, ⟨r_18, f_9, f_10, f_83, by rw [ht]; exact hP9, va_K.moved hW.alike hK9, hD9⟩⟩, hS.F ht⟩) hS.2.2 dX6_tryPair_278
            · have k_84 : (r_18).toInt > (r_53).toInt := z_nle c_55
              refine lv_iinc (v := 1) (lv' := [(8, .int 1), (9, .int r_18), (7, .int c_8), (6, .int a_7), (5, .int z_2), (0, .ref h0), (1, .int p1), (2, .int p2), (3, .int p3), (4, .int p4)]) hx hb dX6_tryPair_211 hl (k := 1) rfl (by decide) (by decide) rfl (fun ls hl => ?_)
              refine lv_aload_n hx hb dX6_tryPair_214 rfl (lv_at hl 5 rfl) ?_
              refine lv_iload hx hb dX6_tryPair_215 (lv_at hl 0 rfl) ?_
              obtain ⟨hPc, hDc⟩ := z_sub2 (ws' := [(h0, .inr (6, [.ref h1, h0_1, .ref h2, .ref h3, .ref h4, .ref h5, .int rm])), (h3, .inl (ch3, 4, .inl f_9)), (h4, .inl (ch4, 4, .inl f_10))]) hP hD [0, 3, 4] (by decide) rfl
              have hKc := hK.sub (tys' := [(ch3, .int), (ch4, .int)]) [2, 3] rfl
              have hFc := va_free (ws := []) (wc := []) (z_D0 _) hS hA [] rfl
              refine va_calli (va_runV (As := [.int 1]) (rest := []) ⟨hx, hb, hml, hown, hts⟩ (s_X6_missAt l dC dI H_52.size h0 1 (.ref h1) h0_1 (.ref h2) h3 h4 (.ref h5) (.int rm) ch3 f_9 ch4 f_10) (cwV 1 hts gw_s_X6_tryPair_s_X6_missAt_47 rfl rfl rfl (by decide +kernel) ⟨Nat.le_of_ble_eq_true rfl, Nat.le_of_ble_eq_true rfl⟩) ⟨z_blind, va_recv hKc hPc (ci := 6) (q0 := 0) rfl rfl, z_pre hPc hKc hDc⟩ rfl rfl hl.1 rfl (lv_room (Nat.le_of_ble_eq_true rfl)) dX6_tryPair_217 ⟨Nat.le_of_ble_eq_true rfl, Nat.le_of_ble_eq_true rfl⟩) hS (fun q _ h => hFc q h) hFc (fun r_86 u t H_85 locs ht hvm hw_87 hB hz1 hk1 hS => ?_)
              replace hP := z_pure hP hk1
              clear hPc hDc hKc
              refine lv_istore (lv' := [(9, .int r_86), (8, .int 1), (7, .int c_8), (6, .int a_7), (5, .int z_2), (0, .ref h0), (1, .int p1), (2, .int p2), (3, .int p3), (4, .int p4)]) hx hb dX6_tryPair_220 hl (by decide) rfl (fun ls hl => ?_)
              refine lv_aload_n hx hb dX6_tryPair_222 rfl (lv_at hl 5 rfl) ?_
              refine va_get (D := (dC, dI)) (ci := 6) (v := .int rm) (C := RX6) (T := TX6) (N := 7) hx hb hts hiX6 hown hK hP 0 rfl rfl 6 (by decide) w__fieldLink_RX6_30_ShellHeap_Readers_miss_I_ (fun _ h9 => h9) rfl dX6_tryPair_223 ?_
              refine lv_iconst (v := (-1)) hx hb dX6_tryPair_226 (by decide) ?_
              refine lv_icmp_eq (tgt := 239) hx hb dX6_tryPair_227 (by decide) (fun c_88 => ?_) (fun c_88 => ?_)
              · have k_89 : (rm).toInt = (-1 : Int) := z_eq c_88
                obtain rfl : rm = (-1) := z_eq' (show (rm).toInt = (-1 : Int) by omega)
                refine lv_aload_n hx hb dX6_tryPair_239 rfl (lv_at hl 5 rfl) ?_
                refine lv_iload hx hb dX6_tryPair_240 (lv_at hl 0 rfl) ?_
                refine va_put (D := (dC, dI)) (ci := 6) (v := .int r_86) (ty := .int) (C := RX6) (T := TX6) (N := 7) hx hb hts hiX6 tyX6 tyX6_ok nmX6 hown hK hP hD hS 0 rfl rfl 6 (by decide) w__fieldLink_RX6_30_ShellHeap_Readers_miss_I_ (fun _ h9 => h9) rfl (by decide +kernel) rfl rfl (Nat.le_of_ble_eq_true rfl) dX6_tryPair_242 (fun H_91 locs hP hD hS => ?_)
                obtain ⟨hP, hD⟩ := z_s_0_6 hP hD
                refine lv_aload_n hx hb dX6_tryPair_245 rfl (lv_at hl 5 rfl) ?_
                refine va_get (D := (dC, dI)) (ci := 6) (v := .ref h5) (C := RX6) (T := TX6) (N := 7) hx hb hts hiX6 hown hK hP 0 rfl rfl 5 (by decide) w__fieldLink_RX6_27_ShellHeap_Readers_died_I_ (fun _ h9 => h9) rfl dX6_tryPair_246 ?_
                refine lv_iconst (v := 0) hx hb dX6_tryPair_249 (by decide) ?_
                refine lv_iload_n hx hb dX6_tryPair_250 rfl (lv_at hl 7 rfl) ?_
                refine va_iast hx hb hK hP hD hS 5 4 rfl rfl (by unfold vp_in; decide) dX6_tryPair_251 (fun H_92 locs hP hD hS => ?_)
                obtain ⟨hP, hD⟩ := z_s_5 hP hD
                generalize (upd fh5 (0 : Int32).toNatClampNeg p2) = f_93 at hP hD
                refine lv_aload_n hx hb dX6_tryPair_252 rfl (lv_at hl 5 rfl) ?_
                refine va_get (D := (dC, dI)) (ci := 6) (v := .ref h5) (C := RX6) (T := TX6) (N := 7) hx hb hts hiX6 hown hK hP 0 rfl rfl 5 (by decide) w__fieldLink_RX6_27_ShellHeap_Readers_died_I_ (fun _ h9 => h9) rfl dX6_tryPair_253 ?_
                refine lv_iconst (v := 1) hx hb dX6_tryPair_256 (by decide) ?_
                refine lv_iload_n hx hb dX6_tryPair_257 rfl (lv_at hl 8 rfl) ?_
                refine va_iast hx hb hK hP hD hS 5 4 rfl rfl (by unfold vp_in; decide) dX6_tryPair_258 (fun H_94 locs hP hD hS => ?_)
                obtain ⟨hP, hD⟩ := z_s_5 hP hD
                generalize (upd f_93 (1 : Int32).toNatClampNeg p3) = f_95 at hP hD
                refine lv_aload_n hx hb dX6_tryPair_259 rfl (lv_at hl 5 rfl) ?_
                refine va_get (D := (dC, dI)) (ci := 6) (v := .ref h5) (C := RX6) (T := TX6) (N := 7) hx hb hts hiX6 hown hK hP 0 rfl rfl 5 (by decide) w__fieldLink_RX6_27_ShellHeap_Readers_died_I_ (fun _ h9 => h9) rfl dX6_tryPair_260 ?_
                refine lv_iconst (v := 2) hx hb dX6_tryPair_263 (by decide) ?_
                refine lv_iload hx hb dX6_tryPair_264 (lv_at hl 1 rfl) ?_
                refine va_iast hx hb hK hP hD hS 5 4 rfl rfl (by unfold vp_in; decide) dX6_tryPair_266 (fun H_96 locs hP hD hS => ?_)
                obtain ⟨hP, hD⟩ := z_s_5 hP hD
                generalize (upd f_95 (2 : Int32).toNatClampNeg 1) = f_97 at hP hD
                refine lv_aload_n hx hb dX6_tryPair_267 rfl (lv_at hl 5 rfl) ?_
                refine va_get (D := (dC, dI)) (ci := 6) (v := .ref h5) (C := RX6) (T := TX6) (N := 7) hx hb hts hiX6 hown hK hP 0 rfl rfl 5 (by decide) w__fieldLink_RX6_27_ShellHeap_Readers_died_I_ (fun _ h9 => h9) rfl dX6_tryPair_268 ?_
                refine lv_iconst (v := 3) hx hb dX6_tryPair_271 (by decide) ?_
                refine lv_iload hx hb dX6_tryPair_272 (lv_at hl 9 rfl) ?_
                refine lv_iload hx hb dX6_tryPair_274 (lv_at hl 1 rfl) ?_
                refine lv_isub hx hb dX6_tryPair_276 ?_
                refine lv_topi (fun z_98 ez_98 => ?_)
                have kr_z_98_p4 := z_rng p4
                have kz_98 : (z_98).toInt = (p4).toInt - (1 : Int) := by rw [ez_98]; exact z_sub (a := (p4).toInt) (b := (1 : Int)) rfl rfl (by omega) (by omega)
                refine va_iast hx hb hK hP hD hS 5 4 rfl rfl (by unfold vp_in; decide) dX6_tryPair_277 (fun H_99 locs hP hD hS => ?_)
                obtain ⟨hP, hD⟩ := z_s_5 hP hD
                generalize (upd f_97 (3 : Int32).toNatClampNeg z_98) = f_100 at hP hD
                refine z_backQ hQQ ?_
                have hP9 := hP
                have hD9 := hD
                have hK9 := hK.sub (tys' := []) [] rfl
                refine W.widen (k := 0) (n := 0) (Nat.le_of_ble_eq_true rfl) (Nat.le_of_ble_eq_true rfl) ?_
                exact W.vret hx hb hr (fun t ht hW => ⟨⟨(), rfl, trivial, ⟨r_86, f_9, f_10, f_100, by rw [ht]; exact hP9, va_K.moved hW.alike hK9, hD9⟩⟩, hS.F ht⟩) hS.2.2 dX6_tryPair_278
              · have k_101 : (rm).toInt ≠ (-1 : Int) := z_ne c_88
                refine lv_iload hx hb dX6_tryPair_230 (lv_at hl 0 rfl) ?_
                refine lv_aload_n hx hb dX6_tryPair_232 rfl (lv_at hl 5 rfl) ?_
                refine va_get (D := (dC, dI)) (ci := 6) (v := .int rm) (C := RX6) (T := TX6) (N := 7) hx hb hts hiX6 hown hK hP 0 rfl rfl 6 (by decide) w__fieldLink_RX6_30_ShellHeap_Readers_miss_I_ (fun _ h9 => h9) rfl dX6_tryPair_233 ?_
                refine lv_icmp_ge (tgt := 278) hx hb dX6_tryPair_236 (by decide) (fun c_102 => ?_) (fun c_102 => ?_)
                · have k_103 : (rm).toInt ≤ (r_86).toInt := z_le c_102
                  refine z_backQ hQQ ?_
                  have hP9 := hP
                  have hD9 := hD
                  have hK9 := hK.sub (tys' := []) [] rfl
                  refine W.widen (k := 0) (n := 0) (Nat.le_of_ble_eq_true rfl) (Nat.le_of_ble_eq_true rfl) ?_
                  exact W.vret hx hb hr (fun t ht hW => ⟨⟨(), rfl, trivial, ⟨rm, f_9, f_10, fh5, by rw [ht]; exact hP9, va_K.moved hW.alike hK9, hD9⟩⟩, hS.F ht⟩) hS.2.2 dX6_tryPair_278
                · have k_104 : (rm).toInt > (r_86).toInt := z_nle c_102
                  refine lv_aload_n hx hb dX6_tryPair_239 rfl (lv_at hl 5 rfl) ?_
                  refine lv_iload hx hb dX6_tryPair_240 (lv_at hl 0 rfl) ?_
                  refine va_put (D := (dC, dI)) (ci := 6) (v := .int r_86) (ty := .int) (C := RX6) (T := TX6) (N := 7) hx hb hts hiX6 tyX6 tyX6_ok nmX6 hown hK hP hD hS 0 rfl rfl 6 (by decide) w__fieldLink_RX6_30_ShellHeap_Readers_miss_I_ (fun _ h9 => h9) rfl (by decide +kernel) rfl rfl (Nat.le_of_ble_eq_true rfl) dX6_tryPair_242 (fun H_105 locs hP hD hS => ?_)
                  obtain ⟨hP, hD⟩ := z_s_0_6 hP hD
                  refine lv_aload_n hx hb dX6_tryPair_245 rfl (lv_at hl 5 rfl) ?_
                  refine va_get (D := (dC, dI)) (ci := 6) (v := .ref h5) (C := RX6) (T := TX6) (N := 7) hx hb hts hiX6 hown hK hP 0 rfl rfl 5 (by decide) w__fieldLink_RX6_27_ShellHeap_Readers_died_I_ (fun _ h9 => h9) rfl dX6_tryPair_246 ?_
                  refine lv_iconst (v := 0) hx hb dX6_tryPair_249 (by decide) ?_
                  refine lv_iload_n hx hb dX6_tryPair_250 rfl (lv_at hl 7 rfl) ?_
                  refine va_iast hx hb hK hP hD hS 5 4 rfl rfl (by unfold vp_in; decide) dX6_tryPair_251 (fun H_106 locs hP hD hS => ?_)
                  obtain ⟨hP, hD⟩ := z_s_5 hP hD
                  generalize (upd fh5 (0 : Int32).toNatClampNeg p2) = f_107 at hP hD
                  refine lv_aload_n hx hb dX6_tryPair_252 rfl (lv_at hl 5 rfl) ?_
                  refine va_get (D := (dC, dI)) (ci := 6) (v := .ref h5) (C := RX6) (T := TX6) (N := 7) hx hb hts hiX6 hown hK hP 0 rfl rfl 5 (by decide) w__fieldLink_RX6_27_ShellHeap_Readers_died_I_ (fun _ h9 => h9) rfl dX6_tryPair_253 ?_
                  refine lv_iconst (v := 1) hx hb dX6_tryPair_256 (by decide) ?_
                  refine lv_iload_n hx hb dX6_tryPair_257 rfl (lv_at hl 8 rfl) ?_
                  refine va_iast hx hb hK hP hD hS 5 4 rfl rfl (by unfold vp_in; decide) dX6_tryPair_258 (fun H_108 locs hP hD hS => ?_)
                  obtain ⟨hP, hD⟩ := z_s_5 hP hD
                  generalize (upd f_107 (1 : Int32).toNatClampNeg p3) = f_109 at hP hD
                  refine lv_aload_n hx hb dX6_tryPair_259 rfl (lv_at hl 5 rfl) ?_
                  refine va_get (D := (dC, dI)) (ci := 6) (v := .ref h5) (C := RX6) (T := TX6) (N := 7) hx hb hts hiX6 hown hK hP 0 rfl rfl 5 (by decide) w__fieldLink_RX6_27_ShellHeap_Readers_died_I_ (fun _ h9 => h9) rfl dX6_tryPair_260 ?_
                  refine lv_iconst (v := 2) hx hb dX6_tryPair_263 (by decide) ?_
                  refine lv_iload hx hb dX6_tryPair_264 (lv_at hl 1 rfl) ?_
                  refine va_iast hx hb hK hP hD hS 5 4 rfl rfl (by unfold vp_in; decide) dX6_tryPair_266 (fun H_110 locs hP hD hS => ?_)
                  obtain ⟨hP, hD⟩ := z_s_5 hP hD
                  generalize (upd f_109 (2 : Int32).toNatClampNeg 1) = f_111 at hP hD
                  refine lv_aload_n hx hb dX6_tryPair_267 rfl (lv_at hl 5 rfl) ?_
                  refine va_get (D := (dC, dI)) (ci := 6) (v := .ref h5) (C := RX6) (T := TX6) (N := 7) hx hb hts hiX6 hown hK hP 0 rfl rfl 5 (by decide) w__fieldLink_RX6_27_ShellHeap_Readers_died_I_ (fun _ h9 => h9) rfl dX6_tryPair_268 ?_
                  refine lv_iconst (v := 3) hx hb dX6_tryPair_271 (by decide) ?_
                  refine lv_iload hx hb dX6_tryPair_272 (lv_at hl 9 rfl) ?_
                  refine lv_iload hx hb dX6_tryPair_274 (lv_at hl 1 rfl) ?_
                  refine lv_isub hx hb dX6_tryPair_276 ?_
                  refine lv_topi (fun z_112 ez_112 => ?_)
                  have kr_z_112_p4 := z_rng p4
                  have kz_112 : (z_112).toInt = (p4).toInt - (1 : Int) := by rw [ez_112]; exact z_sub (a := (p4).toInt) (b := (1 : Int)) rfl rfl (by omega) (by omega)
                  refine va_iast hx hb hK hP hD hS 5 4 rfl rfl (by unfold vp_in; decide) dX6_tryPair_277 (fun H_113 locs hP hD hS => ?_)
                  obtain ⟨hP, hD⟩ := z_s_5 hP hD
                  generalize (upd f_111 (3 : Int32).toNatClampNeg z_112) = f_114 at hP hD
                  refine z_backQ hQQ ?_
                  have hP9 := hP
                  have hD9 := hD
                  have hK9 := hK.sub (tys' := []) [] rfl
                  refine W.widen (k := 0) (n := 0) (Nat.le_of_ble_eq_true rfl) (Nat.le_of_ble_eq_true rfl) ?_
                  exact W.vret hx hb hr (fun t ht hW => ⟨⟨(), rfl, trivial, ⟨r_86, f_9, f_10, f_114, by rw [ht]; exact hP9, va_K.moved hW.alike hK9, hD9⟩⟩, hS.F ht⟩) hS.2.2 dX6_tryPair_278
        · have k_115 : (c_8).toInt > (0 : Int) := z_nle c_15
          refine lv_iload hx hb dX6_tryPair_162 (lv_at hl 2 rfl) ?_
          refine lv_if_le (tgt := 180) hx hb dX6_tryPair_164 (by decide) (fun c_116 => ?_) (fun c_116 => ?_)
          · have k_117 : (a_7).toInt ≤ (0 : Int) := z_le c_116
            refine lv_iconst (v := 0) hx hb dX6_tryPair_180 (by decide) ?_
            refine lv_istore (lv' := [(8, .int 0), (7, .int c_8), (6, .int a_7), (5, .int z_2), (0, .ref h0), (1, .int p1), (2, .int p2), (3, .int p3), (4, .int p4)]) hx hb dX6_tryPair_181 hl (by decide) rfl (fun ls hl => ?_)
            refine lv_aload_n hx hb dX6_tryPair_183 rfl (lv_at hl 4 rfl) ?_
            refine lv_iload hx hb dX6_tryPair_184 (lv_at hl 0 rfl) ?_
            obtain ⟨hPc, hDc⟩ := z_sub2 (ws' := [(h0, .inr (6, [.ref h1, h0_1, .ref h2, .ref h3, .ref h4, .ref h5, .int rm])), (h3, .inl (ch3, 4, .inl f_9)), (h4, .inl (ch4, 4, .inl f_10))]) hP hD [0, 3, 4] (by decide) rfl
            have hKc := hK.sub (tys' := [(ch3, .int), (ch4, .int)]) [2, 3] rfl
            have hFc := va_free (ws := []) (wc := []) (z_D0 _) hS hA [] rfl
            refine va_calli (va_runV (As := [.int 0]) (rest := []) ⟨hx, hb, hml, hown, hts⟩ (s_X6_missAt l dC dI H.size h0 0 (.ref h1) h0_1 (.ref h2) h3 h4 (.ref h5) (.int rm) ch3 f_9 ch4 f_10) (cwV 1 hts gw_s_X6_tryPair_s_X6_missAt_47 rfl rfl rfl (by decide +kernel) ⟨Nat.le_of_ble_eq_true rfl, Nat.le_of_ble_eq_true rfl⟩) ⟨z_blind, va_recv hKc hPc (ci := 6) (q0 := 0) rfl rfl, z_pre hPc hKc hDc⟩ rfl rfl hl.1 rfl (lv_room (Nat.le_of_ble_eq_true rfl)) dX6_tryPair_186 ⟨Nat.le_of_ble_eq_true rfl, Nat.le_of_ble_eq_true rfl⟩) hS (fun q _ h => hFc q h) hFc (fun r_119 u t H_118 locs ht hvm hw_120 hB hz1 hk1 hS => ?_)
            replace hP := z_pure hP hk1
            clear hPc hDc hKc
            refine lv_istore (lv' := [(9, .int r_119), (8, .int 0), (7, .int c_8), (6, .int a_7), (5, .int z_2), (0, .ref h0), (1, .int p1), (2, .int p2), (3, .int p3), (4, .int p4)]) hx hb dX6_tryPair_189 hl (by decide) rfl (fun ls hl => ?_)
            refine lv_iload hx hb dX6_tryPair_191 (lv_at hl 1 rfl) ?_
            refine lv_iload hx hb dX6_tryPair_193 (lv_at hl 9 rfl) ?_
            refine lv_icmp_ge (tgt := 222) hx hb dX6_tryPair_195 (by decide) (fun c_121 => ?_) (fun c_121 => ?_)
            · have k_122 : (p4).toInt ≤ (0 : Int) := z_le c_121
              refine lv_aload_n hx hb dX6_tryPair_222 rfl (lv_at hl 5 rfl) ?_
              refine va_get (D := (dC, dI)) (ci := 6) (v := .int rm) (C := RX6) (T := TX6) (N := 7) hx hb hts hiX6 hown hK hP 0 rfl rfl 6 (by decide) w__fieldLink_RX6_30_ShellHeap_Readers_miss_I_ (fun _ h9 => h9) rfl dX6_tryPair_223 ?_
              refine lv_iconst (v := (-1)) hx hb dX6_tryPair_226 (by decide) ?_
              refine lv_icmp_eq (tgt := 239) hx hb dX6_tryPair_227 (by decide) (fun c_123 => ?_) (fun c_123 => ?_)
              · have k_124 : (rm).toInt = (-1 : Int) := z_eq c_123
                obtain rfl : rm = (-1) := z_eq' (show (rm).toInt = (-1 : Int) by omega)
                refine lv_aload_n hx hb dX6_tryPair_239 rfl (lv_at hl 5 rfl) ?_
                refine lv_iload hx hb dX6_tryPair_240 (lv_at hl 0 rfl) ?_
                refine va_put (D := (dC, dI)) (ci := 6) (v := .int r_119) (ty := .int) (C := RX6) (T := TX6) (N := 7) hx hb hts hiX6 tyX6 tyX6_ok nmX6 hown hK hP hD hS 0 rfl rfl 6 (by decide) w__fieldLink_RX6_30_ShellHeap_Readers_miss_I_ (fun _ h9 => h9) rfl (by decide +kernel) rfl rfl (Nat.le_of_ble_eq_true rfl) dX6_tryPair_242 (fun H_126 locs hP hD hS => ?_)
                obtain ⟨hP, hD⟩ := z_s_0_6 hP hD
                refine lv_aload_n hx hb dX6_tryPair_245 rfl (lv_at hl 5 rfl) ?_
                refine va_get (D := (dC, dI)) (ci := 6) (v := .ref h5) (C := RX6) (T := TX6) (N := 7) hx hb hts hiX6 hown hK hP 0 rfl rfl 5 (by decide) w__fieldLink_RX6_27_ShellHeap_Readers_died_I_ (fun _ h9 => h9) rfl dX6_tryPair_246 ?_
                refine lv_iconst (v := 0) hx hb dX6_tryPair_249 (by decide) ?_
                refine lv_iload_n hx hb dX6_tryPair_250 rfl (lv_at hl 7 rfl) ?_
                refine va_iast hx hb hK hP hD hS 5 4 rfl rfl (by unfold vp_in; decide) dX6_tryPair_251 (fun H_127 locs hP hD hS => ?_)
                obtain ⟨hP, hD⟩ := z_s_5 hP hD
                generalize (upd fh5 (0 : Int32).toNatClampNeg p2) = f_128 at hP hD
                refine lv_aload_n hx hb dX6_tryPair_252 rfl (lv_at hl 5 rfl) ?_
                refine va_get (D := (dC, dI)) (ci := 6) (v := .ref h5) (C := RX6) (T := TX6) (N := 7) hx hb hts hiX6 hown hK hP 0 rfl rfl 5 (by decide) w__fieldLink_RX6_27_ShellHeap_Readers_died_I_ (fun _ h9 => h9) rfl dX6_tryPair_253 ?_
                refine lv_iconst (v := 1) hx hb dX6_tryPair_256 (by decide) ?_
                refine lv_iload_n hx hb dX6_tryPair_257 rfl (lv_at hl 8 rfl) ?_
                refine va_iast hx hb hK hP hD hS 5 4 rfl rfl (by unfold vp_in; decide) dX6_tryPair_258 (fun H_129 locs hP hD hS => ?_)
                obtain ⟨hP, hD⟩ := z_s_5 hP hD
                generalize (upd f_128 (1 : Int32).toNatClampNeg p3) = f_130 at hP hD
                refine lv_aload_n hx hb dX6_tryPair_259 rfl (lv_at hl 5 rfl) ?_
                refine va_get (D := (dC, dI)) (ci := 6) (v := .ref h5) (C := RX6) (T := TX6) (N := 7) hx hb hts hiX6 hown hK hP 0 rfl rfl 5 (by decide) w__fieldLink_RX6_27_ShellHeap_Readers_died_I_ (fun _ h9 => h9) rfl dX6_tryPair_260 ?_
                refine lv_iconst (v := 2) hx hb dX6_tryPair_263 (by decide) ?_
                refine lv_iload hx hb dX6_tryPair_264 (lv_at hl 1 rfl) ?_
                refine va_iast hx hb hK hP hD hS 5 4 rfl rfl (by unfold vp_in; decide) dX6_tryPair_266 (fun H_131 locs hP hD hS => ?_)
                obtain ⟨hP, hD⟩ := z_s_5 hP hD
                generalize (upd f_130 (2 : Int32).toNatClampNeg 0) = f_132 at hP hD
                refine lv_aload_n hx hb dX6_tryPair_267 rfl (lv_at hl 5 rfl) ?_
                refine va_get (D := (dC, dI)) (ci := 6) (v := .ref h5) (C := RX6) (T := TX6) (N := 7) hx hb hts hiX6 hown hK hP 0 rfl rfl 5 (by decide) w__fieldLink_RX6_27_ShellHeap_Readers_died_I_ (fun _ h9 => h9) rfl dX6_tryPair_268 ?_
                refine lv_iconst (v := 3) hx hb dX6_tryPair_271 (by decide) ?_
                refine lv_iload hx hb dX6_tryPair_272 (lv_at hl 9 rfl) ?_
                refine lv_iload hx hb dX6_tryPair_274 (lv_at hl 1 rfl) ?_
                refine lv_isub hx hb dX6_tryPair_276 ?_
                refine lv_topi (fun z_133 ez_133 => ?_)
                have kr_z_133_p4 := z_rng p4
                have kz_133 : (z_133).toInt = (p4).toInt - (0 : Int) := by rw [ez_133]; exact z_sub (a := (p4).toInt) (b := (0 : Int)) rfl rfl (by omega) (by omega)
                refine va_iast hx hb hK hP hD hS 5 4 rfl rfl (by unfold vp_in; decide) dX6_tryPair_277 (fun H_134 locs hP hD hS => ?_)
                obtain ⟨hP, hD⟩ := z_s_5 hP hD
                generalize (upd f_132 (3 : Int32).toNatClampNeg z_133) = f_135 at hP hD
                refine z_backQ hQQ ?_
                have hP9 := hP
                have hD9 := hD
                have hK9 := hK.sub (tys' := []) [] rfl
                refine W.widen (k := 0) (n := 0) (Nat.le_of_ble_eq_true rfl) (Nat.le_of_ble_eq_true rfl) ?_
                exact W.vret hx hb hr (fun t ht hW => ⟨⟨(), rfl, trivial, ⟨r_119, f_9, f_10, f_135, by rw [ht]; exact hP9, va_K.moved hW.alike hK9, hD9⟩⟩, hS.F ht⟩) hS.2.2 dX6_tryPair_278
              · have k_136 : (rm).toInt ≠ (-1 : Int) := z_ne c_123
                refine lv_iload hx hb dX6_tryPair_230 (lv_at hl 0 rfl) ?_
                refine lv_aload_n hx hb dX6_tryPair_232 rfl (lv_at hl 5 rfl) ?_
                refine va_get (D := (dC, dI)) (ci := 6) (v := .int rm) (C := RX6) (T := TX6) (N := 7) hx hb hts hiX6 hown hK hP 0 rfl rfl 6 (by decide) w__fieldLink_RX6_30_ShellHeap_Readers_miss_I_ (fun _ h9 => h9) rfl dX6_tryPair_233 ?_
                refine lv_icmp_ge (tgt := 278) hx hb dX6_tryPair_236 (by decide) (fun c_137 => ?_) (fun c_137 => ?_)
                · have k_138 : (rm).toInt ≤ (r_119).toInt := z_le c_137
                  refine z_backQ hQQ ?_
                  have hP9 := hP
                  have hD9 := hD
                  have hK9 := hK.sub (tys' := []) [] rfl
                  refine W.widen (k := 0) (n := 0) (Nat.le_of_ble_eq_true rfl) (Nat.le_of_ble_eq_true rfl) ?_
                  exact W.vret hx hb hr (fun t ht hW => ⟨⟨(), rfl, trivial, ⟨rm, f_9, f_10, fh5, by rw [ht]; exact hP9, va_K.moved hW.alike hK9, hD9⟩⟩, hS.F ht⟩) hS.2.2 dX6_tryPair_278
                · have k_139 : (rm).toInt > (r_119).toInt := z_nle c_137
                  refine lv_aload_n hx hb dX6_tryPair_239 rfl (lv_at hl 5 rfl) ?_
                  refine lv_iload hx hb dX6_tryPair_240 (lv_at hl 0 rfl) ?_
                  refine va_put (D := (dC, dI)) (ci := 6) (v := .int r_119) (ty := .int) (C := RX6) (T := TX6) (N := 7) hx hb hts hiX6 tyX6 tyX6_ok nmX6 hown hK hP hD hS 0 rfl rfl 6 (by decide) w__fieldLink_RX6_30_ShellHeap_Readers_miss_I_ (fun _ h9 => h9) rfl (by decide +kernel) rfl rfl (Nat.le_of_ble_eq_true rfl) dX6_tryPair_242 (fun H_140 locs hP hD hS => ?_)
                  obtain ⟨hP, hD⟩ := z_s_0_6 hP hD
                  refine lv_aload_n hx hb dX6_tryPair_245 rfl (lv_at hl 5 rfl) ?_
                  refine va_get (D := (dC, dI)) (ci := 6) (v := .ref h5) (C := RX6) (T := TX6) (N := 7) hx hb hts hiX6 hown hK hP 0 rfl rfl 5 (by decide) w__fieldLink_RX6_27_ShellHeap_Readers_died_I_ (fun _ h9 => h9) rfl dX6_tryPair_246 ?_
                  refine lv_iconst (v := 0) hx hb dX6_tryPair_249 (by decide) ?_
                  refine lv_iload_n hx hb dX6_tryPair_250 rfl (lv_at hl 7 rfl) ?_
                  refine va_iast hx hb hK hP hD hS 5 4 rfl rfl (by unfold vp_in; decide) dX6_tryPair_251 (fun H_141 locs hP hD hS => ?_)
                  obtain ⟨hP, hD⟩ := z_s_5 hP hD
                  generalize (upd fh5 (0 : Int32).toNatClampNeg p2) = f_142 at hP hD
                  refine lv_aload_n hx hb dX6_tryPair_252 rfl (lv_at hl 5 rfl) ?_
                  refine va_get (D := (dC, dI)) (ci := 6) (v := .ref h5) (C := RX6) (T := TX6) (N := 7) hx hb hts hiX6 hown hK hP 0 rfl rfl 5 (by decide) w__fieldLink_RX6_27_ShellHeap_Readers_died_I_ (fun _ h9 => h9) rfl dX6_tryPair_253 ?_
                  refine lv_iconst (v := 1) hx hb dX6_tryPair_256 (by decide) ?_
                  refine lv_iload_n hx hb dX6_tryPair_257 rfl (lv_at hl 8 rfl) ?_
                  refine va_iast hx hb hK hP hD hS 5 4 rfl rfl (by unfold vp_in; decide) dX6_tryPair_258 (fun H_143 locs hP hD hS => ?_)
                  obtain ⟨hP, hD⟩ := z_s_5 hP hD
                  generalize (upd f_142 (1 : Int32).toNatClampNeg p3) = f_144 at hP hD
                  refine lv_aload_n hx hb dX6_tryPair_259 rfl (lv_at hl 5 rfl) ?_
                  refine va_get (D := (dC, dI)) (ci := 6) (v := .ref h5) (C := RX6) (T := TX6) (N := 7) hx hb hts hiX6 hown hK hP 0 rfl rfl 5 (by decide) w__fieldLink_RX6_27_ShellHeap_Readers_died_I_ (fun _ h9 => h9) rfl dX6_tryPair_260 ?_
                  refine lv_iconst (v := 2) hx hb dX6_tryPair_263 (by decide) ?_
                  refine lv_iload hx hb dX6_tryPair_264 (lv_at hl 1 rfl) ?_
                  refine va_iast hx hb hK hP hD hS 5 4 rfl rfl (by unfold vp_in; decide) dX6_tryPair_266 (fun H_145 locs hP hD hS => ?_)
                  obtain ⟨hP, hD⟩ := z_s_5 hP hD
                  generalize (upd f_144 (2 : Int32).toNatClampNeg 0) = f_146 at hP hD
                  refine lv_aload_n hx hb dX6_tryPair_267 rfl (lv_at hl 5 rfl) ?_
                  refine va_get (D := (dC, dI)) (ci := 6) (v := .ref h5) (C := RX6) (T := TX6) (N := 7) hx hb hts hiX6 hown hK hP 0 rfl rfl 5 (by decide) w__fieldLink_RX6_27_ShellHeap_Readers_died_I_ (fun _ h9 => h9) rfl dX6_tryPair_268 ?_
                  refine lv_iconst (v := 3) hx hb dX6_tryPair_271 (by decide) ?_
                  refine lv_iload hx hb dX6_tryPair_272 (lv_at hl 9 rfl) ?_
                  refine lv_iload hx hb dX6_tryPair_274 (lv_at hl 1 rfl) ?_
                  refine lv_isub hx hb dX6_tryPair_276 ?_
                  refine lv_topi (fun z_147 ez_147 => ?_)
                  have kr_z_147_p4 := z_rng p4
                  have kz_147 : (z_147).toInt = (p4).toInt - (0 : Int) := by rw [ez_147]; exact z_sub (a := (p4).toInt) (b := (0 : Int)) rfl rfl (by omega) (by omega)
                  refine va_iast hx hb hK hP hD hS 5 4 rfl rfl (by unfold vp_in; decide) dX6_tryPair_277 (fun H_148 locs hP hD hS => ?_)
                  obtain ⟨hP, hD⟩ := z_s_5 hP hD
                  generalize (upd f_146 (3 : Int32).toNatClampNeg z_147) = f_149 at hP hD
                  refine z_backQ hQQ ?_
                  have hP9 := hP
                  have hD9 := hD
                  have hK9 := hK.sub (tys' := []) [] rfl
                  refine W.widen (k := 0) (n := 0) (Nat.le_of_ble_eq_true rfl) (Nat.le_of_ble_eq_true rfl) ?_
                  exact W.vret hx hb hr (fun t ht hW => ⟨⟨(), rfl, trivial, ⟨r_119, f_9, f_10, f_149, by rw [ht]; exact hP9, va_K.moved hW.alike hK9, hD9⟩⟩, hS.F ht⟩) hS.2.2 dX6_tryPair_278
            · have k_150 : (p4).toInt > (0 : Int) := z_nle c_121
              refine lv_aload_n hx hb dX6_tryPair_198 rfl (lv_at hl 5 rfl) ?_
              refine lv_iload hx hb dX6_tryPair_199 (lv_at hl 1 rfl) ?_
              refine lv_iconst (v := 1) hx hb dX6_tryPair_201 (by decide) ?_
              refine lv_iadd hx hb dX6_tryPair_202 ?_
              refine lv_topi (fun x_151 e_152 => ?_)
              obtain rfl : x_151 = 1 := e_152.trans (by decide)
              obtain ⟨hPc, hDc⟩ := z_sub2 (ws' := [(h0, .inr (6, [.ref h1, h0_1, .ref h2, .ref h3, .ref h4, .ref h5, .int rm])), (h3, .inl (ch3, 4, .inl f_9)), (h4, .inl (ch4, 4, .inl f_10))]) hP hD [0, 3, 4] (by decide) rfl
              have hKc := hK.sub (tys' := [(ch3, .int), (ch4, .int)]) [2, 3] rfl
              have hFc := va_free (ws := []) (wc := []) (z_D0 _) hS hA [] rfl
              refine va_calli (va_runV (As := [.int 1]) (rest := []) ⟨hx, hb, hml, hown, hts⟩ (s_X6_missAt l dC dI H_118.size h0 1 (.ref h1) h0_1 (.ref h2) h3 h4 (.ref h5) (.int rm) ch3 f_9 ch4 f_10) (cwV 1 hts gw_s_X6_tryPair_s_X6_missAt_47 rfl rfl rfl (by decide +kernel) ⟨Nat.le_of_ble_eq_true rfl, Nat.le_of_ble_eq_true rfl⟩) ⟨z_blind, va_recv hKc hPc (ci := 6) (q0 := 0) rfl rfl, z_pre hPc hKc hDc⟩ rfl rfl hl.1 rfl (lv_room (Nat.le_of_ble_eq_true rfl)) dX6_tryPair_203 ⟨Nat.le_of_ble_eq_true rfl, Nat.le_of_ble_eq_true rfl⟩) hS (fun q _ h => hFc q h) hFc (fun r_154 u t H_153 locs ht hvm hw_155 hB hz1 hk1 hS => ?_)
              replace hP := z_pure hP hk1
              clear hPc hDc hKc
              refine lv_iload hx hb dX6_tryPair_206 (lv_at hl 0 rfl) ?_
              refine lv_icmp_ge (tgt := 222) hx hb dX6_tryPair_208 (by decide) (fun c_156 => ?_) (fun c_156 => ?_)
              · have k_157 : (r_119).toInt ≤ (r_154).toInt := z_le c_156
                refine lv_aload_n hx hb dX6_tryPair_222 rfl (lv_at hl 5 rfl) ?_
                refine va_get (D := (dC, dI)) (ci := 6) (v := .int rm) (C := RX6) (T := TX6) (N := 7) hx hb hts hiX6 hown hK hP 0 rfl rfl 6 (by decide) w__fieldLink_RX6_30_ShellHeap_Readers_miss_I_ (fun _ h9 => h9) rfl dX6_tryPair_223 ?_
                refine lv_iconst (v := (-1)) hx hb dX6_tryPair_226 (by decide) ?_
                refine lv_icmp_eq (tgt := 239) hx hb dX6_tryPair_227 (by decide) (fun c_158 => ?_) (fun c_158 => ?_)
                · have k_159 : (rm).toInt = (-1 : Int) := z_eq c_158
                  obtain rfl : rm = (-1) := z_eq' (show (rm).toInt = (-1 : Int) by omega)
                  refine lv_aload_n hx hb dX6_tryPair_239 rfl (lv_at hl 5 rfl) ?_
                  refine lv_iload hx hb dX6_tryPair_240 (lv_at hl 0 rfl) ?_
                  refine va_put (D := (dC, dI)) (ci := 6) (v := .int r_119) (ty := .int) (C := RX6) (T := TX6) (N := 7) hx hb hts hiX6 tyX6 tyX6_ok nmX6 hown hK hP hD hS 0 rfl rfl 6 (by decide) w__fieldLink_RX6_30_ShellHeap_Readers_miss_I_ (fun _ h9 => h9) rfl (by decide +kernel) rfl rfl (Nat.le_of_ble_eq_true rfl) dX6_tryPair_242 (fun H_161 locs hP hD hS => ?_)
                  obtain ⟨hP, hD⟩ := z_s_0_6 hP hD
                  refine lv_aload_n hx hb dX6_tryPair_245 rfl (lv_at hl 5 rfl) ?_
                  refine va_get (D := (dC, dI)) (ci := 6) (v := .ref h5) (C := RX6) (T := TX6) (N := 7) hx hb hts hiX6 hown hK hP 0 rfl rfl 5 (by decide) w__fieldLink_RX6_27_ShellHeap_Readers_died_I_ (fun _ h9 => h9) rfl dX6_tryPair_246 ?_
                  refine lv_iconst (v := 0) hx hb dX6_tryPair_249 (by decide) ?_
                  refine lv_iload_n hx hb dX6_tryPair_250 rfl (lv_at hl 7 rfl) ?_
                  refine va_iast hx hb hK hP hD hS 5 4 rfl rfl (by unfold vp_in; decide) dX6_tryPair_251 (fun H_162 locs hP hD hS => ?_)
                  obtain ⟨hP, hD⟩ := z_s_5 hP hD
                  generalize (upd fh5 (0 : Int32).toNatClampNeg p2) = f_163 at hP hD
                  refine lv_aload_n hx hb dX6_tryPair_252 rfl (lv_at hl 5 rfl) ?_
                  refine va_get (D := (dC, dI)) (ci := 6) (v := .ref h5) (C := RX6) (T := TX6) (N := 7) hx hb hts hiX6 hown hK hP 0 rfl rfl 5 (by decide) w__fieldLink_RX6_27_ShellHeap_Readers_died_I_ (fun _ h9 => h9) rfl dX6_tryPair_253 ?_
                  refine lv_iconst (v := 1) hx hb dX6_tryPair_256 (by decide) ?_
                  refine lv_iload_n hx hb dX6_tryPair_257 rfl (lv_at hl 8 rfl) ?_
                  refine va_iast hx hb hK hP hD hS 5 4 rfl rfl (by unfold vp_in; decide) dX6_tryPair_258 (fun H_164 locs hP hD hS => ?_)
                  obtain ⟨hP, hD⟩ := z_s_5 hP hD
                  generalize (upd f_163 (1 : Int32).toNatClampNeg p3) = f_165 at hP hD
                  refine lv_aload_n hx hb dX6_tryPair_259 rfl (lv_at hl 5 rfl) ?_
                  refine va_get (D := (dC, dI)) (ci := 6) (v := .ref h5) (C := RX6) (T := TX6) (N := 7) hx hb hts hiX6 hown hK hP 0 rfl rfl 5 (by decide) w__fieldLink_RX6_27_ShellHeap_Readers_died_I_ (fun _ h9 => h9) rfl dX6_tryPair_260 ?_
                  refine lv_iconst (v := 2) hx hb dX6_tryPair_263 (by decide) ?_
                  refine lv_iload hx hb dX6_tryPair_264 (lv_at hl 1 rfl) ?_
                  refine va_iast hx hb hK hP hD hS 5 4 rfl rfl (by unfold vp_in; decide) dX6_tryPair_266 (fun H_166 locs hP hD hS => ?_)
                  obtain ⟨hP, hD⟩ := z_s_5 hP hD
                  generalize (upd f_165 (2 : Int32).toNatClampNeg 0) = f_167 at hP hD
                  refine lv_aload_n hx hb dX6_tryPair_267 rfl (lv_at hl 5 rfl) ?_
                  refine va_get (D := (dC, dI)) (ci := 6) (v := .ref h5) (C := RX6) (T := TX6) (N := 7) hx hb hts hiX6 hown hK hP 0 rfl rfl 5 (by decide) w__fieldLink_RX6_27_ShellHeap_Readers_died_I_ (fun _ h9 => h9) rfl dX6_tryPair_268 ?_
                  refine lv_iconst (v := 3) hx hb dX6_tryPair_271 (by decide) ?_
                  refine lv_iload hx hb dX6_tryPair_272 (lv_at hl 9 rfl) ?_
                  refine lv_iload hx hb dX6_tryPair_274 (lv_at hl 1 rfl) ?_
                  refine lv_isub hx hb dX6_tryPair_276 ?_
                  refine lv_topi (fun z_168 ez_168 => ?_)
                  have kr_z_168_p4 := z_rng p4
                  have kz_168 : (z_168).toInt = (p4).toInt - (0 : Int) := by rw [ez_168]; exact z_sub (a := (p4).toInt) (b := (0 : Int)) rfl rfl (by omega) (by omega)
                  refine va_iast hx hb hK hP hD hS 5 4 rfl rfl (by unfold vp_in; decide) dX6_tryPair_277 (fun H_169 locs hP hD hS => ?_)
                  obtain ⟨hP, hD⟩ := z_s_5 hP hD
                  generalize (upd f_167 (3 : Int32).toNatClampNeg z_168) = f_170 at hP hD
                  refine z_backQ hQQ ?_
                  have hP9 := hP
                  have hD9 := hD
                  have hK9 := hK.sub (tys' := []) [] rfl
                  refine W.widen (k := 0) (n := 0) (Nat.le_of_ble_eq_true rfl) (Nat.le_of_ble_eq_true rfl) ?_
                  exact W.vret hx hb hr (fun t ht hW => ⟨⟨(), rfl, trivial, ⟨r_119, f_9, f_10, f_170, by rw [ht]; exact hP9, va_K.moved hW.alike hK9, hD9⟩⟩, hS.F ht⟩) hS.2.2 dX6_tryPair_278
                · have k_171 : (rm).toInt ≠ (-1 : Int) := z_ne c_158
                  refine lv_iload hx hb dX6_tryPair_230 (lv_at hl 0 rfl) ?_
                  refine lv_aload_n hx hb dX6_tryPair_232 rfl (lv_at hl 5 rfl) ?_
                  refine va_get (D := (dC, dI)) (ci := 6) (v := .int rm) (C := RX6) (T := TX6) (N := 7) hx hb hts hiX6 hown hK hP 0 rfl rfl 6 (by decide) w__fieldLink_RX6_30_ShellHeap_Readers_miss_I_ (fun _ h9 => h9) rfl dX6_tryPair_233 ?_
                  refine lv_icmp_ge (tgt := 278) hx hb dX6_tryPair_236 (by decide) (fun c_172 => ?_) (fun c_172 => ?_)
                  · have k_173 : (rm).toInt ≤ (r_119).toInt := z_le c_172
                    refine z_backQ hQQ ?_
                    have hP9 := hP
                    have hD9 := hD
                    have hK9 := hK.sub (tys' := []) [] rfl
                    refine W.widen (k := 0) (n := 0) (Nat.le_of_ble_eq_true rfl) (Nat.le_of_ble_eq_true rfl) ?_
                    exact W.vret hx hb hr (fun t ht hW => ⟨⟨(), rfl, trivial, ⟨rm, f_9, f_10, fh5, by rw [ht]; exact hP9, va_K.moved hW.alike hK9, hD9⟩⟩, hS.F ht⟩) hS.2.2 dX6_tryPair_278
                  · have k_174 : (rm).toInt > (r_119).toInt := z_nle c_172
                    refine lv_aload_n hx hb dX6_tryPair_239 rfl (lv_at hl 5 rfl) ?_
                    refine lv_iload hx hb dX6_tryPair_240 (lv_at hl 0 rfl) ?_
                    refine va_put (D := (dC, dI)) (ci := 6) (v := .int r_119) (ty := .int) (C := RX6) (T := TX6) (N := 7) hx hb hts hiX6 tyX6 tyX6_ok nmX6 hown hK hP hD hS 0 rfl rfl 6 (by decide) w__fieldLink_RX6_30_ShellHeap_Readers_miss_I_ (fun _ h9 => h9) rfl (by decide +kernel) rfl rfl (Nat.le_of_ble_eq_true rfl) dX6_tryPair_242 (fun H_175 locs hP hD hS => ?_)
                    obtain ⟨hP, hD⟩ := z_s_0_6 hP hD
                    refine lv_aload_n hx hb dX6_tryPair_245 rfl (lv_at hl 5 rfl) ?_
                    refine va_get (D := (dC, dI)) (ci := 6) (v := .ref h5) (C := RX6) (T := TX6) (N := 7) hx hb hts hiX6 hown hK hP 0 rfl rfl 5 (by decide) w__fieldLink_RX6_27_ShellHeap_Readers_died_I_ (fun _ h9 => h9) rfl dX6_tryPair_246 ?_
                    refine lv_iconst (v := 0) hx hb dX6_tryPair_249 (by decide) ?_
                    refine lv_iload_n hx hb dX6_tryPair_250 rfl (lv_at hl 7 rfl) ?_
                    refine va_iast hx hb hK hP hD hS 5 4 rfl rfl (by unfold vp_in; decide) dX6_tryPair_251 (fun H_176 locs hP hD hS => ?_)
                    obtain ⟨hP, hD⟩ := z_s_5 hP hD
                    generalize (upd fh5 (0 : Int32).toNatClampNeg p2) = f_177 at hP hD
                    refine lv_aload_n hx hb dX6_tryPair_252 rfl (lv_at hl 5 rfl) ?_
                    refine va_get (D := (dC, dI)) (ci := 6) (v := .ref h5) (C := RX6) (T := TX6) (N := 7) hx hb hts hiX6 hown hK hP 0 rfl rfl 5 (by decide) w__fieldLink_RX6_27_ShellHeap_Readers_died_I_ (fun _ h9 => h9) rfl dX6_tryPair_253 ?_
                    refine lv_iconst (v := 1) hx hb dX6_tryPair_256 (by decide) ?_
                    refine lv_iload_n hx hb dX6_tryPair_257 rfl (lv_at hl 8 rfl) ?_
                    refine va_iast hx hb hK hP hD hS 5 4 rfl rfl (by unfold vp_in; decide) dX6_tryPair_258 (fun H_178 locs hP hD hS => ?_)
                    obtain ⟨hP, hD⟩ := z_s_5 hP hD
                    generalize (upd f_177 (1 : Int32).toNatClampNeg p3) = f_179 at hP hD
                    refine lv_aload_n hx hb dX6_tryPair_259 rfl (lv_at hl 5 rfl) ?_
                    refine va_get (D := (dC, dI)) (ci := 6) (v := .ref h5) (C := RX6) (T := TX6) (N := 7) hx hb hts hiX6 hown hK hP 0 rfl rfl 5 (by decide) w__fieldLink_RX6_27_ShellHeap_Readers_died_I_ (fun _ h9 => h9) rfl dX6_tryPair_260 ?_
                    refine lv_iconst (v := 2) hx hb dX6_tryPair_263 (by decide) ?_
                    refine lv_iload hx hb dX6_tryPair_264 (lv_at hl 1 rfl) ?_
                    refine va_iast hx hb hK hP hD hS 5 4 rfl rfl (by unfold vp_in; decide) dX6_tryPair_266 (fun H_180 locs hP hD hS => ?_)
                    obtain ⟨hP, hD⟩ := z_s_5 hP hD
                    generalize (upd f_179 (2 : Int32).toNatClampNeg 0) = f_181 at hP hD
                    refine lv_aload_n hx hb dX6_tryPair_267 rfl (lv_at hl 5 rfl) ?_
                    refine va_get (D := (dC, dI)) (ci := 6) (v := .ref h5) (C := RX6) (T := TX6) (N := 7) hx hb hts hiX6 hown hK hP 0 rfl rfl 5 (by decide) w__fieldLink_RX6_27_ShellHeap_Readers_died_I_ (fun _ h9 => h9) rfl dX6_tryPair_268 ?_
                    refine lv_iconst (v := 3) hx hb dX6_tryPair_271 (by decide) ?_
                    refine lv_iload hx hb dX6_tryPair_272 (lv_at hl 9 rfl) ?_
                    refine lv_iload hx hb dX6_tryPair_274 (lv_at hl 1 rfl) ?_
                    refine lv_isub hx hb dX6_tryPair_276 ?_
                    refine lv_topi (fun z_182 ez_182 => ?_)
                    have kr_z_182_p4 := z_rng p4
                    have kz_182 : (z_182).toInt = (p4).toInt - (0 : Int) := by rw [ez_182]; exact z_sub (a := (p4).toInt) (b := (0 : Int)) rfl rfl (by omega) (by omega)
                    refine va_iast hx hb hK hP hD hS 5 4 rfl rfl (by unfold vp_in; decide) dX6_tryPair_277 (fun H_183 locs hP hD hS => ?_)
                    obtain ⟨hP, hD⟩ := z_s_5 hP hD
                    generalize (upd f_181 (3 : Int32).toNatClampNeg z_182) = f_184 at hP hD
                    refine z_backQ hQQ ?_
                    have hP9 := hP
                    have hD9 := hD
                    have hK9 := hK.sub (tys' := []) [] rfl
                    refine W.widen (k := 0) (n := 0) (Nat.le_of_ble_eq_true rfl) (Nat.le_of_ble_eq_true rfl) ?_
                    exact W.vret hx hb hr (fun t ht hW => ⟨⟨(), rfl, trivial, ⟨r_119, f_9, f_10, f_184, by rw [ht]; exact hP9, va_K.moved hW.alike hK9, hD9⟩⟩, hS.F ht⟩) hS.2.2 dX6_tryPair_278
              · have k_185 : (r_119).toInt > (r_154).toInt := z_nle c_156
                refine lv_iinc (v := 1) (lv' := [(8, .int 1), (9, .int r_119), (7, .int c_8), (6, .int a_7), (5, .int z_2), (0, .ref h0), (1, .int p1), (2, .int p2), (3, .int p3), (4, .int p4)]) hx hb dX6_tryPair_211 hl (k := 1) rfl (by decide) (by decide) rfl (fun ls hl => ?_)
                refine lv_aload_n hx hb dX6_tryPair_214 rfl (lv_at hl 5 rfl) ?_
                refine lv_iload hx hb dX6_tryPair_215 (lv_at hl 0 rfl) ?_
                obtain ⟨hPc, hDc⟩ := z_sub2 (ws' := [(h0, .inr (6, [.ref h1, h0_1, .ref h2, .ref h3, .ref h4, .ref h5, .int rm])), (h3, .inl (ch3, 4, .inl f_9)), (h4, .inl (ch4, 4, .inl f_10))]) hP hD [0, 3, 4] (by decide) rfl
                have hKc := hK.sub (tys' := [(ch3, .int), (ch4, .int)]) [2, 3] rfl
                have hFc := va_free (ws := []) (wc := []) (z_D0 _) hS hA [] rfl
                refine va_calli (va_runV (As := [.int 1]) (rest := []) ⟨hx, hb, hml, hown, hts⟩ (s_X6_missAt l dC dI H_153.size h0 1 (.ref h1) h0_1 (.ref h2) h3 h4 (.ref h5) (.int rm) ch3 f_9 ch4 f_10) (cwV 1 hts gw_s_X6_tryPair_s_X6_missAt_47 rfl rfl rfl (by decide +kernel) ⟨Nat.le_of_ble_eq_true rfl, Nat.le_of_ble_eq_true rfl⟩) ⟨z_blind, va_recv hKc hPc (ci := 6) (q0 := 0) rfl rfl, z_pre hPc hKc hDc⟩ rfl rfl hl.1 rfl (lv_room (Nat.le_of_ble_eq_true rfl)) dX6_tryPair_217 ⟨Nat.le_of_ble_eq_true rfl, Nat.le_of_ble_eq_true rfl⟩) hS (fun q _ h => hFc q h) hFc (fun r_187 u t H_186 locs ht hvm hw_188 hB hz1 hk1 hS => ?_)
                replace hP := z_pure hP hk1
                clear hPc hDc hKc
                refine lv_istore (lv' := [(9, .int r_187), (8, .int 1), (7, .int c_8), (6, .int a_7), (5, .int z_2), (0, .ref h0), (1, .int p1), (2, .int p2), (3, .int p3), (4, .int p4)]) hx hb dX6_tryPair_220 hl (by decide) rfl (fun ls hl => ?_)
                refine lv_aload_n hx hb dX6_tryPair_222 rfl (lv_at hl 5 rfl) ?_
                refine va_get (D := (dC, dI)) (ci := 6) (v := .int rm) (C := RX6) (T := TX6) (N := 7) hx hb hts hiX6 hown hK hP 0 rfl rfl 6 (by decide) w__fieldLink_RX6_30_ShellHeap_Readers_miss_I_ (fun _ h9 => h9) rfl dX6_tryPair_223 ?_
                refine lv_iconst (v := (-1)) hx hb dX6_tryPair_226 (by decide) ?_
                refine lv_icmp_eq (tgt := 239) hx hb dX6_tryPair_227 (by decide) (fun c_189 => ?_) (fun c_189 => ?_)
                · have k_190 : (rm).toInt = (-1 : Int) := z_eq c_189
                  obtain rfl : rm = (-1) := z_eq' (show (rm).toInt = (-1 : Int) by omega)
                  refine lv_aload_n hx hb dX6_tryPair_239 rfl (lv_at hl 5 rfl) ?_
                  refine lv_iload hx hb dX6_tryPair_240 (lv_at hl 0 rfl) ?_
                  refine va_put (D := (dC, dI)) (ci := 6) (v := .int r_187) (ty := .int) (C := RX6) (T := TX6) (N := 7) hx hb hts hiX6 tyX6 tyX6_ok nmX6 hown hK hP hD hS 0 rfl rfl 6 (by decide) w__fieldLink_RX6_30_ShellHeap_Readers_miss_I_ (fun _ h9 => h9) rfl (by decide +kernel) rfl rfl (Nat.le_of_ble_eq_true rfl) dX6_tryPair_242 (fun H_192 locs hP hD hS => ?_)
                  obtain ⟨hP, hD⟩ := z_s_0_6 hP hD
                  refine lv_aload_n hx hb dX6_tryPair_245 rfl (lv_at hl 5 rfl) ?_
                  refine va_get (D := (dC, dI)) (ci := 6) (v := .ref h5) (C := RX6) (T := TX6) (N := 7) hx hb hts hiX6 hown hK hP 0 rfl rfl 5 (by decide) w__fieldLink_RX6_27_ShellHeap_Readers_died_I_ (fun _ h9 => h9) rfl dX6_tryPair_246 ?_
                  refine lv_iconst (v := 0) hx hb dX6_tryPair_249 (by decide) ?_
                  refine lv_iload_n hx hb dX6_tryPair_250 rfl (lv_at hl 7 rfl) ?_
                  refine va_iast hx hb hK hP hD hS 5 4 rfl rfl (by unfold vp_in; decide) dX6_tryPair_251 (fun H_193 locs hP hD hS => ?_)
                  obtain ⟨hP, hD⟩ := z_s_5 hP hD
                  generalize (upd fh5 (0 : Int32).toNatClampNeg p2) = f_194 at hP hD
                  refine lv_aload_n hx hb dX6_tryPair_252 rfl (lv_at hl 5 rfl) ?_
                  refine va_get (D := (dC, dI)) (ci := 6) (v := .ref h5) (C := RX6) (T := TX6) (N := 7) hx hb hts hiX6 hown hK hP 0 rfl rfl 5 (by decide) w__fieldLink_RX6_27_ShellHeap_Readers_died_I_ (fun _ h9 => h9) rfl dX6_tryPair_253 ?_
                  refine lv_iconst (v := 1) hx hb dX6_tryPair_256 (by decide) ?_
                  refine lv_iload_n hx hb dX6_tryPair_257 rfl (lv_at hl 8 rfl) ?_
                  refine va_iast hx hb hK hP hD hS 5 4 rfl rfl (by unfold vp_in; decide) dX6_tryPair_258 (fun H_195 locs hP hD hS => ?_)
                  obtain ⟨hP, hD⟩ := z_s_5 hP hD
                  generalize (upd f_194 (1 : Int32).toNatClampNeg p3) = f_196 at hP hD
                  refine lv_aload_n hx hb dX6_tryPair_259 rfl (lv_at hl 5 rfl) ?_
                  refine va_get (D := (dC, dI)) (ci := 6) (v := .ref h5) (C := RX6) (T := TX6) (N := 7) hx hb hts hiX6 hown hK hP 0 rfl rfl 5 (by decide) w__fieldLink_RX6_27_ShellHeap_Readers_died_I_ (fun _ h9 => h9) rfl dX6_tryPair_260 ?_
                  refine lv_iconst (v := 2) hx hb dX6_tryPair_263 (by decide) ?_
                  refine lv_iload hx hb dX6_tryPair_264 (lv_at hl 1 rfl) ?_
                  refine va_iast hx hb hK hP hD hS 5 4 rfl rfl (by unfold vp_in; decide) dX6_tryPair_266 (fun H_197 locs hP hD hS => ?_)
                  obtain ⟨hP, hD⟩ := z_s_5 hP hD
                  generalize (upd f_196 (2 : Int32).toNatClampNeg 1) = f_198 at hP hD
                  refine lv_aload_n hx hb dX6_tryPair_267 rfl (lv_at hl 5 rfl) ?_
                  refine va_get (D := (dC, dI)) (ci := 6) (v := .ref h5) (C := RX6) (T := TX6) (N := 7) hx hb hts hiX6 hown hK hP 0 rfl rfl 5 (by decide) w__fieldLink_RX6_27_ShellHeap_Readers_died_I_ (fun _ h9 => h9) rfl dX6_tryPair_268 ?_
                  refine lv_iconst (v := 3) hx hb dX6_tryPair_271 (by decide) ?_
                  refine lv_iload hx hb dX6_tryPair_272 (lv_at hl 9 rfl) ?_
                  refine lv_iload hx hb dX6_tryPair_274 (lv_at hl 1 rfl) ?_
                  refine lv_isub hx hb dX6_tryPair_276 ?_
                  refine lv_topi (fun z_199 ez_199 => ?_)
                  have kr_z_199_p4 := z_rng p4
                  have kz_199 : (z_199).toInt = (p4).toInt - (1 : Int) := by rw [ez_199]; exact z_sub (a := (p4).toInt) (b := (1 : Int)) rfl rfl (by omega) (by omega)
                  refine va_iast hx hb hK hP hD hS 5 4 rfl rfl (by unfold vp_in; decide) dX6_tryPair_277 (fun H_200 locs hP hD hS => ?_)
                  obtain ⟨hP, hD⟩ := z_s_5 hP hD
                  generalize (upd f_198 (3 : Int32).toNatClampNeg z_199) = f_201 at hP hD
                  refine z_backQ hQQ ?_
                  have hP9 := hP
                  have hD9 := hD
                  have hK9 := hK.sub (tys' := []) [] rfl
                  refine W.widen (k := 0) (n := 0) (Nat.le_of_ble_eq_true rfl) (Nat.le_of_ble_eq_true rfl) ?_
                  exact W.vret hx hb hr (fun t ht hW => ⟨⟨(), rfl, trivial, ⟨r_187, f_9, f_10, f_201, by rw [ht]; exact hP9, va_K.moved hW.alike hK9, hD9⟩⟩, hS.F ht⟩) hS.2.2 dX6_tryPair_278
                · have k_202 : (rm).toInt ≠ (-1 : Int) := z_ne c_189
                  refine lv_iload hx hb dX6_tryPair_230 (lv_at hl 0 rfl) ?_
                  refine lv_aload_n hx hb dX6_tryPair_232 rfl (lv_at hl 5 rfl) ?_
                  refine va_get (D := (dC, dI)) (ci := 6) (v := .int rm) (C := RX6) (T := TX6) (N := 7) hx hb hts hiX6 hown hK hP 0 rfl rfl 6 (by decide) w__fieldLink_RX6_30_ShellHeap_Readers_miss_I_ (fun _ h9 => h9) rfl dX6_tryPair_233 ?_
                  refine lv_icmp_ge (tgt := 278) hx hb dX6_tryPair_236 (by decide) (fun c_203 => ?_) (fun c_203 => ?_)
                  · have k_204 : (rm).toInt ≤ (r_187).toInt := z_le c_203
                    refine z_backQ hQQ ?_
                    have hP9 := hP
                    have hD9 := hD
                    have hK9 := hK.sub (tys' := []) [] rfl
                    refine W.widen (k := 0) (n := 0) (Nat.le_of_ble_eq_true rfl) (Nat.le_of_ble_eq_true rfl) ?_
                    exact W.vret hx hb hr (fun t ht hW => ⟨⟨(), rfl, trivial, ⟨rm, f_9, f_10, fh5, by rw [ht]; exact hP9, va_K.moved hW.alike hK9, hD9⟩⟩, hS.F ht⟩) hS.2.2 dX6_tryPair_278
                  · have k_205 : (rm).toInt > (r_187).toInt := z_nle c_203
                    refine lv_aload_n hx hb dX6_tryPair_239 rfl (lv_at hl 5 rfl) ?_
                    refine lv_iload hx hb dX6_tryPair_240 (lv_at hl 0 rfl) ?_
                    refine va_put (D := (dC, dI)) (ci := 6) (v := .int r_187) (ty := .int) (C := RX6) (T := TX6) (N := 7) hx hb hts hiX6 tyX6 tyX6_ok nmX6 hown hK hP hD hS 0 rfl rfl 6 (by decide) w__fieldLink_RX6_30_ShellHeap_Readers_miss_I_ (fun _ h9 => h9) rfl (by decide +kernel) rfl rfl (Nat.le_of_ble_eq_true rfl) dX6_tryPair_242 (fun H_206 locs hP hD hS => ?_)
                    obtain ⟨hP, hD⟩ := z_s_0_6 hP hD
                    refine lv_aload_n hx hb dX6_tryPair_245 rfl (lv_at hl 5 rfl) ?_
                    refine va_get (D := (dC, dI)) (ci := 6) (v := .ref h5) (C := RX6) (T := TX6) (N := 7) hx hb hts hiX6 hown hK hP 0 rfl rfl 5 (by decide) w__fieldLink_RX6_27_ShellHeap_Readers_died_I_ (fun _ h9 => h9) rfl dX6_tryPair_246 ?_
                    refine lv_iconst (v := 0) hx hb dX6_tryPair_249 (by decide) ?_
                    refine lv_iload_n hx hb dX6_tryPair_250 rfl (lv_at hl 7 rfl) ?_
                    refine va_iast hx hb hK hP hD hS 5 4 rfl rfl (by unfold vp_in; decide) dX6_tryPair_251 (fun H_207 locs hP hD hS => ?_)
                    obtain ⟨hP, hD⟩ := z_s_5 hP hD
                    generalize (upd fh5 (0 : Int32).toNatClampNeg p2) = f_208 at hP hD
                    refine lv_aload_n hx hb dX6_tryPair_252 rfl (lv_at hl 5 rfl) ?_
                    refine va_get (D := (dC, dI)) (ci := 6) (v := .ref h5) (C := RX6) (T := TX6) (N := 7) hx hb hts hiX6 hown hK hP 0 rfl rfl 5 (by decide) w__fieldLink_RX6_27_ShellHeap_Readers_died_I_ (fun _ h9 => h9) rfl dX6_tryPair_253 ?_
                    refine lv_iconst (v := 1) hx hb dX6_tryPair_256 (by decide) ?_
                    refine lv_iload_n hx hb dX6_tryPair_257 rfl (lv_at hl 8 rfl) ?_
                    refine va_iast hx hb hK hP hD hS 5 4 rfl rfl (by unfold vp_in; decide) dX6_tryPair_258 (fun H_209 locs hP hD hS => ?_)
                    obtain ⟨hP, hD⟩ := z_s_5 hP hD
                    generalize (upd f_208 (1 : Int32).toNatClampNeg p3) = f_210 at hP hD
                    refine lv_aload_n hx hb dX6_tryPair_259 rfl (lv_at hl 5 rfl) ?_
                    refine va_get (D := (dC, dI)) (ci := 6) (v := .ref h5) (C := RX6) (T := TX6) (N := 7) hx hb hts hiX6 hown hK hP 0 rfl rfl 5 (by decide) w__fieldLink_RX6_27_ShellHeap_Readers_died_I_ (fun _ h9 => h9) rfl dX6_tryPair_260 ?_
                    refine lv_iconst (v := 2) hx hb dX6_tryPair_263 (by decide) ?_
                    refine lv_iload hx hb dX6_tryPair_264 (lv_at hl 1 rfl) ?_
                    refine va_iast hx hb hK hP hD hS 5 4 rfl rfl (by unfold vp_in; decide) dX6_tryPair_266 (fun H_211 locs hP hD hS => ?_)
                    obtain ⟨hP, hD⟩ := z_s_5 hP hD
                    generalize (upd f_210 (2 : Int32).toNatClampNeg 1) = f_212 at hP hD
                    refine lv_aload_n hx hb dX6_tryPair_267 rfl (lv_at hl 5 rfl) ?_
                    refine va_get (D := (dC, dI)) (ci := 6) (v := .ref h5) (C := RX6) (T := TX6) (N := 7) hx hb hts hiX6 hown hK hP 0 rfl rfl 5 (by decide) w__fieldLink_RX6_27_ShellHeap_Readers_died_I_ (fun _ h9 => h9) rfl dX6_tryPair_268 ?_
                    refine lv_iconst (v := 3) hx hb dX6_tryPair_271 (by decide) ?_
                    refine lv_iload hx hb dX6_tryPair_272 (lv_at hl 9 rfl) ?_
                    refine lv_iload hx hb dX6_tryPair_274 (lv_at hl 1 rfl) ?_
                    refine lv_isub hx hb dX6_tryPair_276 ?_
                    refine lv_topi (fun z_213 ez_213 => ?_)
                    have kr_z_213_p4 := z_rng p4
                    have kz_213 : (z_213).toInt = (p4).toInt - (1 : Int) := by rw [ez_213]; exact z_sub (a := (p4).toInt) (b := (1 : Int)) rfl rfl (by omega) (by omega)
                    refine va_iast hx hb hK hP hD hS 5 4 rfl rfl (by unfold vp_in; decide) dX6_tryPair_277 (fun H_214 locs hP hD hS => ?_)
                    obtain ⟨hP, hD⟩ := z_s_5 hP hD
                    generalize (upd f_212 (3 : Int32).toNatClampNeg z_213) = f_215 at hP hD
                    refine z_backQ hQQ ?_
                    have hP9 := hP
                    have hD9 := hD
                    have hK9 := hK.sub (tys' := []) [] rfl
                    refine W.widen (k := 0) (n := 0) (Nat.le_of_ble_eq_true rfl) (Nat.le_of_ble_eq_true rfl) ?_
                    exact W.vret hx hb hr (fun t ht hW => ⟨⟨(), rfl, trivial, ⟨r_187, f_9, f_10, f_215, by rw [ht]; exact hP9, va_K.moved hW.alike hK9, hD9⟩⟩, hS.F ht⟩) hS.2.2 dX6_tryPair_278
          · have k_216 : (a_7).toInt > (0 : Int) := z_nle c_116
            refine lv_iload hx hb dX6_tryPair_167 (lv_at hl 2 rfl) ?_
            refine lv_iload hx hb dX6_tryPair_169 (lv_at hl 1 rfl) ?_
            refine lv_idiv hx hb dX6_tryPair_171 (fun q => absurd (show (c_8).toInt = (0 : Int) from z_eq q) (by omega)) ?_
            refine lv_topi (fun z_217 ez_217 => ?_)
            refine lv_iload hx hb dX6_tryPair_172 (lv_at hl 8 rfl) ?_
            refine va_mmin hx hb (hml.trans hl.1.symm) hown w__methodLink_RX6_42_Lib_Math_min_name w__static_Lib_Math_min_name w__initialized_java_lang_Math_ w__code_Lib_Math_min_name_Lib_Math_min_code_2_some_int_ (Nat.le_of_ble_eq_true rfl) (Nat.le_of_ble_eq_true rfl) (Nat.le_of_ble_eq_true rfl) (Nat.le_of_ble_eq_true rfl) dX6_tryPair_174 ?_
            refine lv_topi (fun z_218 ez_218 => ?_)
            have kz_218 : ((z_218).toInt = (z_217).toInt ∨ (z_218).toInt = (p4).toInt) ∧ (z_218).toInt ≤ (z_217).toInt ∧ (z_218).toInt ≤ (p4).toInt := z_min ez_218
            refine lv_goto (tgt := 181) hx hb dX6_tryPair_177 (by decide) ?_
            refine lv_istore (lv' := [(8, .int z_218), (7, .int c_8), (6, .int a_7), (5, .int z_2), (0, .ref h0), (1, .int p1), (2, .int p2), (3, .int p3), (4, .int p4)]) hx hb dX6_tryPair_181 hl (by decide) rfl (fun ls hl => ?_)
            refine lv_aload_n hx hb dX6_tryPair_183 rfl (lv_at hl 4 rfl) ?_
            refine lv_iload hx hb dX6_tryPair_184 (lv_at hl 0 rfl) ?_
            obtain ⟨hPc, hDc⟩ := z_sub2 (ws' := [(h0, .inr (6, [.ref h1, h0_1, .ref h2, .ref h3, .ref h4, .ref h5, .int rm])), (h3, .inl (ch3, 4, .inl f_9)), (h4, .inl (ch4, 4, .inl f_10))]) hP hD [0, 3, 4] (by decide) rfl
            have hKc := hK.sub (tys' := [(ch3, .int), (ch4, .int)]) [2, 3] rfl
            have hFc := va_free (ws := []) (wc := []) (z_D0 _) hS hA [] rfl
            refine va_calli (va_runV (As := [.int z_218]) (rest := []) ⟨hx, hb, hml, hown, hts⟩ (s_X6_missAt l dC dI H.size h0 z_218 (.ref h1) h0_1 (.ref h2) h3 h4 (.ref h5) (.int rm) ch3 f_9 ch4 f_10) (cwV 1 hts gw_s_X6_tryPair_s_X6_missAt_47 rfl rfl rfl (by decide +kernel) ⟨Nat.le_of_ble_eq_true rfl, Nat.le_of_ble_eq_true rfl⟩) ⟨z_blind, va_recv hKc hPc (ci := 6) (q0 := 0) rfl rfl, z_pre hPc hKc hDc⟩ rfl rfl hl.1 rfl (lv_room (Nat.le_of_ble_eq_true rfl)) dX6_tryPair_186 ⟨Nat.le_of_ble_eq_true rfl, Nat.le_of_ble_eq_true rfl⟩) hS (fun q _ h => hFc q h) hFc (fun r_220 u t H_219 locs ht hvm hw_221 hB hz1 hk1 hS => ?_)
            replace hP := z_pure hP hk1
            clear hPc hDc hKc
            refine lv_istore (lv' := [(9, .int r_220), (8, .int z_218), (7, .int c_8), (6, .int a_7), (5, .int z_2), (0, .ref h0), (1, .int p1), (2, .int p2), (3, .int p3), (4, .int p4)]) hx hb dX6_tryPair_189 hl (by decide) rfl (fun ls hl => ?_)
            refine lv_iload hx hb dX6_tryPair_191 (lv_at hl 1 rfl) ?_
            refine lv_iload hx hb dX6_tryPair_193 (lv_at hl 9 rfl) ?_
            refine lv_icmp_ge (tgt := 222) hx hb dX6_tryPair_195 (by decide) (fun c_222 => ?_) (fun c_222 => ?_)
            · have k_223 : (p4).toInt ≤ (z_218).toInt := z_le c_222
              refine lv_aload_n hx hb dX6_tryPair_222 rfl (lv_at hl 5 rfl) ?_
              refine va_get (D := (dC, dI)) (ci := 6) (v := .int rm) (C := RX6) (T := TX6) (N := 7) hx hb hts hiX6 hown hK hP 0 rfl rfl 6 (by decide) w__fieldLink_RX6_30_ShellHeap_Readers_miss_I_ (fun _ h9 => h9) rfl dX6_tryPair_223 ?_
              refine lv_iconst (v := (-1)) hx hb dX6_tryPair_226 (by decide) ?_
              refine lv_icmp_eq (tgt := 239) hx hb dX6_tryPair_227 (by decide) (fun c_224 => ?_) (fun c_224 => ?_)
              · have k_225 : (rm).toInt = (-1 : Int) := z_eq c_224
                obtain rfl : rm = (-1) := z_eq' (show (rm).toInt = (-1 : Int) by omega)
                refine lv_aload_n hx hb dX6_tryPair_239 rfl (lv_at hl 5 rfl) ?_
                refine lv_iload hx hb dX6_tryPair_240 (lv_at hl 0 rfl) ?_
                refine va_put (D := (dC, dI)) (ci := 6) (v := .int r_220) (ty := .int) (C := RX6) (T := TX6) (N := 7) hx hb hts hiX6 tyX6 tyX6_ok nmX6 hown hK hP hD hS 0 rfl rfl 6 (by decide) w__fieldLink_RX6_30_ShellHeap_Readers_miss_I_ (fun _ h9 => h9) rfl (by decide +kernel) rfl rfl (Nat.le_of_ble_eq_true rfl) dX6_tryPair_242 (fun H_227 locs hP hD hS => ?_)
                obtain ⟨hP, hD⟩ := z_s_0_6 hP hD
                refine lv_aload_n hx hb dX6_tryPair_245 rfl (lv_at hl 5 rfl) ?_
                refine va_get (D := (dC, dI)) (ci := 6) (v := .ref h5) (C := RX6) (T := TX6) (N := 7) hx hb hts hiX6 hown hK hP 0 rfl rfl 5 (by decide) w__fieldLink_RX6_27_ShellHeap_Readers_died_I_ (fun _ h9 => h9) rfl dX6_tryPair_246 ?_
                refine lv_iconst (v := 0) hx hb dX6_tryPair_249 (by decide) ?_
                refine lv_iload_n hx hb dX6_tryPair_250 rfl (lv_at hl 7 rfl) ?_
                refine va_iast hx hb hK hP hD hS 5 4 rfl rfl (by unfold vp_in; decide) dX6_tryPair_251 (fun H_228 locs hP hD hS => ?_)
                obtain ⟨hP, hD⟩ := z_s_5 hP hD
                generalize (upd fh5 (0 : Int32).toNatClampNeg p2) = f_229 at hP hD
                refine lv_aload_n hx hb dX6_tryPair_252 rfl (lv_at hl 5 rfl) ?_
                refine va_get (D := (dC, dI)) (ci := 6) (v := .ref h5) (C := RX6) (T := TX6) (N := 7) hx hb hts hiX6 hown hK hP 0 rfl rfl 5 (by decide) w__fieldLink_RX6_27_ShellHeap_Readers_died_I_ (fun _ h9 => h9) rfl dX6_tryPair_253 ?_
                refine lv_iconst (v := 1) hx hb dX6_tryPair_256 (by decide) ?_
                refine lv_iload_n hx hb dX6_tryPair_257 rfl (lv_at hl 8 rfl) ?_
                refine va_iast hx hb hK hP hD hS 5 4 rfl rfl (by unfold vp_in; decide) dX6_tryPair_258 (fun H_230 locs hP hD hS => ?_)
                obtain ⟨hP, hD⟩ := z_s_5 hP hD
                generalize (upd f_229 (1 : Int32).toNatClampNeg p3) = f_231 at hP hD
                refine lv_aload_n hx hb dX6_tryPair_259 rfl (lv_at hl 5 rfl) ?_
                refine va_get (D := (dC, dI)) (ci := 6) (v := .ref h5) (C := RX6) (T := TX6) (N := 7) hx hb hts hiX6 hown hK hP 0 rfl rfl 5 (by decide) w__fieldLink_RX6_27_ShellHeap_Readers_died_I_ (fun _ h9 => h9) rfl dX6_tryPair_260 ?_
                refine lv_iconst (v := 2) hx hb dX6_tryPair_263 (by decide) ?_
                refine lv_iload hx hb dX6_tryPair_264 (lv_at hl 1 rfl) ?_
                refine va_iast hx hb hK hP hD hS 5 4 rfl rfl (by unfold vp_in; decide) dX6_tryPair_266 (fun H_232 locs hP hD hS => ?_)
                obtain ⟨hP, hD⟩ := z_s_5 hP hD
                generalize (upd f_231 (2 : Int32).toNatClampNeg z_218) = f_233 at hP hD
                refine lv_aload_n hx hb dX6_tryPair_267 rfl (lv_at hl 5 rfl) ?_
                refine va_get (D := (dC, dI)) (ci := 6) (v := .ref h5) (C := RX6) (T := TX6) (N := 7) hx hb hts hiX6 hown hK hP 0 rfl rfl 5 (by decide) w__fieldLink_RX6_27_ShellHeap_Readers_died_I_ (fun _ h9 => h9) rfl dX6_tryPair_268 ?_
                refine lv_iconst (v := 3) hx hb dX6_tryPair_271 (by decide) ?_
                refine lv_iload hx hb dX6_tryPair_272 (lv_at hl 9 rfl) ?_
                refine lv_iload hx hb dX6_tryPair_274 (lv_at hl 1 rfl) ?_
                refine lv_isub hx hb dX6_tryPair_276 ?_
                refine lv_topi (fun z_234 ez_234 => ?_)
                refine va_iast hx hb hK hP hD hS 5 4 rfl rfl (by unfold vp_in; decide) dX6_tryPair_277 (fun H_235 locs hP hD hS => ?_)
                obtain ⟨hP, hD⟩ := z_s_5 hP hD
                generalize (upd f_233 (3 : Int32).toNatClampNeg z_234) = f_236 at hP hD
                refine z_backQ hQQ ?_
                have hP9 := hP
                have hD9 := hD
                have hK9 := hK.sub (tys' := []) [] rfl
                refine W.widen (k := 0) (n := 0) (Nat.le_of_ble_eq_true rfl) (Nat.le_of_ble_eq_true rfl) ?_
                exact W.vret hx hb hr (fun t ht hW => ⟨⟨(), rfl, trivial, ⟨r_220, f_9, f_10, f_236, by rw [ht]; exact hP9, va_K.moved hW.alike hK9, hD9⟩⟩, hS.F ht⟩) hS.2.2 dX6_tryPair_278
              · have k_237 : (rm).toInt ≠ (-1 : Int) := z_ne c_224
                refine lv_iload hx hb dX6_tryPair_230 (lv_at hl 0 rfl) ?_
                refine lv_aload_n hx hb dX6_tryPair_232 rfl (lv_at hl 5 rfl) ?_
                refine va_get (D := (dC, dI)) (ci := 6) (v := .int rm) (C := RX6) (T := TX6) (N := 7) hx hb hts hiX6 hown hK hP 0 rfl rfl 6 (by decide) w__fieldLink_RX6_30_ShellHeap_Readers_miss_I_ (fun _ h9 => h9) rfl dX6_tryPair_233 ?_
                refine lv_icmp_ge (tgt := 278) hx hb dX6_tryPair_236 (by decide) (fun c_238 => ?_) (fun c_238 => ?_)
                · have k_239 : (rm).toInt ≤ (r_220).toInt := z_le c_238
                  refine z_backQ hQQ ?_
                  have hP9 := hP
                  have hD9 := hD
                  have hK9 := hK.sub (tys' := []) [] rfl
                  refine W.widen (k := 0) (n := 0) (Nat.le_of_ble_eq_true rfl) (Nat.le_of_ble_eq_true rfl) ?_
                  exact W.vret hx hb hr (fun t ht hW => ⟨⟨(), rfl, trivial, ⟨rm, f_9, f_10, fh5, by rw [ht]; exact hP9, va_K.moved hW.alike hK9, hD9⟩⟩, hS.F ht⟩) hS.2.2 dX6_tryPair_278
                · have k_240 : (rm).toInt > (r_220).toInt := z_nle c_238
                  refine lv_aload_n hx hb dX6_tryPair_239 rfl (lv_at hl 5 rfl) ?_
                  refine lv_iload hx hb dX6_tryPair_240 (lv_at hl 0 rfl) ?_
                  refine va_put (D := (dC, dI)) (ci := 6) (v := .int r_220) (ty := .int) (C := RX6) (T := TX6) (N := 7) hx hb hts hiX6 tyX6 tyX6_ok nmX6 hown hK hP hD hS 0 rfl rfl 6 (by decide) w__fieldLink_RX6_30_ShellHeap_Readers_miss_I_ (fun _ h9 => h9) rfl (by decide +kernel) rfl rfl (Nat.le_of_ble_eq_true rfl) dX6_tryPair_242 (fun H_241 locs hP hD hS => ?_)
                  obtain ⟨hP, hD⟩ := z_s_0_6 hP hD
                  refine lv_aload_n hx hb dX6_tryPair_245 rfl (lv_at hl 5 rfl) ?_
                  refine va_get (D := (dC, dI)) (ci := 6) (v := .ref h5) (C := RX6) (T := TX6) (N := 7) hx hb hts hiX6 hown hK hP 0 rfl rfl 5 (by decide) w__fieldLink_RX6_27_ShellHeap_Readers_died_I_ (fun _ h9 => h9) rfl dX6_tryPair_246 ?_
                  refine lv_iconst (v := 0) hx hb dX6_tryPair_249 (by decide) ?_
                  refine lv_iload_n hx hb dX6_tryPair_250 rfl (lv_at hl 7 rfl) ?_
                  refine va_iast hx hb hK hP hD hS 5 4 rfl rfl (by unfold vp_in; decide) dX6_tryPair_251 (fun H_242 locs hP hD hS => ?_)
                  obtain ⟨hP, hD⟩ := z_s_5 hP hD
                  generalize (upd fh5 (0 : Int32).toNatClampNeg p2) = f_243 at hP hD
                  refine lv_aload_n hx hb dX6_tryPair_252 rfl (lv_at hl 5 rfl) ?_
                  refine va_get (D := (dC, dI)) (ci := 6) (v := .ref h5) (C := RX6) (T := TX6) (N := 7) hx hb hts hiX6 hown hK hP 0 rfl rfl 5 (by decide) w__fieldLink_RX6_27_ShellHeap_Readers_died_I_ (fun _ h9 => h9) rfl dX6_tryPair_253 ?_
                  refine lv_iconst (v := 1) hx hb dX6_tryPair_256 (by decide) ?_
                  refine lv_iload_n hx hb dX6_tryPair_257 rfl (lv_at hl 8 rfl) ?_
                  refine va_iast hx hb hK hP hD hS 5 4 rfl rfl (by unfold vp_in; decide) dX6_tryPair_258 (fun H_244 locs hP hD hS => ?_)
                  obtain ⟨hP, hD⟩ := z_s_5 hP hD
                  generalize (upd f_243 (1 : Int32).toNatClampNeg p3) = f_245 at hP hD
                  refine lv_aload_n hx hb dX6_tryPair_259 rfl (lv_at hl 5 rfl) ?_
                  refine va_get (D := (dC, dI)) (ci := 6) (v := .ref h5) (C := RX6) (T := TX6) (N := 7) hx hb hts hiX6 hown hK hP 0 rfl rfl 5 (by decide) w__fieldLink_RX6_27_ShellHeap_Readers_died_I_ (fun _ h9 => h9) rfl dX6_tryPair_260 ?_
                  refine lv_iconst (v := 2) hx hb dX6_tryPair_263 (by decide) ?_
                  refine lv_iload hx hb dX6_tryPair_264 (lv_at hl 1 rfl) ?_
                  refine va_iast hx hb hK hP hD hS 5 4 rfl rfl (by unfold vp_in; decide) dX6_tryPair_266 (fun H_246 locs hP hD hS => ?_)
                  obtain ⟨hP, hD⟩ := z_s_5 hP hD
                  generalize (upd f_245 (2 : Int32).toNatClampNeg z_218) = f_247 at hP hD
                  refine lv_aload_n hx hb dX6_tryPair_267 rfl (lv_at hl 5 rfl) ?_
                  refine va_get (D := (dC, dI)) (ci := 6) (v := .ref h5) (C := RX6) (T := TX6) (N := 7) hx hb hts hiX6 hown hK hP 0 rfl rfl 5 (by decide) w__fieldLink_RX6_27_ShellHeap_Readers_died_I_ (fun _ h9 => h9) rfl dX6_tryPair_268 ?_
                  refine lv_iconst (v := 3) hx hb dX6_tryPair_271 (by decide) ?_
                  refine lv_iload hx hb dX6_tryPair_272 (lv_at hl 9 rfl) ?_
                  refine lv_iload hx hb dX6_tryPair_274 (lv_at hl 1 rfl) ?_
                  refine lv_isub hx hb dX6_tryPair_276 ?_
                  refine lv_topi (fun z_248 ez_248 => ?_)
                  refine va_iast hx hb hK hP hD hS 5 4 rfl rfl (by unfold vp_in; decide) dX6_tryPair_277 (fun H_249 locs hP hD hS => ?_)
                  obtain ⟨hP, hD⟩ := z_s_5 hP hD
                  generalize (upd f_247 (3 : Int32).toNatClampNeg z_248) = f_250 at hP hD
                  refine z_backQ hQQ ?_
                  have hP9 := hP
                  have hD9 := hD
                  have hK9 := hK.sub (tys' := []) [] rfl
                  refine W.widen (k := 0) (n := 0) (Nat.le_of_ble_eq_true rfl) (Nat.le_of_ble_eq_true rfl) ?_
                  exact W.vret hx hb hr (fun t ht hW => ⟨⟨(), rfl, trivial, ⟨r_220, f_9, f_10, f_250, by rw [ht]; exact hP9, va_K.moved hW.alike hK9, hD9⟩⟩, hS.F ht⟩) hS.2.2 dX6_tryPair_278
            · have k_251 : (p4).toInt > (z_218).toInt := z_nle c_222
              refine lv_aload_n hx hb dX6_tryPair_198 rfl (lv_at hl 5 rfl) ?_
              refine lv_iload hx hb dX6_tryPair_199 (lv_at hl 1 rfl) ?_
              refine lv_iconst (v := 1) hx hb dX6_tryPair_201 (by decide) ?_
              refine lv_iadd hx hb dX6_tryPair_202 ?_
              refine lv_topi (fun z_252 ez_252 => ?_)
              have kr_z_252_z_218 := z_rng z_218
              have kz_252 : (z_252).toInt = (z_218).toInt + (1 : Int) := by rw [ez_252]; exact z_add (a := (z_218).toInt) (b := (1 : Int)) rfl rfl (by omega) (by omega)
              obtain ⟨hPc, hDc⟩ := z_sub2 (ws' := [(h0, .inr (6, [.ref h1, h0_1, .ref h2, .ref h3, .ref h4, .ref h5, .int rm])), (h3, .inl (ch3, 4, .inl f_9)), (h4, .inl (ch4, 4, .inl f_10))]) hP hD [0, 3, 4] (by decide) rfl
              have hKc := hK.sub (tys' := [(ch3, .int), (ch4, .int)]) [2, 3] rfl
              have hFc := va_free (ws := []) (wc := []) (z_D0 _) hS hA [] rfl
              refine va_calli (va_runV (As := [.int z_252]) (rest := []) ⟨hx, hb, hml, hown, hts⟩ (s_X6_missAt l dC dI H_219.size h0 z_252 (.ref h1) h0_1 (.ref h2) h3 h4 (.ref h5) (.int rm) ch3 f_9 ch4 f_10) (cwV 1 hts gw_s_X6_tryPair_s_X6_missAt_47 rfl rfl rfl (by decide +kernel) ⟨Nat.le_of_ble_eq_true rfl, Nat.le_of_ble_eq_true rfl⟩) ⟨z_blind, va_recv hKc hPc (ci := 6) (q0 := 0) rfl rfl, z_pre hPc hKc hDc⟩ rfl rfl hl.1 rfl (lv_room (Nat.le_of_ble_eq_true rfl)) dX6_tryPair_203 ⟨Nat.le_of_ble_eq_true rfl, Nat.le_of_ble_eq_true rfl⟩) hS (fun q _ h => hFc q h) hFc (fun r_254 u t H_253 locs ht hvm hw_255 hB hz1 hk1 hS => ?_)
              replace hP := z_pure hP hk1
              clear hPc hDc hKc
              refine lv_iload hx hb dX6_tryPair_206 (lv_at hl 0 rfl) ?_
              refine lv_icmp_ge (tgt := 222) hx hb dX6_tryPair_208 (by decide) (fun c_256 => ?_) (fun c_256 => ?_)
              · have k_257 : (r_220).toInt ≤ (r_254).toInt := z_le c_256
                refine lv_aload_n hx hb dX6_tryPair_222 rfl (lv_at hl 5 rfl) ?_
                refine va_get (D := (dC, dI)) (ci := 6) (v := .int rm) (C := RX6) (T := TX6) (N := 7) hx hb hts hiX6 hown hK hP 0 rfl rfl 6 (by decide) w__fieldLink_RX6_30_ShellHeap_Readers_miss_I_ (fun _ h9 => h9) rfl dX6_tryPair_223 ?_
                refine lv_iconst (v := (-1)) hx hb dX6_tryPair_226 (by decide) ?_
                refine lv_icmp_eq (tgt := 239) hx hb dX6_tryPair_227 (by decide) (fun c_258 => ?_) (fun c_258 => ?_)
                · have k_259 : (rm).toInt = (-1 : Int) := z_eq c_258
                  obtain rfl : rm = (-1) := z_eq' (show (rm).toInt = (-1 : Int) by omega)
                  refine lv_aload_n hx hb dX6_tryPair_239 rfl (lv_at hl 5 rfl) ?_
                  refine lv_iload hx hb dX6_tryPair_240 (lv_at hl 0 rfl) ?_
                  refine va_put (D := (dC, dI)) (ci := 6) (v := .int r_220) (ty := .int) (C := RX6) (T := TX6) (N := 7) hx hb hts hiX6 tyX6 tyX6_ok nmX6 hown hK hP hD hS 0 rfl rfl 6 (by decide) w__fieldLink_RX6_30_ShellHeap_Readers_miss_I_ (fun _ h9 => h9) rfl (by decide +kernel) rfl rfl (Nat.le_of_ble_eq_true rfl) dX6_tryPair_242 (fun H_261 locs hP hD hS => ?_)
                  obtain ⟨hP, hD⟩ := z_s_0_6 hP hD
                  refine lv_aload_n hx hb dX6_tryPair_245 rfl (lv_at hl 5 rfl) ?_
                  refine va_get (D := (dC, dI)) (ci := 6) (v := .ref h5) (C := RX6) (T := TX6) (N := 7) hx hb hts hiX6 hown hK hP 0 rfl rfl 5 (by decide) w__fieldLink_RX6_27_ShellHeap_Readers_died_I_ (fun _ h9 => h9) rfl dX6_tryPair_246 ?_
                  refine lv_iconst (v := 0) hx hb dX6_tryPair_249 (by decide) ?_
                  refine lv_iload_n hx hb dX6_tryPair_250 rfl (lv_at hl 7 rfl) ?_
                  refine va_iast hx hb hK hP hD hS 5 4 rfl rfl (by unfold vp_in; decide) dX6_tryPair_251 (fun H_262 locs hP hD hS => ?_)
                  obtain ⟨hP, hD⟩ := z_s_5 hP hD
                  generalize (upd fh5 (0 : Int32).toNatClampNeg p2) = f_263 at hP hD
                  refine lv_aload_n hx hb dX6_tryPair_252 rfl (lv_at hl 5 rfl) ?_
                  refine va_get (D := (dC, dI)) (ci := 6) (v := .ref h5) (C := RX6) (T := TX6) (N := 7) hx hb hts hiX6 hown hK hP 0 rfl rfl 5 (by decide) w__fieldLink_RX6_27_ShellHeap_Readers_died_I_ (fun _ h9 => h9) rfl dX6_tryPair_253 ?_
                  refine lv_iconst (v := 1) hx hb dX6_tryPair_256 (by decide) ?_
                  refine lv_iload_n hx hb dX6_tryPair_257 rfl (lv_at hl 8 rfl) ?_
                  refine va_iast hx hb hK hP hD hS 5 4 rfl rfl (by unfold vp_in; decide) dX6_tryPair_258 (fun H_264 locs hP hD hS => ?_)
                  obtain ⟨hP, hD⟩ := z_s_5 hP hD
                  generalize (upd f_263 (1 : Int32).toNatClampNeg p3) = f_265 at hP hD
                  refine lv_aload_n hx hb dX6_tryPair_259 rfl (lv_at hl 5 rfl) ?_
                  refine va_get (D := (dC, dI)) (ci := 6) (v := .ref h5) (C := RX6) (T := TX6) (N := 7) hx hb hts hiX6 hown hK hP 0 rfl rfl 5 (by decide) w__fieldLink_RX6_27_ShellHeap_Readers_died_I_ (fun _ h9 => h9) rfl dX6_tryPair_260 ?_
                  refine lv_iconst (v := 2) hx hb dX6_tryPair_263 (by decide) ?_
                  refine lv_iload hx hb dX6_tryPair_264 (lv_at hl 1 rfl) ?_
                  refine va_iast hx hb hK hP hD hS 5 4 rfl rfl (by unfold vp_in; decide) dX6_tryPair_266 (fun H_266 locs hP hD hS => ?_)
                  obtain ⟨hP, hD⟩ := z_s_5 hP hD
                  generalize (upd f_265 (2 : Int32).toNatClampNeg z_218) = f_267 at hP hD
                  refine lv_aload_n hx hb dX6_tryPair_267 rfl (lv_at hl 5 rfl) ?_
                  refine va_get (D := (dC, dI)) (ci := 6) (v := .ref h5) (C := RX6) (T := TX6) (N := 7) hx hb hts hiX6 hown hK hP 0 rfl rfl 5 (by decide) w__fieldLink_RX6_27_ShellHeap_Readers_died_I_ (fun _ h9 => h9) rfl dX6_tryPair_268 ?_
                  refine lv_iconst (v := 3) hx hb dX6_tryPair_271 (by decide) ?_
                  refine lv_iload hx hb dX6_tryPair_272 (lv_at hl 9 rfl) ?_
                  refine lv_iload hx hb dX6_tryPair_274 (lv_at hl 1 rfl) ?_
                  refine lv_isub hx hb dX6_tryPair_276 ?_
                  refine lv_topi (fun z_268 ez_268 => ?_)
                  refine va_iast hx hb hK hP hD hS 5 4 rfl rfl (by unfold vp_in; decide) dX6_tryPair_277 (fun H_269 locs hP hD hS => ?_)
                  obtain ⟨hP, hD⟩ := z_s_5 hP hD
                  generalize (upd f_267 (3 : Int32).toNatClampNeg z_268) = f_270 at hP hD
                  refine z_backQ hQQ ?_
                  have hP9 := hP
                  have hD9 := hD
                  have hK9 := hK.sub (tys' := []) [] rfl
                  refine W.widen (k := 0) (n := 0) (Nat.le_of_ble_eq_true rfl) (Nat.le_of_ble_eq_true rfl) ?_
                  exact W.vret hx hb hr (fun t ht hW => ⟨⟨(), rfl, trivial, ⟨r_220, f_9, f_10, f_270, by rw [ht]; exact hP9, va_K.moved hW.alike hK9, hD9⟩⟩, hS.F ht⟩) hS.2.2 dX6_tryPair_278
                · have k_271 : (rm).toInt ≠ (-1 : Int) := z_ne c_258
                  refine lv_iload hx hb dX6_tryPair_230 (lv_at hl 0 rfl) ?_
                  refine lv_aload_n hx hb dX6_tryPair_232 rfl (lv_at hl 5 rfl) ?_
                  refine va_get (D := (dC, dI)) (ci := 6) (v := .int rm) (C := RX6) (T := TX6) (N := 7) hx hb hts hiX6 hown hK hP 0 rfl rfl 6 (by decide) w__fieldLink_RX6_30_ShellHeap_Readers_miss_I_ (fun _ h9 => h9) rfl dX6_tryPair_233 ?_
                  refine lv_icmp_ge (tgt := 278) hx hb dX6_tryPair_236 (by decide) (fun c_272 => ?_) (fun c_272 => ?_)
                  · have k_273 : (rm).toInt ≤ (r_220).toInt := z_le c_272
                    refine z_backQ hQQ ?_
                    have hP9 := hP
                    have hD9 := hD
                    have hK9 := hK.sub (tys' := []) [] rfl
                    refine W.widen (k := 0) (n := 0) (Nat.le_of_ble_eq_true rfl) (Nat.le_of_ble_eq_true rfl) ?_
                    exact W.vret hx hb hr (fun t ht hW => ⟨⟨(), rfl, trivial, ⟨rm, f_9, f_10, fh5, by rw [ht]; exact hP9, va_K.moved hW.alike hK9, hD9⟩⟩, hS.F ht⟩) hS.2.2 dX6_tryPair_278
                  · have k_274 : (rm).toInt > (r_220).toInt := z_nle c_272
                    refine lv_aload_n hx hb dX6_tryPair_239 rfl (lv_at hl 5 rfl) ?_
                    refine lv_iload hx hb dX6_tryPair_240 (lv_at hl 0 rfl) ?_
                    refine va_put (D := (dC, dI)) (ci := 6) (v := .int r_220) (ty := .int) (C := RX6) (T := TX6) (N := 7) hx hb hts hiX6 tyX6 tyX6_ok nmX6 hown hK hP hD hS 0 rfl rfl 6 (by decide) w__fieldLink_RX6_30_ShellHeap_Readers_miss_I_ (fun _ h9 => h9) rfl (by decide +kernel) rfl rfl (Nat.le_of_ble_eq_true rfl) dX6_tryPair_242 (fun H_275 locs hP hD hS => ?_)
                    obtain ⟨hP, hD⟩ := z_s_0_6 hP hD
                    refine lv_aload_n hx hb dX6_tryPair_245 rfl (lv_at hl 5 rfl) ?_
                    refine va_get (D := (dC, dI)) (ci := 6) (v := .ref h5) (C := RX6) (T := TX6) (N := 7) hx hb hts hiX6 hown hK hP 0 rfl rfl 5 (by decide) w__fieldLink_RX6_27_ShellHeap_Readers_died_I_ (fun _ h9 => h9) rfl dX6_tryPair_246 ?_
                    refine lv_iconst (v := 0) hx hb dX6_tryPair_249 (by decide) ?_
                    refine lv_iload_n hx hb dX6_tryPair_250 rfl (lv_at hl 7 rfl) ?_
                    refine va_iast hx hb hK hP hD hS 5 4 rfl rfl (by unfold vp_in; decide) dX6_tryPair_251 (fun H_276 locs hP hD hS => ?_)
                    obtain ⟨hP, hD⟩ := z_s_5 hP hD
                    generalize (upd fh5 (0 : Int32).toNatClampNeg p2) = f_277 at hP hD
                    refine lv_aload_n hx hb dX6_tryPair_252 rfl (lv_at hl 5 rfl) ?_
                    refine va_get (D := (dC, dI)) (ci := 6) (v := .ref h5) (C := RX6) (T := TX6) (N := 7) hx hb hts hiX6 hown hK hP 0 rfl rfl 5 (by decide) w__fieldLink_RX6_27_ShellHeap_Readers_died_I_ (fun _ h9 => h9) rfl dX6_tryPair_253 ?_
                    refine lv_iconst (v := 1) hx hb dX6_tryPair_256 (by decide) ?_
                    refine lv_iload_n hx hb dX6_tryPair_257 rfl (lv_at hl 8 rfl) ?_
                    refine va_iast hx hb hK hP hD hS 5 4 rfl rfl (by unfold vp_in; decide) dX6_tryPair_258 (fun H_278 locs hP hD hS => ?_)
                    obtain ⟨hP, hD⟩ := z_s_5 hP hD
                    generalize (upd f_277 (1 : Int32).toNatClampNeg p3) = f_279 at hP hD
                    refine lv_aload_n hx hb dX6_tryPair_259 rfl (lv_at hl 5 rfl) ?_
                    refine va_get (D := (dC, dI)) (ci := 6) (v := .ref h5) (C := RX6) (T := TX6) (N := 7) hx hb hts hiX6 hown hK hP 0 rfl rfl 5 (by decide) w__fieldLink_RX6_27_ShellHeap_Readers_died_I_ (fun _ h9 => h9) rfl dX6_tryPair_260 ?_
                    refine lv_iconst (v := 2) hx hb dX6_tryPair_263 (by decide) ?_
                    refine lv_iload hx hb dX6_tryPair_264 (lv_at hl 1 rfl) ?_
                    refine va_iast hx hb hK hP hD hS 5 4 rfl rfl (by unfold vp_in; decide) dX6_tryPair_266 (fun H_280 locs hP hD hS => ?_)
                    obtain ⟨hP, hD⟩ := z_s_5 hP hD
                    generalize (upd f_279 (2 : Int32).toNatClampNeg z_218) = f_281 at hP hD
                    refine lv_aload_n hx hb dX6_tryPair_267 rfl (lv_at hl 5 rfl) ?_
                    refine va_get (D := (dC, dI)) (ci := 6) (v := .ref h5) (C := RX6) (T := TX6) (N := 7) hx hb hts hiX6 hown hK hP 0 rfl rfl 5 (by decide) w__fieldLink_RX6_27_ShellHeap_Readers_died_I_ (fun _ h9 => h9) rfl dX6_tryPair_268 ?_
                    refine lv_iconst (v := 3) hx hb dX6_tryPair_271 (by decide) ?_
                    refine lv_iload hx hb dX6_tryPair_272 (lv_at hl 9 rfl) ?_
                    refine lv_iload hx hb dX6_tryPair_274 (lv_at hl 1 rfl) ?_
                    refine lv_isub hx hb dX6_tryPair_276 ?_
                    refine lv_topi (fun z_282 ez_282 => ?_)
                    refine va_iast hx hb hK hP hD hS 5 4 rfl rfl (by unfold vp_in; decide) dX6_tryPair_277 (fun H_283 locs hP hD hS => ?_)
                    obtain ⟨hP, hD⟩ := z_s_5 hP hD
                    generalize (upd f_281 (3 : Int32).toNatClampNeg z_282) = f_284 at hP hD
                    refine z_backQ hQQ ?_
                    have hP9 := hP
                    have hD9 := hD
                    have hK9 := hK.sub (tys' := []) [] rfl
                    refine W.widen (k := 0) (n := 0) (Nat.le_of_ble_eq_true rfl) (Nat.le_of_ble_eq_true rfl) ?_
                    exact W.vret hx hb hr (fun t ht hW => ⟨⟨(), rfl, trivial, ⟨r_220, f_9, f_10, f_284, by rw [ht]; exact hP9, va_K.moved hW.alike hK9, hD9⟩⟩, hS.F ht⟩) hS.2.2 dX6_tryPair_278
              · have k_285 : (r_220).toInt > (r_254).toInt := z_nle c_256
                obtain ⟨z_286, ez_286⟩ : ∃ y : Int32, y = z_218 + 1 := ⟨_, rfl⟩
                have kr_z_286 := z_rng z_218
                have kz_286 : (z_286).toInt = (z_218).toInt + (1 : Int) := by rw [ez_286]; exact z_add (b := 1) rfl rfl (by omega) (by omega)
                refine lv_iinc (v := z_286) (lv' := [(8, .int z_286), (9, .int r_220), (7, .int c_8), (6, .int a_7), (5, .int z_2), (0, .ref h0), (1, .int p1), (2, .int p2), (3, .int p3), (4, .int p4)]) hx hb dX6_tryPair_211 hl (k := 1) rfl (by rw [ez_286]; rfl) (by decide) rfl (fun ls hl => ?_)
                refine lv_aload_n hx hb dX6_tryPair_214 rfl (lv_at hl 5 rfl) ?_
                refine lv_iload hx hb dX6_tryPair_215 (lv_at hl 0 rfl) ?_
                obtain ⟨hPc, hDc⟩ := z_sub2 (ws' := [(h0, .inr (6, [.ref h1, h0_1, .ref h2, .ref h3, .ref h4, .ref h5, .int rm])), (h3, .inl (ch3, 4, .inl f_9)), (h4, .inl (ch4, 4, .inl f_10))]) hP hD [0, 3, 4] (by decide) rfl
                have hKc := hK.sub (tys' := [(ch3, .int), (ch4, .int)]) [2, 3] rfl
                have hFc := va_free (ws := []) (wc := []) (z_D0 _) hS hA [] rfl
                refine va_calli (va_runV (As := [.int z_286]) (rest := []) ⟨hx, hb, hml, hown, hts⟩ (s_X6_missAt l dC dI H_253.size h0 z_286 (.ref h1) h0_1 (.ref h2) h3 h4 (.ref h5) (.int rm) ch3 f_9 ch4 f_10) (cwV 1 hts gw_s_X6_tryPair_s_X6_missAt_47 rfl rfl rfl (by decide +kernel) ⟨Nat.le_of_ble_eq_true rfl, Nat.le_of_ble_eq_true rfl⟩) ⟨z_blind, va_recv hKc hPc (ci := 6) (q0 := 0) rfl rfl, z_pre hPc hKc hDc⟩ rfl rfl hl.1 rfl (lv_room (Nat.le_of_ble_eq_true rfl)) dX6_tryPair_217 ⟨Nat.le_of_ble_eq_true rfl, Nat.le_of_ble_eq_true rfl⟩) hS (fun q _ h => hFc q h) hFc (fun r_288 u t H_287 locs ht hvm hw_289 hB hz1 hk1 hS => ?_)
                replace hP := z_pure hP hk1
                clear hPc hDc hKc
                refine lv_istore (lv' := [(9, .int r_288), (8, .int z_286), (7, .int c_8), (6, .int a_7), (5, .int z_2), (0, .ref h0), (1, .int p1), (2, .int p2), (3, .int p3), (4, .int p4)]) hx hb dX6_tryPair_220 hl (by decide) rfl (fun ls hl => ?_)
                refine lv_aload_n hx hb dX6_tryPair_222 rfl (lv_at hl 5 rfl) ?_
                refine va_get (D := (dC, dI)) (ci := 6) (v := .int rm) (C := RX6) (T := TX6) (N := 7) hx hb hts hiX6 hown hK hP 0 rfl rfl 6 (by decide) w__fieldLink_RX6_30_ShellHeap_Readers_miss_I_ (fun _ h9 => h9) rfl dX6_tryPair_223 ?_
                refine lv_iconst (v := (-1)) hx hb dX6_tryPair_226 (by decide) ?_
                refine lv_icmp_eq (tgt := 239) hx hb dX6_tryPair_227 (by decide) (fun c_290 => ?_) (fun c_290 => ?_)
                · have k_291 : (rm).toInt = (-1 : Int) := z_eq c_290
                  obtain rfl : rm = (-1) := z_eq' (show (rm).toInt = (-1 : Int) by omega)
                  refine lv_aload_n hx hb dX6_tryPair_239 rfl (lv_at hl 5 rfl) ?_
                  refine lv_iload hx hb dX6_tryPair_240 (lv_at hl 0 rfl) ?_
                  refine va_put (D := (dC, dI)) (ci := 6) (v := .int r_288) (ty := .int) (C := RX6) (T := TX6) (N := 7) hx hb hts hiX6 tyX6 tyX6_ok nmX6 hown hK hP hD hS 0 rfl rfl 6 (by decide) w__fieldLink_RX6_30_ShellHeap_Readers_miss_I_ (fun _ h9 => h9) rfl (by decide +kernel) rfl rfl (Nat.le_of_ble_eq_true rfl) dX6_tryPair_242 (fun H_293 locs hP hD hS => ?_)
                  obtain ⟨hP, hD⟩ := z_s_0_6 hP hD
                  refine lv_aload_n hx hb dX6_tryPair_245 rfl (lv_at hl 5 rfl) ?_
                  refine va_get (D := (dC, dI)) (ci := 6) (v := .ref h5) (C := RX6) (T := TX6) (N := 7) hx hb hts hiX6 hown hK hP 0 rfl rfl 5 (by decide) w__fieldLink_RX6_27_ShellHeap_Readers_died_I_ (fun _ h9 => h9) rfl dX6_tryPair_246 ?_
                  refine lv_iconst (v := 0) hx hb dX6_tryPair_249 (by decide) ?_
                  refine lv_iload_n hx hb dX6_tryPair_250 rfl (lv_at hl 7 rfl) ?_
                  refine va_iast hx hb hK hP hD hS 5 4 rfl rfl (by unfold vp_in; decide) dX6_tryPair_251 (fun H_294 locs hP hD hS => ?_)
                  obtain ⟨hP, hD⟩ := z_s_5 hP hD
                  generalize (upd fh5 (0 : Int32).toNatClampNeg p2) = f_295 at hP hD
                  refine lv_aload_n hx hb dX6_tryPair_252 rfl (lv_at hl 5 rfl) ?_
                  refine va_get (D := (dC, dI)) (ci := 6) (v := .ref h5) (C := RX6) (T := TX6) (N := 7) hx hb hts hiX6 hown hK hP 0 rfl rfl 5 (by decide) w__fieldLink_RX6_27_ShellHeap_Readers_died_I_ (fun _ h9 => h9) rfl dX6_tryPair_253 ?_
                  refine lv_iconst (v := 1) hx hb dX6_tryPair_256 (by decide) ?_
                  refine lv_iload_n hx hb dX6_tryPair_257 rfl (lv_at hl 8 rfl) ?_
                  refine va_iast hx hb hK hP hD hS 5 4 rfl rfl (by unfold vp_in; decide) dX6_tryPair_258 (fun H_296 locs hP hD hS => ?_)
                  obtain ⟨hP, hD⟩ := z_s_5 hP hD
                  generalize (upd f_295 (1 : Int32).toNatClampNeg p3) = f_297 at hP hD
                  refine lv_aload_n hx hb dX6_tryPair_259 rfl (lv_at hl 5 rfl) ?_
                  refine va_get (D := (dC, dI)) (ci := 6) (v := .ref h5) (C := RX6) (T := TX6) (N := 7) hx hb hts hiX6 hown hK hP 0 rfl rfl 5 (by decide) w__fieldLink_RX6_27_ShellHeap_Readers_died_I_ (fun _ h9 => h9) rfl dX6_tryPair_260 ?_
                  refine lv_iconst (v := 2) hx hb dX6_tryPair_263 (by decide) ?_
                  refine lv_iload hx hb dX6_tryPair_264 (lv_at hl 1 rfl) ?_
                  refine va_iast hx hb hK hP hD hS 5 4 rfl rfl (by unfold vp_in; decide) dX6_tryPair_266 (fun H_298 locs hP hD hS => ?_)
                  obtain ⟨hP, hD⟩ := z_s_5 hP hD
                  generalize (upd f_297 (2 : Int32).toNatClampNeg z_286) = f_299 at hP hD
                  refine lv_aload_n hx hb dX6_tryPair_267 rfl (lv_at hl 5 rfl) ?_
                  refine va_get (D := (dC, dI)) (ci := 6) (v := .ref h5) (C := RX6) (T := TX6) (N := 7) hx hb hts hiX6 hown hK hP 0 rfl rfl 5 (by decide) w__fieldLink_RX6_27_ShellHeap_Readers_died_I_ (fun _ h9 => h9) rfl dX6_tryPair_268 ?_
                  refine lv_iconst (v := 3) hx hb dX6_tryPair_271 (by decide) ?_
                  refine lv_iload hx hb dX6_tryPair_272 (lv_at hl 9 rfl) ?_
                  refine lv_iload hx hb dX6_tryPair_274 (lv_at hl 1 rfl) ?_
                  refine lv_isub hx hb dX6_tryPair_276 ?_
                  refine lv_topi (fun z_300 ez_300 => ?_)
                  refine va_iast hx hb hK hP hD hS 5 4 rfl rfl (by unfold vp_in; decide) dX6_tryPair_277 (fun H_301 locs hP hD hS => ?_)
                  obtain ⟨hP, hD⟩ := z_s_5 hP hD
                  generalize (upd f_299 (3 : Int32).toNatClampNeg z_300) = f_302 at hP hD
                  refine z_backQ hQQ ?_
                  have hP9 := hP
                  have hD9 := hD
                  have hK9 := hK.sub (tys' := []) [] rfl
                  refine W.widen (k := 0) (n := 0) (Nat.le_of_ble_eq_true rfl) (Nat.le_of_ble_eq_true rfl) ?_
                  exact W.vret hx hb hr (fun t ht hW => ⟨⟨(), rfl, trivial, ⟨r_288, f_9, f_10, f_302, by rw [ht]; exact hP9, va_K.moved hW.alike hK9, hD9⟩⟩, hS.F ht⟩) hS.2.2 dX6_tryPair_278
                · have k_303 : (rm).toInt ≠ (-1 : Int) := z_ne c_290
                  refine lv_iload hx hb dX6_tryPair_230 (lv_at hl 0 rfl) ?_
                  refine lv_aload_n hx hb dX6_tryPair_232 rfl (lv_at hl 5 rfl) ?_
                  refine va_get (D := (dC, dI)) (ci := 6) (v := .int rm) (C := RX6) (T := TX6) (N := 7) hx hb hts hiX6 hown hK hP 0 rfl rfl 6 (by decide) w__fieldLink_RX6_30_ShellHeap_Readers_miss_I_ (fun _ h9 => h9) rfl dX6_tryPair_233 ?_
                  refine lv_icmp_ge (tgt := 278) hx hb dX6_tryPair_236 (by decide) (fun c_304 => ?_) (fun c_304 => ?_)
                  · have k_305 : (rm).toInt ≤ (r_288).toInt := z_le c_304
                    refine z_backQ hQQ ?_
                    have hP9 := hP
                    have hD9 := hD
                    have hK9 := hK.sub (tys' := []) [] rfl
                    refine W.widen (k := 0) (n := 0) (Nat.le_of_ble_eq_true rfl) (Nat.le_of_ble_eq_true rfl) ?_
                    exact W.vret hx hb hr (fun t ht hW => ⟨⟨(), rfl, trivial, ⟨rm, f_9, f_10, fh5, by rw [ht]; exact hP9, va_K.moved hW.alike hK9, hD9⟩⟩, hS.F ht⟩) hS.2.2 dX6_tryPair_278
                  · have k_306 : (rm).toInt > (r_288).toInt := z_nle c_304
                    refine lv_aload_n hx hb dX6_tryPair_239 rfl (lv_at hl 5 rfl) ?_
                    refine lv_iload hx hb dX6_tryPair_240 (lv_at hl 0 rfl) ?_
                    refine va_put (D := (dC, dI)) (ci := 6) (v := .int r_288) (ty := .int) (C := RX6) (T := TX6) (N := 7) hx hb hts hiX6 tyX6 tyX6_ok nmX6 hown hK hP hD hS 0 rfl rfl 6 (by decide) w__fieldLink_RX6_30_ShellHeap_Readers_miss_I_ (fun _ h9 => h9) rfl (by decide +kernel) rfl rfl (Nat.le_of_ble_eq_true rfl) dX6_tryPair_242 (fun H_307 locs hP hD hS => ?_)
                    obtain ⟨hP, hD⟩ := z_s_0_6 hP hD
                    refine lv_aload_n hx hb dX6_tryPair_245 rfl (lv_at hl 5 rfl) ?_
                    refine va_get (D := (dC, dI)) (ci := 6) (v := .ref h5) (C := RX6) (T := TX6) (N := 7) hx hb hts hiX6 hown hK hP 0 rfl rfl 5 (by decide) w__fieldLink_RX6_27_ShellHeap_Readers_died_I_ (fun _ h9 => h9) rfl dX6_tryPair_246 ?_
                    refine lv_iconst (v := 0) hx hb dX6_tryPair_249 (by decide) ?_
                    refine lv_iload_n hx hb dX6_tryPair_250 rfl (lv_at hl 7 rfl) ?_
                    refine va_iast hx hb hK hP hD hS 5 4 rfl rfl (by unfold vp_in; decide) dX6_tryPair_251 (fun H_308 locs hP hD hS => ?_)
                    obtain ⟨hP, hD⟩ := z_s_5 hP hD
                    generalize (upd fh5 (0 : Int32).toNatClampNeg p2) = f_309 at hP hD
                    refine lv_aload_n hx hb dX6_tryPair_252 rfl (lv_at hl 5 rfl) ?_
                    refine va_get (D := (dC, dI)) (ci := 6) (v := .ref h5) (C := RX6) (T := TX6) (N := 7) hx hb hts hiX6 hown hK hP 0 rfl rfl 5 (by decide) w__fieldLink_RX6_27_ShellHeap_Readers_died_I_ (fun _ h9 => h9) rfl dX6_tryPair_253 ?_
                    refine lv_iconst (v := 1) hx hb dX6_tryPair_256 (by decide) ?_
                    refine lv_iload_n hx hb dX6_tryPair_257 rfl (lv_at hl 8 rfl) ?_
                    refine va_iast hx hb hK hP hD hS 5 4 rfl rfl (by unfold vp_in; decide) dX6_tryPair_258 (fun H_310 locs hP hD hS => ?_)
                    obtain ⟨hP, hD⟩ := z_s_5 hP hD
                    generalize (upd f_309 (1 : Int32).toNatClampNeg p3) = f_311 at hP hD
                    refine lv_aload_n hx hb dX6_tryPair_259 rfl (lv_at hl 5 rfl) ?_
                    refine va_get (D := (dC, dI)) (ci := 6) (v := .ref h5) (C := RX6) (T := TX6) (N := 7) hx hb hts hiX6 hown hK hP 0 rfl rfl 5 (by decide) w__fieldLink_RX6_27_ShellHeap_Readers_died_I_ (fun _ h9 => h9) rfl dX6_tryPair_260 ?_
                    refine lv_iconst (v := 2) hx hb dX6_tryPair_263 (by decide) ?_
                    refine lv_iload hx hb dX6_tryPair_264 (lv_at hl 1 rfl) ?_
                    refine va_iast hx hb hK hP hD hS 5 4 rfl rfl (by unfold vp_in; decide) dX6_tryPair_266 (fun H_312 locs hP hD hS => ?_)
                    obtain ⟨hP, hD⟩ := z_s_5 hP hD
                    generalize (upd f_311 (2 : Int32).toNatClampNeg z_286) = f_313 at hP hD
                    refine lv_aload_n hx hb dX6_tryPair_267 rfl (lv_at hl 5 rfl) ?_
                    refine va_get (D := (dC, dI)) (ci := 6) (v := .ref h5) (C := RX6) (T := TX6) (N := 7) hx hb hts hiX6 hown hK hP 0 rfl rfl 5 (by decide) w__fieldLink_RX6_27_ShellHeap_Readers_died_I_ (fun _ h9 => h9) rfl dX6_tryPair_268 ?_
                    refine lv_iconst (v := 3) hx hb dX6_tryPair_271 (by decide) ?_
                    refine lv_iload hx hb dX6_tryPair_272 (lv_at hl 9 rfl) ?_
                    refine lv_iload hx hb dX6_tryPair_274 (lv_at hl 1 rfl) ?_
                    refine lv_isub hx hb dX6_tryPair_276 ?_
                    refine lv_topi (fun z_314 ez_314 => ?_)
                    refine va_iast hx hb hK hP hD hS 5 4 rfl rfl (by unfold vp_in; decide) dX6_tryPair_277 (fun H_315 locs hP hD hS => ?_)
                    obtain ⟨hP, hD⟩ := z_s_5 hP hD
                    generalize (upd f_313 (3 : Int32).toNatClampNeg z_314) = f_316 at hP hD
                    refine z_backQ hQQ ?_
                    have hP9 := hP
                    have hD9 := hD
                    have hK9 := hK.sub (tys' := []) [] rfl
                    refine W.widen (k := 0) (n := 0) (Nat.le_of_ble_eq_true rfl) (Nat.le_of_ble_eq_true rfl) ?_
                    exact W.vret hx hb hr (fun t ht hW => ⟨⟨(), rfl, trivial, ⟨r_288, f_9, f_10, f_316, by rw [ht]; exact hP9, va_K.moved hW.alike hK9, hD9⟩⟩, hS.F ht⟩) hS.2.2 dX6_tryPair_278
      · have k_317 : (4 : Int) > (i_6).toInt := z_nle c_12
        refine lv_aload_n hx hb dX6_tryPair_22 rfl (lv_at hl 4 rfl) ?_
        refine va_get (D := (dC, dI)) (ci := 6) (v := .ref h1) (C := RX6) (T := TX6) (N := 7) hx hb hts hiX6 hown hK hP 0 rfl rfl 0 (by decide) w__fieldLink_RX6_11_ShellHeap_Readers_rows_I_ (fun _ h9 => h9) rfl dX6_tryPair_23 ?_
        refine lv_iload hx hb dX6_tryPair_26 (lv_at hl 3 rfl) ?_
        refine lv_bipush (v := 12) hx hb dX6_tryPair_28 (by decide) ?_
        refine lv_iadd hx hb dX6_tryPair_30 ?_
        refine lv_topi (fun z_318 ez_318 => ?_)
        have kz_318 : (z_318).toInt = (z_2).toInt + (12 : Int) := by rw [ez_318]; exact z_add (a := (z_2).toInt) (b := (12 : Int)) rfl rfl (by omega) (by omega)
        refine lv_iload hx hb dX6_tryPair_31 (lv_at hl 0 rfl) ?_
        refine lv_iadd hx hb dX6_tryPair_33 ?_
        refine lv_topi (fun z_319 ez_319 => ?_)
        have kz_319 : (z_319).toInt = (z_318).toInt + (i_6).toInt := by rw [ez_319]; exact z_add (a := (z_318).toInt) (b := (i_6).toInt) rfl rfl (by omega) (by omega)
        refine va_iald hx hb hK hP 1 0 rfl rfl (z_vpin (by omega) (by omega)) dX6_tryPair_34 ?_
        refine lv_topi (fun z_320 ez_320 => ?_)
        refine lv_istore (lv' := [(9, .int z_320), (8, .int i_6), (7, .int c_8), (6, .int a_7), (5, .int z_2), (0, .ref h0), (1, .int p1), (2, .int p2), (3, .int p3), (4, .int p4)]) hx hb dX6_tryPair_35 hl (by decide) rfl (fun ls hl => ?_)
        refine lv_aload_n hx hb dX6_tryPair_37 rfl (lv_at hl 5 rfl) ?_
        refine va_get (D := (dC, dI)) (ci := 6) (v := .ref h4) (C := RX6) (T := TX6) (N := 7) hx hb hts hiX6 hown hK hP 0 rfl rfl 4 (by decide) w__fieldLink_RX6_24_ShellHeap_Readers_steps_I_ (fun _ h9 => h9) rfl dX6_tryPair_38 ?_
        refine lv_iload hx hb dX6_tryPair_41 (lv_at hl 1 rfl) ?_
        refine lv_aload_n hx hb dX6_tryPair_43 rfl (lv_at hl 5 rfl) ?_
        refine va_get (D := (dC, dI)) (ci := 6) (v := .ref h1) (C := RX6) (T := TX6) (N := 7) hx hb hts hiX6 hown hK hP 0 rfl rfl 0 (by decide) w__fieldLink_RX6_11_ShellHeap_Readers_rows_I_ (fun _ h9 => h9) rfl dX6_tryPair_44 ?_
        refine lv_iload hx hb dX6_tryPair_47 (lv_at hl 4 rfl) ?_
        refine lv_bipush (v := 8) hx hb dX6_tryPair_49 (by decide) ?_
        refine lv_iadd hx hb dX6_tryPair_51 ?_
        refine lv_topi (fun z_321 ez_321 => ?_)
        have kz_321 : (z_321).toInt = (z_2).toInt + (8 : Int) := by rw [ez_321]; exact z_add (a := (z_2).toInt) (b := (8 : Int)) rfl rfl (by omega) (by omega)
        refine lv_iload hx hb dX6_tryPair_52 (lv_at hl 1 rfl) ?_
        refine lv_iadd hx hb dX6_tryPair_54 ?_
        refine lv_topi (fun z_322 ez_322 => ?_)
        have kz_322 : (z_322).toInt = (z_321).toInt + (i_6).toInt := by rw [ez_322]; exact z_add (a := (z_321).toInt) (b := (i_6).toInt) rfl rfl (by omega) (by omega)
        refine va_iald hx hb hK hP 1 0 rfl rfl (z_vpin (by omega) (by omega)) dX6_tryPair_55 ?_
        refine lv_topi (fun z_323 ez_323 => ?_)
        refine lv_iload hx hb dX6_tryPair_56 (lv_at hl 0 rfl) ?_
        refine lv_isub hx hb dX6_tryPair_58 ?_
        refine lv_topi (fun z_324 ez_324 => ?_)
        refine va_iast hx hb hK hP hD hS 4 3 rfl rfl (z_vpin (by omega) (by omega)) dX6_tryPair_59 (fun H_325 locs hP hD hS => ?_)
        obtain ⟨hP, hD⟩ := z_s_4 hP hD
        generalize (upd f_10 (i_6 : Int32).toNatClampNeg z_324) = f_326 at hP hD
        refine lv_aload_n hx hb dX6_tryPair_60 rfl (lv_at hl 5 rfl) ?_
        refine va_get (D := (dC, dI)) (ci := 6) (v := .ref h3) (C := RX6) (T := TX6) (N := 7) hx hb hts hiX6 hown hK hP 0 rfl rfl 3 (by decide) w__fieldLink_RX6_21_ShellHeap_Readers_gaps_I_ (fun _ h9 => h9) rfl dX6_tryPair_61 ?_
        refine lv_iload hx hb dX6_tryPair_64 (lv_at hl 1 rfl) ?_
        refine lv_bipush (v := 16) hx hb dX6_tryPair_66 (by decide) ?_
        refine lv_aload_n hx hb dX6_tryPair_68 rfl (lv_at hl 5 rfl) ?_
        refine va_get (D := (dC, dI)) (ci := 6) (v := .ref h2) (C := RX6) (T := TX6) (N := 7) hx hb hts hiX6 hown hK hP 0 rfl rfl 2 (by decide) w__fieldLink_RX6_18_ShellHeap_Readers_ofBed_I_ (fun _ h9 => h9) rfl dX6_tryPair_69 ?_
        refine lv_iload hx hb dX6_tryPair_72 (lv_at hl 1 rfl) ?_
        refine va_iald hx hb hK hP 2 1 rfl rfl (z_vpin (by omega) (by omega)) dX6_tryPair_74 ?_
        refine lv_topi (fun z_327 ez_327 => ?_)
        refine lv_imul hx hb dX6_tryPair_75 ?_
        refine lv_topi (fun z_328 ez_328 => ?_)
        refine lv_iload_n hx hb dX6_tryPair_76 rfl (lv_at hl 7 rfl) ?_
        refine lv_aload_n hx hb dX6_tryPair_77 rfl (lv_at hl 5 rfl) ?_
        refine va_get (D := (dC, dI)) (ci := 6) (v := .ref h1) (C := RX6) (T := TX6) (N := 7) hx hb hts hiX6 hown hK hP 0 rfl rfl 0 (by decide) w__fieldLink_RX6_11_ShellHeap_Readers_rows_I_ (fun _ h9 => h9) rfl dX6_tryPair_78 ?_
        refine lv_iload hx hb dX6_tryPair_81 (lv_at hl 4 rfl) ?_
        refine lv_iload hx hb dX6_tryPair_83 (lv_at hl 1 rfl) ?_
        refine lv_iadd hx hb dX6_tryPair_85 ?_
        refine lv_topi (fun z_329 ez_329 => ?_)
        have kz_329 : (z_329).toInt = (z_2).toInt + (i_6).toInt := by rw [ez_329]; exact z_add (a := (z_2).toInt) (b := (i_6).toInt) rfl rfl (by omega) (by omega)
        refine va_iald hx hb hK hP 1 0 rfl rfl (z_vpin (by omega) (by omega)) dX6_tryPair_86 ?_
        refine lv_topi (fun z_330 ez_330 => ?_)
        refine lv_imul hx hb dX6_tryPair_87 ?_
        refine lv_topi (fun z_331 ez_331 => ?_)
        refine lv_isub hx hb dX6_tryPair_88 ?_
        refine lv_topi (fun z_332 ez_332 => ?_)
        refine lv_iload_n hx hb dX6_tryPair_89 rfl (lv_at hl 8 rfl) ?_
        refine lv_aload_n hx hb dX6_tryPair_90 rfl (lv_at hl 5 rfl) ?_
        refine va_get (D := (dC, dI)) (ci := 6) (v := .ref h1) (C := RX6) (T := TX6) (N := 7) hx hb hts hiX6 hown hK hP 0 rfl rfl 0 (by decide) w__fieldLink_RX6_11_ShellHeap_Readers_rows_I_ (fun _ h9 => h9) rfl dX6_tryPair_91 ?_
        refine lv_iload hx hb dX6_tryPair_94 (lv_at hl 4 rfl) ?_
        refine lv_iconst (v := 4) hx hb dX6_tryPair_96 (by decide) ?_
        refine lv_iadd hx hb dX6_tryPair_97 ?_
        refine lv_topi (fun z_333 ez_333 => ?_)
        have kz_333 : (z_333).toInt = (z_2).toInt + (4 : Int) := by rw [ez_333]; exact z_add (a := (z_2).toInt) (b := (4 : Int)) rfl rfl (by omega) (by omega)
        refine lv_iload hx hb dX6_tryPair_98 (lv_at hl 1 rfl) ?_
        refine lv_iadd hx hb dX6_tryPair_100 ?_
        refine lv_topi (fun z_334 ez_334 => ?_)
        have kz_334 : (z_334).toInt = (z_333).toInt + (i_6).toInt := by rw [ez_334]; exact z_add (a := (z_333).toInt) (b := (i_6).toInt) rfl rfl (by omega) (by omega)
        refine va_iald hx hb hK hP 1 0 rfl rfl (z_vpin (by omega) (by omega)) dX6_tryPair_101 ?_
        refine lv_topi (fun z_335 ez_335 => ?_)
        refine lv_imul hx hb dX6_tryPair_102 ?_
        refine lv_topi (fun z_336 ez_336 => ?_)
        refine lv_isub hx hb dX6_tryPair_103 ?_
        refine lv_topi (fun z_337 ez_337 => ?_)
        refine lv_iload hx hb dX6_tryPair_104 (lv_at hl 9 rfl) ?_
        refine lv_iload hx hb dX6_tryPair_106 (lv_at hl 0 rfl) ?_
        refine lv_imul hx hb dX6_tryPair_108 ?_
        refine lv_topi (fun z_338 ez_338 => ?_)
        refine lv_isub hx hb dX6_tryPair_109 ?_
        refine lv_topi (fun z_339 ez_339 => ?_)
        refine va_iast hx hb hK hP hD hS 3 2 rfl rfl (z_vpin (by omega) (by omega)) dX6_tryPair_110 (fun H_340 locs hP hD hS => ?_)
        obtain ⟨hP, hD⟩ := z_s_3 hP hD
        generalize (upd f_9 (i_6 : Int32).toNatClampNeg z_339) = f_341 at hP hD
        refine lv_iload hx hb dX6_tryPair_111 (lv_at hl 3 rfl) ?_
        refine lv_aload_n hx hb dX6_tryPair_113 rfl (lv_at hl 5 rfl) ?_
        refine va_get (D := (dC, dI)) (ci := 6) (v := .ref h3) (C := RX6) (T := TX6) (N := 7) hx hb hts hiX6 hown hK hP 0 rfl rfl 3 (by decide) w__fieldLink_RX6_21_ShellHeap_Readers_gaps_I_ (fun _ h9 => h9) rfl dX6_tryPair_114 ?_
        refine lv_iload hx hb dX6_tryPair_117 (lv_at hl 1 rfl) ?_
        refine va_iald hx hb hK hP 3 2 rfl rfl (z_vpin (by omega) (by omega)) dX6_tryPair_119 ?_
        refine lv_topi (fun z_342 ez_342 => ?_)
        refine lv_aload_n hx hb dX6_tryPair_120 rfl (lv_at hl 5 rfl) ?_
        refine va_get (D := (dC, dI)) (ci := 6) (v := .ref h4) (C := RX6) (T := TX6) (N := 7) hx hb hts hiX6 hown hK hP 0 rfl rfl 4 (by decide) w__fieldLink_RX6_24_ShellHeap_Readers_steps_I_ (fun _ h9 => h9) rfl dX6_tryPair_121 ?_
        refine lv_iload hx hb dX6_tryPair_124 (lv_at hl 1 rfl) ?_
        refine va_iald hx hb hK hP 4 3 rfl rfl (z_vpin (by omega) (by omega)) dX6_tryPair_126 ?_
        refine lv_topi (fun z_343 ez_343 => ?_)
        refine lv_imul hx hb dX6_tryPair_127 ?_
        refine lv_topi (fun z_344 ez_344 => ?_)
        refine lv_iadd hx hb dX6_tryPair_128 ?_
        refine lv_topi (fun z_345 ez_345 => ?_)
        refine lv_istore (lv' := [(6, .int z_345), (9, .int z_320), (8, .int i_6), (7, .int c_8), (5, .int z_2), (0, .ref h0), (1, .int p1), (2, .int p2), (3, .int p3), (4, .int p4)]) hx hb dX6_tryPair_129 hl (by decide) rfl (fun ls hl => ?_)
        refine lv_iload hx hb dX6_tryPair_131 (lv_at hl 3 rfl) ?_
        refine lv_aload_n hx hb dX6_tryPair_133 rfl (lv_at hl 5 rfl) ?_
        refine va_get (D := (dC, dI)) (ci := 6) (v := .ref h4) (C := RX6) (T := TX6) (N := 7) hx hb hts hiX6 hown hK hP 0 rfl rfl 4 (by decide) w__fieldLink_RX6_24_ShellHeap_Readers_steps_I_ (fun _ h9 => h9) rfl dX6_tryPair_134 ?_
        refine lv_iload hx hb dX6_tryPair_137 (lv_at hl 2 rfl) ?_
        refine va_iald hx hb hK hP 4 3 rfl rfl (z_vpin (by omega) (by omega)) dX6_tryPair_139 ?_
        refine lv_topi (fun z_346 ez_346 => ?_)
        refine lv_aload_n hx hb dX6_tryPair_140 rfl (lv_at hl 5 rfl) ?_
        refine va_get (D := (dC, dI)) (ci := 6) (v := .ref h4) (C := RX6) (T := TX6) (N := 7) hx hb hts hiX6 hown hK hP 0 rfl rfl 4 (by decide) w__fieldLink_RX6_24_ShellHeap_Readers_steps_I_ (fun _ h9 => h9) rfl dX6_tryPair_141 ?_
        refine lv_iload hx hb dX6_tryPair_144 (lv_at hl 2 rfl) ?_
        refine va_iald hx hb hK hP 4 3 rfl rfl (z_vpin (by omega) (by omega)) dX6_tryPair_146 ?_
        refine lv_topi (fun z_347 ez_347 => ?_)
        refine lv_imul hx hb dX6_tryPair_147 ?_
        refine lv_topi (fun z_348 ez_348 => ?_)
        refine lv_iadd hx hb dX6_tryPair_148 ?_
        refine lv_topi (fun z_349 ez_349 => ?_)
        refine lv_istore (lv' := [(7, .int z_349), (6, .int z_345), (9, .int z_320), (8, .int i_6), (5, .int z_2), (0, .ref h0), (1, .int p1), (2, .int p2), (3, .int p3), (4, .int p4)]) hx hb dX6_tryPair_149 hl (by decide) rfl (fun ls hl => ?_)
        obtain ⟨z_350, ez_350⟩ : ∃ y : Int32, y = i_6 + 1 := ⟨_, rfl⟩
        have kz_350 : (z_350).toInt = (i_6).toInt + (1 : Int) := by rw [ez_350]; exact z_add (b := 1) rfl rfl (z_al hF_11.1 (by decide)) (z_ah hF_11.2 (by decide))
        refine lv_iinc (v := z_350) (lv' := [(8, .int z_350), (7, .int z_349), (6, .int z_345), (9, .int z_320), (5, .int z_2), (0, .ref h0), (1, .int p1), (2, .int p2), (3, .int p3), (4, .int p4)]) hx hb dX6_tryPair_151 hl (k := 3) rfl (by rw [ez_350]; rfl) (by decide) rfl (fun ls hl => ?_)
        refine lv_goto (tgt := 16) hx hb dX6_tryPair_154 (by decide) ?_
        exact ih_5 z_350 z_345 z_349 f_341 f_326 _ _ _ (show (5 - (z_350).toInt).toNat < n_4 by omega) (show ((0 : Int) ≤ (z_350).toInt ∧ (z_350).toInt ≤ (4 : Int)) by omega) hP hD hS (lv_sub hl [0, 1, 2, 4, 5, 6, 7, 8, 9] rfl)
  exact loop_3 _ 0 0 0 fh3 fh4 _ _ _ (Nat.lt_succ_self _) (show ((0 : Int) ≤ (0 : Int) ∧ (0 : Int) ≤ (4 : Int)) by omega) hP hD hS hl
def u_s_X6_putRight : List Cond := .code yX6_putRight cX6_putRight 6 (some .boolean) :: ([.methodLink RX6 34 yX6_sum, .instanceMethod yX6_sum, .selects RX6 yX6_sum yX6_sum, .initialized RX6, .fieldLink RX6 30 "ShellHeap$Readers" "miss" "I", .methodLink RX6 38 yX6_tryPair, .instanceMethod yX6_tryPair, .selects RX6 yX6_tryPair yX6_tryPair] ++ (wsX60 ++ (u_s_X6_sum ++ (u_s_X6_tryPair ++ []))))
theorem gd_s_X6_putRight : z_gd u_s_X6_putRight := z_gdc (by decide +kernel) (z_gda gdX6 (z_gda gd_s_X6_sum (z_gda gd_s_X6_tryPair (z_gd0))))
set_option maxRecDepth 20000 in
theorem gw_s_X6_putRight_s_X6_sum_34 : GoodIn u_s_X6_putRight (wsV RX6 34 RX6 yX6_sum u_s_X6_sum) := z_gV (z_gr _ [1, 2, 3, 4] rfl (by decide +kernel)) (fun w h => ⟨z_mc (z_mr (z_mr (z_ml h))), gd_s_X6_sum w h⟩)
set_option maxRecDepth 20000 in
theorem gw_s_X6_putRight_s_X6_tryPair_38 : GoodIn u_s_X6_putRight (wsV RX6 38 RX6 yX6_tryPair u_s_X6_tryPair) := z_gV (z_gr _ [6, 7, 8, 4] rfl (by decide +kernel)) (fun w h => ⟨z_mc (z_mr (z_mr (z_mr (z_ml h)))), gd_s_X6_tryPair w h⟩)
set_option maxHeartbeats 4000000 in
set_option maxRecDepth 100000 in
theorem s_X6_putRight (l : Launch) (dC : Nat → ClassId) (dI : Nat → Nat → Nat) (sz : Nat) (h0 : Nat) (p1 : Int32) (p2 : Int32) (h1 : Nat) (h6 : Nat) (h2 : Nat) (h3 : Nat) (h4 : Nat) (h5 : Nat) (rm : Int32) (ch1 : ClassId) (fh1 : Nat → Int32) (ch2 : ClassId) (fh2 : Nat → Int32) (ch3 : ClassId) (fh3 : Nat → Int32) (ch4 : ClassId) (fh4 : Nat → Int32) (ch5 : ClassId) (fh5 : Nat → Int32) (ch6 : ClassId) (fh6 : Nat → Int32) (hB_p2 : ((0 : Int) ≤ (p2).toInt ∧ (p2).toInt ≤ (2 : Int))) : Met l yX6_putRight u_s_X6_putRight ({ frames := 2, cells := 0, slots := 0, locals := 53 }) (va_Pc [.ref h0, .int p1, .int p2] (z_C (dC, dI) vwCl [(h0, .inr (6, [.ref h1, .ref h6, .ref h2, .ref h3, .ref h4, .ref h5, .int rm])), (h1, .inl (ch1, 48, .inl fh1)), (h2, .inl (ch2, 4, .inl fh2)), (h3, .inl (ch3, 4, .inl fh3)), (h4, .inl (ch4, 4, .inl fh4)), (h5, .inl (ch5, 4, .inl fh5)), (h6, .inl (ch6, 144, .inl fh6))] [(ch1, .int), (ch2, .int), (ch3, .int), (ch4, .int), (ch5, .int), (ch6, .int)] sz)) (va_Qi (fun (r : Int32) (_ : Unit) => ((0 : Int) ≤ (r).toInt ∧ (r).toInt ≤ (1 : Int))) (fun (_ : Unit) (t : State) => ∃ (n_h0_miss : Int32), ∃ (g_h2 : Nat → Int32), ∃ (g_h3 : Nat → Int32), ∃ (g_h4 : Nat → Int32), ∃ (g_h5 : Nat → Int32), va_P (dC, dI) vwCl [(h0, .inr (6, [.ref h1, .ref h6, .ref h2, .ref h3, .ref h4, .ref h5, .int n_h0_miss])), (h1, .inl (ch1, 48, .inl fh1)), (h2, .inl (ch2, 4, .inl g_h2)), (h3, .inl (ch3, 4, .inl g_h3)), (h4, .inl (ch4, 4, .inl g_h4)), (h5, .inl (ch5, 4, .inl g_h5)), (h6, .inl (ch6, 144, .inl fh6))] t.heap ∧ va_K (dC, dI) vwCl [] t ∧ va_D (va_A [(h0, .inr (6, [.ref h1, .ref h6, .ref h2, .ref h3, .ref h4, .ref h5, .int rm])), (h1, .inl (ch1, 48, .inl fh1)), (h2, .inl (ch2, 4, .inl fh2)), (h3, .inl (ch3, 4, .inl fh3)), (h4, .inl (ch4, 4, .inl fh4)), (h5, .inl (ch5, 4, .inl fh5)), (h6, .inl (ch6, 144, .inl fh6))] sz) [(h0, .inr (6, [.ref h1, .ref h6, .ref h2, .ref h3, .ref h4, .ref h5, .int n_h0_miss])), (h1, .inl (ch1, 48, .inl fh1)), (h2, .inl (ch2, 4, .inl g_h2)), (h3, .inl (ch3, 4, .inl g_h3)), (h4, .inl (ch4, 4, .inl g_h4)), (h5, .inl (ch5, 4, .inl g_h5)), (h6, .inl (ch6, 144, .inl fh6))]) (va_A [(h0, .inr (6, [.ref h1, .ref h6, .ref h2, .ref h3, .ref h4, .ref h5, .int rm])), (h1, .inl (ch1, 48, .inl fh1)), (h2, .inl (ch2, 4, .inl fh2)), (h3, .inl (ch3, 4, .inl fh3)), (h4, .inl (ch4, 4, .inl fh4)), (h5, .inl (ch5, 4, .inl fh5)), (h6, .inl (ch6, 144, .inl fh6))] sz)) 0 0 (va_A [(h0, .inr (6, [.ref h1, .ref h6, .ref h2, .ref h3, .ref h4, .ref h5, .int rm])), (h1, .inl (ch1, 48, .inl fh1)), (h2, .inl (ch2, 4, .inl fh2)), (h3, .inl (ch3, 4, .inl fh3)), (h4, .inl (ch4, 4, .inl fh4)), (h5, .inl (ch5, 4, .inl fh5)), (h6, .inl (ch6, 144, .inl fh6))] sz) := by
  refine Met.ofW (cc := cX6_putRight) (maxL := 6) (ret := (some .boolean)) (by decide) rfl ?_
  intro p e s m args below meth c s₁ B hml hv
  obtain ⟨rfl, hsz, hP, hK, hD0⟩ := hv
  have hx := B.exec
  have hb := B.bytes
  have hr := B.returns
  have hts := atoms_spec (ws := u_s_X6_putRight) B.pre
  have hown : s.vm.findClass RX6 = some m.cls := findClass_of_methodNamed B.named
  have hlocks := B.notSynchronized
  subst hsz
  have hD := hD0.self (sz := s.heap.size)
  generalize hAe : va_A [(h0, .inr (6, [.ref h1, .ref h6, .ref h2, .ref h3, .ref h4, .ref h5, .int rm])), (h1, .inl (ch1, 48, .inl fh1)), (h2, .inl (ch2, 4, .inl fh2)), (h3, .inl (ch3, 4, .inl fh3)), (h4, .inl (ch4, 4, .inl fh4)), (h5, .inl (ch5, 4, .inl fh5)), (h6, .inl (ch6, 144, .inl fh6))] s.heap.size = A at hD ⊢
  have hA : ∀ q : Nat, s.heap.size ≤ q → A q := fun q h => by rw [← hAe]; exact Or.inr h
  have hS : va_S A s.heap s.heap [] := va_S.rf
  have hP : va_P (dC, dI) vwCl [(h0, .inr (6, [.ref h1, .ref h6, .ref h2, .ref h3, .ref h4, .ref h5, .int rm])), (h1, .inl (ch1, 48, .inl fh1)), (h2, .inl (ch2, 4, .inl fh2)), (h3, .inl (ch3, 4, .inl fh3)), (h4, .inl (ch4, 4, .inl fh4)), (h5, .inl (ch5, 4, .inl fh5)), (h6, .inl (ch6, 144, .inl fh6))] s.heap := hP
  have w__fieldLink_RX6_30_ShellHeap_Readers_miss_I_ := hts (.fieldLink RX6 30 "ShellHeap$Readers" "miss" "I") (z_mc (z_ml z_m4))
  have hiX6 := show ∀ w ∈ u_ws RX6 TX6 7, w ∈ u_s_X6_putRight from fun w h => z_mc (z_mr (z_ml h))
  have krr_p1 := z_rng p1
  have hl := lv_entry ([.ref h0, .int p1, .int p2]) (n := 6) (Nat.le_of_ble_eq_true rfl)
  rw [lg_entry_eq]
  generalize (lg_sl ([.ref h0, .int p1, .int p2]) ++ List.replicate (6 - (lg_sl ([.ref h0, .int p1, .int p2])).length) Slot.unset).toArray = ls at hl ⊢
  have hl : lv_has ls 6 [(0, .ref h0), (1, .int p1), (2, .int p2)] := hl
  refine z_nameQ (fun QQ hQQ => ?_)
  refine lv_aload_n hx hb dX6_putRight_0 rfl (lv_at hl 0 rfl) ?_
  refine lv_iload_n hx hb dX6_putRight_1 rfl (lv_at hl 1 rfl) ?_
  refine lv_iload_n hx hb dX6_putRight_2 rfl (lv_at hl 2 rfl) ?_
  obtain ⟨hPc, hDc, hFc⟩ := z_sub3 (ws' := [(h0, .inr (6, [.ref h1, .ref h6, .ref h2, .ref h3, .ref h4, .ref h5, .int rm])), (h6, .inl (ch6, 144, .inl fh6)), (h2, .inl (ch2, 4, .inl fh2))]) hP hD hS hA [0, 6, 2] (by decide) rfl
  have hKc := hK.sub (tys' := [(ch6, .int), (ch2, .int)]) [5, 1] rfl
  refine va_calli (va_runV (As := [.int p1, .int p2]) (rest := []) ⟨hx, hb, hml, hown, hts⟩ (s_X6_sum l dC dI s.heap.size h0 p1 p2 (.ref h1) h6 h2 (.ref h3) (.ref h4) (.ref h5) (.int rm) ch6 fh6 ch2 fh2 hB_p2) (cwV 2 hts gw_s_X6_putRight_s_X6_sum_34 rfl rfl rfl (by decide +kernel) ⟨Nat.le_of_ble_eq_true rfl, Nat.le_of_ble_eq_true rfl⟩) ⟨z_blind, va_recv hKc hPc (ci := 6) (q0 := 0) rfl rfl, z_pre hPc hKc hDc⟩ rfl rfl hl.1 rfl (lv_room (Nat.le_of_ble_eq_true rfl)) dX6_putRight_3 ⟨Nat.le_of_ble_eq_true rfl, Nat.le_of_ble_eq_true rfl⟩) hS (fun q _ h => hFc q h) hFc (fun r_2 u t H_1 locs ht hvm hw_3 hB hz1 hk1 hS => ?_)
  obtain ⟨g_h2_4, hP1, hK1, hD1⟩ := hB
  rw [ht] at hP1
  have hK1 := va_K.moved hvm.symm hK1
  obtain ⟨hP, hD⟩ := z_ap_4 (va_join (wr := [(h1, .inl (ch1, 48, .inl fh1)), (h3, .inl (ch3, 4, .inl fh3)), (h4, .inl (ch4, 4, .inl fh4)), (h5, .inl (ch5, 4, .inl fh5))]) hP hD [0, 6, 2] [1, 3, 4, 5] rfl rfl (by decide) (by decide) hk1 hFc hP1 hD1)
  clear hPc hDc hKc
  refine lv_istore_n (lv' := [(3, .int r_2), (0, .ref h0), (1, .int p1), (2, .int p2)]) hx hb dX6_putRight_6 rfl hl (by decide) rfl (fun ls hl => ?_)
  refine lv_iload_n hx hb dX6_putRight_7 rfl (lv_at hl 0 rfl) ?_
  refine lv_bipush (v := 40) hx hb dX6_putRight_8 (by decide) ?_
  refine lv_icmp_le (tgt := 15) hx hb dX6_putRight_10 (by decide) (fun c_5 => ?_) (fun c_5 => ?_)
  · have k_6 : (r_2).toInt ≤ (40 : Int) := z_le c_5
    refine lv_aload_n hx hb dX6_putRight_15 rfl (lv_at hl 1 rfl) ?_
    refine lv_iconst (v := (-1)) hx hb dX6_putRight_16 (by decide) ?_
    refine va_put (D := (dC, dI)) (ci := 6) (v := .int (-1)) (ty := .int) (C := RX6) (T := TX6) (N := 7) hx hb hts hiX6 tyX6 tyX6_ok nmX6 hown hK hP hD hS 4 rfl rfl 6 (by decide) w__fieldLink_RX6_30_ShellHeap_Readers_miss_I_ (fun _ h9 => h9) rfl (by decide +kernel) rfl rfl (Nat.le_of_ble_eq_true rfl) dX6_putRight_17 (fun H_7 locs hP hD hS => ?_)
    obtain ⟨hP, hD⟩ := z_s_4_6 hP hD
    refine lv_iconst (v := 0) hx hb dX6_putRight_20 (by decide) ?_
    refine lv_istore (lv' := [(4, .int 0), (3, .int r_2), (0, .ref h0), (1, .int p1), (2, .int p2)]) hx hb dX6_putRight_21 hl (by decide) rfl (fun ls hl => ?_)
    have loop_8 : ∀ (n_9 : Nat) (i_11 : Int32) (v_12 : Int32) (f_13 : Nat → Int32) (f_14 : Nat → Int32) (f_15 : Nat → Int32) (H : Heap) (locs : List Loc) (ls : Array Slot), (42 - (i_11).toInt).toNat < n_9 → (((0 : Int) ≤ (i_11).toInt ∧ (i_11).toInt ≤ (41 : Int))) → va_P (dC, dI) vwCl [(h1, .inl (ch1, 48, .inl fh1)), (h3, .inl (ch3, 4, .inl f_13)), (h4, .inl (ch4, 4, .inl f_14)), (h5, .inl (ch5, 4, .inl f_15)), (h0, .inr (6, [.ref h1, .ref h6, .ref h2, .ref h3, .ref h4, .ref h5, .int v_12])), (h6, .inl (ch6, 144, .inl fh6)), (h2, .inl (ch2, 4, .inl g_h2_4))] H → va_D A [(h1, .inl (ch1, 48, .inl fh1)), (h3, .inl (ch3, 4, .inl f_13)), (h4, .inl (ch4, 4, .inl f_14)), (h5, .inl (ch5, 4, .inl f_15)), (h0, .inr (6, [.ref h1, .ref h6, .ref h2, .ref h3, .ref h4, .ref h5, .int v_12])), (h6, .inl (ch6, 144, .inl fh6)), (h2, .inl (ch2, 4, .inl g_h2_4))] → va_S A s.heap H locs → lv_has ls 6 [(4, .int i_11), (3, .int r_2), (0, .ref h0), (1, .int p1), (2, .int p2)] → W p l e ({ frames := 2, cells := 0, slots := 0, locals := 53 } : Room) s m ([.ref h0, .int p1, .int p2] : List Value).toArray below meth c H locs 0 0 QQ (F0 m 23 ls []) := by
      intro n_9
      induction n_9 with
      | zero => intro i_11 v_12 f_13 f_14 f_15 H locs ls hm; exact absurd hm (Nat.not_lt_zero _)
      | succ n_9 ih_10 =>
        intro i_11 v_12 f_13 f_14 f_15 H locs ls hm hF_16 hP hD hS hl
        refine lv_iload hx hb dX6_putRight_23 (lv_at hl 0 rfl) ?_
        refine lv_iload_n hx hb dX6_putRight_25 rfl (lv_at hl 1 rfl) ?_
        refine lv_icmp_gt (tgt := 69) hx hb dX6_putRight_26 (by decide) (fun c_17 => ?_) (fun c_17 => ?_)
        · have k_18 : (r_2).toInt < (i_11).toInt := z_lt c_17
          refine lv_iconst (v := 1) hx hb dX6_putRight_69 (by decide) ?_
          refine z_backQ hQQ ?_
          obtain ⟨hP9, hD9⟩ := z_sub2 (ws' := [(h0, .inr (6, [.ref h1, .ref h6, .ref h2, .ref h3, .ref h4, .ref h5, .int v_12])), (h1, .inl (ch1, 48, .inl fh1)), (h2, .inl (ch2, 4, .inl g_h2_4)), (h3, .inl (ch3, 4, .inl f_13)), (h4, .inl (ch4, 4, .inl f_14)), (h5, .inl (ch5, 4, .inl f_15)), (h6, .inl (ch6, 144, .inl fh6))]) hP hD [4, 0, 6, 1, 2, 3, 5] (by decide) rfl
          have hK9 := hK.sub (tys' := []) [] rfl
          refine W.widen (k := 0) (n := 0) (Nat.le_of_ble_eq_true rfl) (Nat.le_of_ble_eq_true rfl) ?_
          exact W.zret (v := 1) hx hb hr (by rfl) (fun t ht hW => ⟨⟨1, (), rfl, (show ((0 : Int) ≤ (1 : Int) ∧ (1 : Int) ≤ (1 : Int)) by decide), ⟨v_12, g_h2_4, f_13, f_14, f_15, by rw [ht]; exact hP9, va_K.moved hW.alike hK9, hD9⟩⟩, hS.F ht⟩) hS.2.2 dX6_putRight_70
        · have k_19 : (r_2).toInt ≥ (i_11).toInt := z_nlt c_17
          refine lv_iconst (v := 0) hx hb dX6_putRight_29 (by decide) ?_
          refine lv_istore (lv' := [(5, .int 0), (4, .int i_11), (3, .int r_2), (0, .ref h0), (1, .int p1), (2, .int p2)]) hx hb dX6_putRight_30 hl (by decide) rfl (fun ls hl => ?_)
          have loop_20 : ∀ (n_21 : Nat) (j_23 : Int32) (v_24 : Int32) (f_25 : Nat → Int32) (f_26 : Nat → Int32) (f_27 : Nat → Int32) (H : Heap) (locs : List Loc) (ls : Array Slot), (42 - (j_23).toInt).toNat < n_21 → (((0 : Int) ≤ (j_23).toInt ∧ (j_23).toInt ≤ (41 : Int))) → va_P (dC, dI) vwCl [(h1, .inl (ch1, 48, .inl fh1)), (h3, .inl (ch3, 4, .inl f_25)), (h4, .inl (ch4, 4, .inl f_26)), (h5, .inl (ch5, 4, .inl f_27)), (h0, .inr (6, [.ref h1, .ref h6, .ref h2, .ref h3, .ref h4, .ref h5, .int v_24])), (h6, .inl (ch6, 144, .inl fh6)), (h2, .inl (ch2, 4, .inl g_h2_4))] H → va_D A [(h1, .inl (ch1, 48, .inl fh1)), (h3, .inl (ch3, 4, .inl f_25)), (h4, .inl (ch4, 4, .inl f_26)), (h5, .inl (ch5, 4, .inl f_27)), (h0, .inr (6, [.ref h1, .ref h6, .ref h2, .ref h3, .ref h4, .ref h5, .int v_24])), (h6, .inl (ch6, 144, .inl fh6)), (h2, .inl (ch2, 4, .inl g_h2_4))] → va_S A s.heap H locs → lv_has ls 6 [(5, .int j_23), (4, .int i_11), (3, .int r_2), (0, .ref h0), (1, .int p1), (2, .int p2)] → W p l e ({ frames := 2, cells := 0, slots := 0, locals := 53 } : Room) s m ([.ref h0, .int p1, .int p2] : List Value).toArray below meth c H locs 0 0 QQ (F0 m 32 ls []) := by
            intro n_21
            induction n_21 with
            | zero => intro j_23 v_24 f_25 f_26 f_27 H locs ls hm; exact absurd hm (Nat.not_lt_zero _)
            | succ n_21 ih_22 =>
              intro j_23 v_24 f_25 f_26 f_27 H locs ls hm hF_28 hP hD hS hl
              refine lv_iload hx hb dX6_putRight_32 (lv_at hl 1 rfl) ?_
              refine lv_iload hx hb dX6_putRight_34 (lv_at hl 0 rfl) ?_
              refine lv_iadd hx hb dX6_putRight_36 ?_
              refine lv_topi (fun z_29 ez_29 => ?_)
              have kz_29 : (z_29).toInt = (i_11).toInt + (j_23).toInt := by rw [ez_29]; exact z_add (a := (i_11).toInt) (b := (j_23).toInt) rfl rfl (by omega) (by omega)
              refine lv_iload_n hx hb dX6_putRight_37 rfl (lv_at hl 2 rfl) ?_
              refine lv_icmp_gt (tgt := 63) hx hb dX6_putRight_38 (by decide) (fun c_30 => ?_) (fun c_30 => ?_)
              · have k_31 : (r_2).toInt < (z_29).toInt := z_lt c_30
                obtain ⟨z_32, ez_32⟩ : ∃ y : Int32, y = i_11 + 1 := ⟨_, rfl⟩
                have kz_32 : (z_32).toInt = (i_11).toInt + (1 : Int) := by rw [ez_32]; exact z_add (b := 1) rfl rfl (z_al hF_16.1 (by decide)) (z_ah hF_16.2 (by decide))
                refine lv_iinc (v := z_32) (lv' := [(4, .int z_32), (5, .int j_23), (3, .int r_2), (0, .ref h0), (1, .int p1), (2, .int p2)]) hx hb dX6_putRight_63 hl (k := 1) rfl (by rw [ez_32]; rfl) (by decide) rfl (fun ls hl => ?_)
                refine lv_goto (tgt := 23) hx hb dX6_putRight_66 (by decide) ?_
                exact ih_10 z_32 v_24 f_25 f_26 f_27 _ _ _ (show (42 - (z_32).toInt).toNat < n_9 by omega) (show ((0 : Int) ≤ (z_32).toInt ∧ (z_32).toInt ≤ (41 : Int)) by omega) hP hD hS (lv_sub hl [0, 2, 3, 4, 5] rfl)
              · have k_33 : (r_2).toInt ≥ (z_29).toInt := z_nlt c_30
                refine lv_aload_n hx hb dX6_putRight_41 rfl (lv_at hl 3 rfl) ?_
                refine lv_iload_n hx hb dX6_putRight_42 rfl (lv_at hl 5 rfl) ?_
                refine lv_iload hx hb dX6_putRight_43 (lv_at hl 1 rfl) ?_
                refine lv_iload hx hb dX6_putRight_45 (lv_at hl 0 rfl) ?_
                refine lv_iload_n hx hb dX6_putRight_47 rfl (lv_at hl 2 rfl) ?_
                refine lv_iload hx hb dX6_putRight_48 (lv_at hl 1 rfl) ?_
                refine lv_isub hx hb dX6_putRight_50 ?_
                refine lv_topi (fun z_34 ez_34 => ?_)
                have kz_34 : (z_34).toInt = (r_2).toInt - (i_11).toInt := by rw [ez_34]; exact z_sub (a := (r_2).toInt) (b := (i_11).toInt) rfl rfl (by omega) (by omega)
                refine lv_iload hx hb dX6_putRight_51 (lv_at hl 0 rfl) ?_
                refine lv_isub hx hb dX6_putRight_53 ?_
                refine lv_topi (fun z_35 ez_35 => ?_)
                have kz_35 : (z_35).toInt = (z_34).toInt - (j_23).toInt := by rw [ez_35]; exact z_sub (a := (z_34).toInt) (b := (j_23).toInt) rfl rfl (by omega) (by omega)
                obtain ⟨hPc, hDc, hFc⟩ := z_sub3 (ws' := [(h0, .inr (6, [.ref h1, .ref h6, .ref h2, .ref h3, .ref h4, .ref h5, .int v_24])), (h1, .inl (ch1, 48, .inl fh1)), (h2, .inl (ch2, 4, .inl g_h2_4)), (h3, .inl (ch3, 4, .inl f_25)), (h4, .inl (ch4, 4, .inl f_26)), (h5, .inl (ch5, 4, .inl f_27))]) hP hD hS hA [4, 0, 6, 1, 2, 3] (by decide) rfl
                have hKc := hK.sub (tys' := [(ch1, .int), (ch2, .int), (ch3, .int), (ch4, .int), (ch5, .int)]) [0, 1, 2, 3, 4] rfl
                refine va_callv (va_runV (As := [.int p2, .int i_11, .int j_23, .int z_35]) (rest := []) ⟨hx, hb, hml, hown, hts⟩ (s_X6_tryPair l dC dI H.size h0 p2 i_11 j_23 z_35 h1 (.ref h6) h2 h3 h4 h5 v_24 ch1 fh1 ch2 g_h2_4 ch3 f_25 ch4 f_26 ch5 f_27 hB_p2) (cwV 4 hts gw_s_X6_putRight_s_X6_tryPair_38 rfl rfl rfl (by decide +kernel) ⟨Nat.le_of_ble_eq_true rfl, Nat.le_of_ble_eq_true rfl⟩) ⟨z_blind, va_recv hKc hPc (ci := 6) (q0 := 0) rfl rfl, z_pre hPc hKc hDc⟩ rfl rfl hl.1 rfl (lv_room (Nat.le_of_ble_eq_true rfl)) dX6_putRight_54 ⟨Nat.le_of_ble_eq_true rfl, Nat.le_of_ble_eq_true rfl⟩) hS (fun q _ h => hFc q h) hFc (fun u t H_36 locs ht hvm hw_38 hB hz1 hk1 hS => ?_)
                obtain ⟨n_h0_miss_39, g_h3_40, g_h4_41, g_h5_42, hP1, hK1, hD1⟩ := hB
                rw [ht] at hP1
                have hK1 := va_K.moved hvm.symm hK1
                obtain ⟨hP, hD⟩ := z_ap_1 (va_join (wr := [(h6, .inl (ch6, 144, .inl fh6))]) hP hD [4, 0, 6, 1, 2, 3] [5] rfl rfl (by decide) (by decide) hk1 hFc hP1 hD1)
                clear hPc hDc hKc
                obtain ⟨z_43, ez_43⟩ : ∃ y : Int32, y = j_23 + 1 := ⟨_, rfl⟩
                have kz_43 : (z_43).toInt = (j_23).toInt + (1 : Int) := by rw [ez_43]; exact z_add (b := 1) rfl rfl (z_al hF_28.1 (by decide)) (z_ah hF_28.2 (by decide))
                refine lv_iinc (v := z_43) (lv' := [(5, .int z_43), (4, .int i_11), (3, .int r_2), (0, .ref h0), (1, .int p1), (2, .int p2)]) hx hb dX6_putRight_57 hl (k := 0) rfl (by rw [ez_43]; rfl) (by decide) rfl (fun ls hl => ?_)
                refine lv_goto (tgt := 32) hx hb dX6_putRight_60 (by decide) ?_
                exact ih_22 z_43 n_h0_miss_39 g_h3_40 g_h4_41 g_h5_42 _ _ _ (show (42 - (z_43).toInt).toNat < n_21 by omega) (show ((0 : Int) ≤ (z_43).toInt ∧ (z_43).toInt ≤ (41 : Int)) by omega) (hP.sub (ws' := [(h1, .inl (ch1, 48, .inl fh1)), (h3, .inl (ch3, 4, .inl g_h3_40)), (h4, .inl (ch4, 4, .inl g_h4_41)), (h5, .inl (ch5, 4, .inl g_h5_42)), (h0, .inr (6, [.ref h1, .ref h6, .ref h2, .ref h3, .ref h4, .ref h5, .int n_h0_miss_39])), (h6, .inl (ch6, 144, .inl fh6)), (h2, .inl (ch2, 4, .inl g_h2_4))]) [2, 4, 5, 6, 1, 0, 3] rfl) (hD.sub (ws' := [(h1, .inl (ch1, 48, .inl fh1)), (h3, .inl (ch3, 4, .inl g_h3_40)), (h4, .inl (ch4, 4, .inl g_h4_41)), (h5, .inl (ch5, 4, .inl g_h5_42)), (h0, .inr (6, [.ref h1, .ref h6, .ref h2, .ref h3, .ref h4, .ref h5, .int n_h0_miss_39])), (h6, .inl (ch6, 144, .inl fh6)), (h2, .inl (ch2, 4, .inl g_h2_4))]) [2, 4, 5, 6, 1, 0, 3] (by decide) rfl) hS (lv_sub hl [0, 1, 2, 3, 4, 5] rfl)
          exact loop_20 _ 0 v_12 f_13 f_14 f_15 _ _ _ (Nat.lt_succ_self _) (show ((0 : Int) ≤ (0 : Int) ∧ (0 : Int) ≤ (41 : Int)) by omega) hP hD hS hl
    exact loop_8 _ 0 (-1) fh3 fh4 fh5 _ _ _ (Nat.lt_succ_self _) (show ((0 : Int) ≤ (0 : Int) ∧ (0 : Int) ≤ (41 : Int)) by omega) hP hD hS hl
  · have k_44 : (r_2).toInt > (40 : Int) := z_nle c_5
    refine lv_iconst (v := 0) hx hb dX6_putRight_13 (by decide) ?_
    refine z_backQ hQQ ?_
    obtain ⟨hP9, hD9⟩ := z_sub2 (ws' := [(h0, .inr (6, [.ref h1, .ref h6, .ref h2, .ref h3, .ref h4, .ref h5, .int rm])), (h1, .inl (ch1, 48, .inl fh1)), (h2, .inl (ch2, 4, .inl g_h2_4)), (h3, .inl (ch3, 4, .inl fh3)), (h4, .inl (ch4, 4, .inl fh4)), (h5, .inl (ch5, 4, .inl fh5)), (h6, .inl (ch6, 144, .inl fh6))]) hP hD [4, 0, 6, 1, 2, 3, 5] (by decide) rfl
    have hK9 := hK.sub (tys' := []) [] rfl
    refine W.widen (k := 0) (n := 0) (Nat.le_of_ble_eq_true rfl) (Nat.le_of_ble_eq_true rfl) ?_
    exact W.zret (v := 0) hx hb hr (by rfl) (fun t ht hW => ⟨⟨0, (), rfl, (show ((0 : Int) ≤ (0 : Int) ∧ (0 : Int) ≤ (1 : Int)) by decide), ⟨rm, g_h2_4, fh3, fh4, fh5, by rw [ht]; exact hP9, va_K.moved hW.alike hK9, hD9⟩⟩, hS.F ht⟩) hS.2.2 dX6_putRight_14
def u_s_X6_seasonsMet : List Cond := .code yX6_seasonsMet cX6_seasonsMet 5 (some .int) :: ([.methodLink RX6 51 yX6_putRight, .instanceMethod yX6_putRight, .selects RX6 yX6_putRight yX6_putRight, .initialized RX6, .fieldLink RX6 27 "ShellHeap$Readers" "died" "[I"] ++ (wsX60 ++ (u_s_X6_putRight ++ [])))
theorem gd_s_X6_seasonsMet : z_gd u_s_X6_seasonsMet := z_gdc (by decide +kernel) (z_gda gdX6 (z_gda gd_s_X6_putRight (z_gd0)))
set_option maxRecDepth 20000 in
theorem gw_s_X6_seasonsMet_s_X6_putRight_51 : GoodIn u_s_X6_seasonsMet (wsV RX6 51 RX6 yX6_putRight u_s_X6_putRight) := z_gV (z_gr _ [1, 2, 3, 4] rfl (by decide +kernel)) (fun w h => ⟨z_mc (z_mr (z_mr (z_ml h))), gd_s_X6_putRight w h⟩)
set_option maxHeartbeats 4000000 in
set_option maxRecDepth 100000 in
theorem s_X6_seasonsMet (l : Launch) (dC : Nat → ClassId) (dI : Nat → Nat → Nat) (sz : Nat) (h0 : Nat) (p1 : Int32) (h1 : Nat) (h6 : Nat) (h2 : Nat) (h3 : Nat) (h4 : Nat) (h5 : Nat) (rm : Int32) (ch1 : ClassId) (fh1 : Nat → Int32) (ch2 : ClassId) (fh2 : Nat → Int32) (ch3 : ClassId) (fh3 : Nat → Int32) (ch4 : ClassId) (fh4 : Nat → Int32) (ch5 : ClassId) (fh5 : Nat → Int32) (ch6 : ClassId) (fh6 : Nat → Int32) : Met l yX6_seasonsMet u_s_X6_seasonsMet ({ frames := 3, cells := 0, slots := 0, locals := 78 }) (va_Pc [.ref h0, .int p1] (z_C (dC, dI) vwCl [(h0, .inr (6, [.ref h1, .ref h6, .ref h2, .ref h3, .ref h4, .ref h5, .int rm])), (h1, .inl (ch1, 48, .inl fh1)), (h2, .inl (ch2, 4, .inl fh2)), (h3, .inl (ch3, 4, .inl fh3)), (h4, .inl (ch4, 4, .inl fh4)), (h5, .inl (ch5, 4, .inl fh5)), (h6, .inl (ch6, 144, .inl fh6))] [(ch1, .int), (ch2, .int), (ch3, .int), (ch4, .int), (ch5, .int), (ch6, .int)] sz)) (va_Qi (fun (r : Int32) (_ : Unit) => True) (fun (_ : Unit) (t : State) => ∃ (n_h0_miss : Int32), ∃ (g_h2 : Nat → Int32), ∃ (g_h3 : Nat → Int32), ∃ (g_h4 : Nat → Int32), ∃ (g_h5 : Nat → Int32), va_P (dC, dI) vwCl [(h0, .inr (6, [.ref h1, .ref h6, .ref h2, .ref h3, .ref h4, .ref h5, .int n_h0_miss])), (h1, .inl (ch1, 48, .inl fh1)), (h2, .inl (ch2, 4, .inl g_h2)), (h3, .inl (ch3, 4, .inl g_h3)), (h4, .inl (ch4, 4, .inl g_h4)), (h5, .inl (ch5, 4, .inl g_h5)), (h6, .inl (ch6, 144, .inl fh6))] t.heap ∧ va_K (dC, dI) vwCl [] t ∧ va_D (va_A [(h0, .inr (6, [.ref h1, .ref h6, .ref h2, .ref h3, .ref h4, .ref h5, .int rm])), (h1, .inl (ch1, 48, .inl fh1)), (h2, .inl (ch2, 4, .inl fh2)), (h3, .inl (ch3, 4, .inl fh3)), (h4, .inl (ch4, 4, .inl fh4)), (h5, .inl (ch5, 4, .inl fh5)), (h6, .inl (ch6, 144, .inl fh6))] sz) [(h0, .inr (6, [.ref h1, .ref h6, .ref h2, .ref h3, .ref h4, .ref h5, .int n_h0_miss])), (h1, .inl (ch1, 48, .inl fh1)), (h2, .inl (ch2, 4, .inl g_h2)), (h3, .inl (ch3, 4, .inl g_h3)), (h4, .inl (ch4, 4, .inl g_h4)), (h5, .inl (ch5, 4, .inl g_h5)), (h6, .inl (ch6, 144, .inl fh6))]) (va_A [(h0, .inr (6, [.ref h1, .ref h6, .ref h2, .ref h3, .ref h4, .ref h5, .int rm])), (h1, .inl (ch1, 48, .inl fh1)), (h2, .inl (ch2, 4, .inl fh2)), (h3, .inl (ch3, 4, .inl fh3)), (h4, .inl (ch4, 4, .inl fh4)), (h5, .inl (ch5, 4, .inl fh5)), (h6, .inl (ch6, 144, .inl fh6))] sz)) 0 0 (va_A [(h0, .inr (6, [.ref h1, .ref h6, .ref h2, .ref h3, .ref h4, .ref h5, .int rm])), (h1, .inl (ch1, 48, .inl fh1)), (h2, .inl (ch2, 4, .inl fh2)), (h3, .inl (ch3, 4, .inl fh3)), (h4, .inl (ch4, 4, .inl fh4)), (h5, .inl (ch5, 4, .inl fh5)), (h6, .inl (ch6, 144, .inl fh6))] sz) := by
  refine Met.ofW (cc := cX6_seasonsMet) (maxL := 5) (ret := (some .int)) (by decide) rfl ?_
  intro p e s m args below meth c s₁ B hml hv
  obtain ⟨rfl, hsz, hP, hK, hD0⟩ := hv
  have hx := B.exec
  have hb := B.bytes
  have hr := B.returns
  have hts := atoms_spec (ws := u_s_X6_seasonsMet) B.pre
  have hown : s.vm.findClass RX6 = some m.cls := findClass_of_methodNamed B.named
  have hlocks := B.notSynchronized
  subst hsz
  have hD := hD0.self (sz := s.heap.size)
  generalize hAe : va_A [(h0, .inr (6, [.ref h1, .ref h6, .ref h2, .ref h3, .ref h4, .ref h5, .int rm])), (h1, .inl (ch1, 48, .inl fh1)), (h2, .inl (ch2, 4, .inl fh2)), (h3, .inl (ch3, 4, .inl fh3)), (h4, .inl (ch4, 4, .inl fh4)), (h5, .inl (ch5, 4, .inl fh5)), (h6, .inl (ch6, 144, .inl fh6))] s.heap.size = A at hD ⊢
  have hA : ∀ q : Nat, s.heap.size ≤ q → A q := fun q h => by rw [← hAe]; exact Or.inr h
  have hS : va_S A s.heap s.heap [] := va_S.rf
  have hP : va_P (dC, dI) vwCl [(h0, .inr (6, [.ref h1, .ref h6, .ref h2, .ref h3, .ref h4, .ref h5, .int rm])), (h1, .inl (ch1, 48, .inl fh1)), (h2, .inl (ch2, 4, .inl fh2)), (h3, .inl (ch3, 4, .inl fh3)), (h4, .inl (ch4, 4, .inl fh4)), (h5, .inl (ch5, 4, .inl fh5)), (h6, .inl (ch6, 144, .inl fh6))] s.heap := hP
  have w__fieldLink_RX6_27_ShellHeap_Readers_died_I_ := hts (.fieldLink RX6 27 "ShellHeap$Readers" "died" "[I") (z_mc (z_ml z_m4))
  have hiX6 := show ∀ w ∈ u_ws RX6 TX6 7, w ∈ u_s_X6_seasonsMet from fun w h => z_mc (z_mr (z_ml h))
  have krr_p1 := z_rng p1
  have hl := lv_entry ([.ref h0, .int p1]) (n := 5) (Nat.le_of_ble_eq_true rfl)
  rw [lg_entry_eq]
  generalize (lg_sl ([.ref h0, .int p1]) ++ List.replicate (5 - (lg_sl ([.ref h0, .int p1])).length) Slot.unset).toArray = ls at hl ⊢
  have hl : lv_has ls 5 [(0, .ref h0), (1, .int p1)] := hl
  refine z_nameQ (fun QQ hQQ => ?_)
  refine lv_iconst (v := 0) hx hb dX6_seasonsMet_0 (by decide) ?_
  refine lv_istore_n (lv' := [(2, .int 0), (0, .ref h0), (1, .int p1)]) hx hb dX6_seasonsMet_1 rfl hl (by decide) rfl (fun ls hl => ?_)
  refine lv_iconst (v := 0) hx hb dX6_seasonsMet_2 (by decide) ?_
  refine lv_istore_n (lv' := [(3, .int 0), (2, .int 0), (0, .ref h0), (1, .int p1)]) hx hb dX6_seasonsMet_3 rfl hl (by decide) rfl (fun ls hl => ?_)
  have loop_1 : ∀ (n_2 : Nat) (i_4 : Int32) (n_5 : Int32) (v_6 : Int32) (f_7 : Nat → Int32) (f_8 : Nat → Int32) (f_9 : Nat → Int32) (f_10 : Nat → Int32) (H : Heap) (locs : List Loc) (ls : Array Slot), (4 - (i_4).toInt).toNat < n_2 → (((0 : Int) ≤ (i_4).toInt ∧ (i_4).toInt ≤ (3 : Int))) → va_P (dC, dI) vwCl [(h0, .inr (6, [.ref h1, .ref h6, .ref h2, .ref h3, .ref h4, .ref h5, .int v_6])), (h1, .inl (ch1, 48, .inl fh1)), (h2, .inl (ch2, 4, .inl f_7)), (h3, .inl (ch3, 4, .inl f_8)), (h4, .inl (ch4, 4, .inl f_9)), (h5, .inl (ch5, 4, .inl f_10)), (h6, .inl (ch6, 144, .inl fh6))] H → va_D A [(h0, .inr (6, [.ref h1, .ref h6, .ref h2, .ref h3, .ref h4, .ref h5, .int v_6])), (h1, .inl (ch1, 48, .inl fh1)), (h2, .inl (ch2, 4, .inl f_7)), (h3, .inl (ch3, 4, .inl f_8)), (h4, .inl (ch4, 4, .inl f_9)), (h5, .inl (ch5, 4, .inl f_10)), (h6, .inl (ch6, 144, .inl fh6))] → va_S A s.heap H locs → lv_has ls 5 [(3, .int i_4), (2, .int n_5), (0, .ref h0), (1, .int p1)] → W p l e ({ frames := 3, cells := 0, slots := 0, locals := 78 } : Room) s m ([.ref h0, .int p1] : List Value).toArray below meth c H locs 0 0 QQ (F0 m 4 ls []) := by
    intro n_2
    induction n_2 with
    | zero => intro i_4 n_5 v_6 f_7 f_8 f_9 f_10 H locs ls hm; exact absurd hm (Nat.not_lt_zero _)
    | succ n_2 ih_3 =>
      intro i_4 n_5 v_6 f_7 f_8 f_9 f_10 H locs ls hm hF_11 hP hD hS hl
      refine lv_iload_n hx hb dX6_seasonsMet_4 rfl (lv_at hl 0 rfl) ?_
      refine lv_iconst (v := 3) hx hb dX6_seasonsMet_5 (by decide) ?_
      refine lv_icmp_ge (tgt := 58) hx hb dX6_seasonsMet_6 (by decide) (fun c_12 => ?_) (fun c_12 => ?_)
      · have k_13 : (3 : Int) ≤ (i_4).toInt := z_le c_12
        obtain rfl : i_4 = 3 := z_eq' (show (i_4).toInt = (3 : Int) by omega)
        refine lv_iload_n hx hb dX6_seasonsMet_58 rfl (lv_at hl 1 rfl) ?_
        refine z_backQ hQQ ?_
        have hP9 := hP
        have hD9 := hD
        have hK9 := hK.sub (tys' := []) [] rfl
        refine W.widen (k := 0) (n := 0) (Nat.le_of_ble_eq_true rfl) (Nat.le_of_ble_eq_true rfl) ?_
        exact W.iret (v := n_5) hx hb hr (fun t ht hW => ⟨⟨n_5, (), rfl, trivial, ⟨v_6, f_7, f_8, f_9, f_10, by rw [ht]; exact hP9, va_K.moved hW.alike hK9, hD9⟩⟩, hS.F ht⟩) hS.2.2 dX6_seasonsMet_59
      · have k_15 : (3 : Int) > (i_4).toInt := z_nle c_12
        refine lv_aload_n hx hb dX6_seasonsMet_9 rfl (lv_at hl 2 rfl) ?_
        refine lv_iload_n hx hb dX6_seasonsMet_10 rfl (lv_at hl 3 rfl) ?_
        refine lv_iload_n hx hb dX6_seasonsMet_11 rfl (lv_at hl 0 rfl) ?_
        have hPc := hP
        have hDc := hD
        have hKc := hK
        have hFc := z_freeI hD hS hA
        refine va_calli (va_runV (As := [.int p1, .int i_4]) (rest := []) ⟨hx, hb, hml, hown, hts⟩ (s_X6_putRight l dC dI H.size h0 p1 i_4 h1 h6 h2 h3 h4 h5 v_6 ch1 fh1 ch2 f_7 ch3 f_8 ch4 f_9 ch5 f_10 ch6 fh6 (by first | omega | decide)) (cwV 2 hts gw_s_X6_seasonsMet_s_X6_putRight_51 rfl rfl rfl (by decide +kernel) ⟨Nat.le_of_ble_eq_true rfl, Nat.le_of_ble_eq_true rfl⟩) ⟨z_blind, va_recv hKc hPc (ci := 6) (q0 := 0) rfl rfl, z_pre hPc hKc hDc⟩ rfl rfl hl.1 rfl (lv_room (Nat.le_of_ble_eq_true rfl)) dX6_seasonsMet_12 ⟨Nat.le_of_ble_eq_true rfl, Nat.le_of_ble_eq_true rfl⟩) hS (fun q _ h => hFc q h) hFc (fun r_17 u t H_16 locs ht hvm hw_18 hB hz1 hk1 hS => ?_)
        obtain ⟨n_h0_miss_19, g_h2_20, g_h3_21, g_h4_22, g_h5_23, hP1, hK1, hD1⟩ := hB
        rw [ht] at hP1
        have hK1 := va_K.moved hvm.symm hK1
        obtain ⟨hP, hD⟩ := z_ap_0 (va_join (wr := []) hP hD [0, 1, 2, 3, 4, 5, 6] [] rfl rfl (by decide) (by decide) hk1 hFc hP1 hD1)
        clear hPc hDc hKc
        refine lv_if_ne (tgt := 20) hx hb dX6_seasonsMet_15 (by decide) (fun c_24 => ?_) (fun c_24 => ?_)
        · have k_25 : (r_17).toInt ≠ (0 : Int) := z_ne c_24
          obtain rfl : r_17 = 1 := z_eq' (show (r_17).toInt = (1 : Int) by omega)
          refine lv_iconst (v := 0) hx hb dX6_seasonsMet_20 (by decide) ?_
          refine lv_istore (lv' := [(4, .int 0), (3, .int i_4), (2, .int n_5), (0, .ref h0), (1, .int p1)]) hx hb dX6_seasonsMet_21 hl (by decide) rfl (fun ls hl => ?_)
          have loop_27 : ∀ (n_28 : Nat) (i_30 : Int32) (n_31 : Int32) (H : Heap) (locs : List Loc) (ls : Array Slot), (5 - (i_30).toInt).toNat < n_28 → (((0 : Int) ≤ (i_30).toInt ∧ (i_30).toInt ≤ (4 : Int))) → va_P (dC, dI) vwCl [(h0, .inr (6, [.ref h1, .ref h6, .ref h2, .ref h3, .ref h4, .ref h5, .int n_h0_miss_19])), (h1, .inl (ch1, 48, .inl fh1)), (h2, .inl (ch2, 4, .inl g_h2_20)), (h3, .inl (ch3, 4, .inl g_h3_21)), (h4, .inl (ch4, 4, .inl g_h4_22)), (h5, .inl (ch5, 4, .inl g_h5_23)), (h6, .inl (ch6, 144, .inl fh6))] H → va_D A [(h0, .inr (6, [.ref h1, .ref h6, .ref h2, .ref h3, .ref h4, .ref h5, .int n_h0_miss_19])), (h1, .inl (ch1, 48, .inl fh1)), (h2, .inl (ch2, 4, .inl g_h2_20)), (h3, .inl (ch3, 4, .inl g_h3_21)), (h4, .inl (ch4, 4, .inl g_h4_22)), (h5, .inl (ch5, 4, .inl g_h5_23)), (h6, .inl (ch6, 144, .inl fh6))] → va_S A s.heap H locs → lv_has ls 5 [(4, .int i_30), (3, .int i_4), (2, .int n_31), (0, .ref h0), (1, .int p1)] → W p l e ({ frames := 3, cells := 0, slots := 0, locals := 78 } : Room) s m ([.ref h0, .int p1] : List Value).toArray below meth c H locs 0 0 QQ (F0 m 23 ls []) := by
            intro n_28
            induction n_28 with
            | zero => intro i_30 n_31 H locs ls hm; exact absurd hm (Nat.not_lt_zero _)
            | succ n_28 ih_29 =>
              intro i_30 n_31 H locs ls hm hF_32 hP hD hS hl
              refine lv_iload hx hb dX6_seasonsMet_23 (lv_at hl 0 rfl) ?_
              refine lv_iconst (v := 4) hx hb dX6_seasonsMet_25 (by decide) ?_
              refine lv_icmp_ge (tgt := 52) hx hb dX6_seasonsMet_26 (by decide) (fun c_33 => ?_) (fun c_33 => ?_)
              · have k_34 : (4 : Int) ≤ (i_30).toInt := z_le c_33
                obtain rfl : i_30 = 4 := z_eq' (show (i_30).toInt = (4 : Int) by omega)
                obtain ⟨z_36, ez_36⟩ : ∃ y : Int32, y = i_4 + 1 := ⟨_, rfl⟩
                have kz_36 : (z_36).toInt = (i_4).toInt + (1 : Int) := by rw [ez_36]; exact z_add (b := 1) rfl rfl (z_al hF_11.1 (by decide)) (z_ah hF_11.2 (by decide))
                refine lv_iinc (v := z_36) (lv' := [(3, .int z_36), (4, .int 4), (2, .int n_31), (0, .ref h0), (1, .int p1)]) hx hb dX6_seasonsMet_52 hl (k := 1) rfl (by rw [ez_36]; rfl) (by decide) rfl (fun ls hl => ?_)
                refine lv_goto (tgt := 4) hx hb dX6_seasonsMet_55 (by decide) ?_
                exact ih_3 z_36 n_31 n_h0_miss_19 g_h2_20 g_h3_21 g_h4_22 g_h5_23 _ _ _ (show (4 - (z_36).toInt).toNat < n_2 by omega) (show ((0 : Int) ≤ (z_36).toInt ∧ (z_36).toInt ≤ (3 : Int)) by omega) hP hD hS (lv_sub hl [0, 2, 3, 4] rfl)
              · have k_37 : (4 : Int) > (i_30).toInt := z_nle c_33
                refine lv_aload_n hx hb dX6_seasonsMet_29 rfl (lv_at hl 3 rfl) ?_
                refine va_get (D := (dC, dI)) (ci := 6) (v := .ref h5) (C := RX6) (T := TX6) (N := 7) hx hb hts hiX6 hown hK hP 0 rfl rfl 5 (by decide) w__fieldLink_RX6_27_ShellHeap_Readers_died_I_ (fun _ h9 => h9) rfl dX6_seasonsMet_30 ?_
                refine lv_iload hx hb dX6_seasonsMet_33 (lv_at hl 0 rfl) ?_
                refine va_iald hx hb hK hP 5 4 rfl rfl (z_vpin (by omega) (by omega)) dX6_seasonsMet_35 ?_
                refine lv_topi (fun z_38 ez_38 => ?_)
                refine lv_if_le (tgt := 46) hx hb dX6_seasonsMet_36 (by decide) (fun c_39 => ?_) (fun c_39 => ?_)
                · have k_40 : (z_38).toInt ≤ (0 : Int) := z_le c_39
                  obtain ⟨z_41, ez_41⟩ : ∃ y : Int32, y = i_30 + 1 := ⟨_, rfl⟩
                  have kz_41 : (z_41).toInt = (i_30).toInt + (1 : Int) := by rw [ez_41]; exact z_add (b := 1) rfl rfl (z_al hF_32.1 (by decide)) (z_ah hF_32.2 (by decide))
                  refine lv_iinc (v := z_41) (lv' := [(4, .int z_41), (3, .int i_4), (2, .int n_31), (0, .ref h0), (1, .int p1)]) hx hb dX6_seasonsMet_46 hl (k := 0) rfl (by rw [ez_41]; rfl) (by decide) rfl (fun ls hl => ?_)
                  refine lv_goto (tgt := 23) hx hb dX6_seasonsMet_49 (by decide) ?_
                  exact ih_29 z_41 n_31 _ _ _ (show (5 - (z_41).toInt).toNat < n_28 by omega) (show ((0 : Int) ≤ (z_41).toInt ∧ (z_41).toInt ≤ (4 : Int)) by omega) hP hD hS (lv_sub hl [0, 1, 2, 3, 4] rfl)
                · have k_42 : (z_38).toInt > (0 : Int) := z_nle c_39
                  refine lv_iload_n hx hb dX6_seasonsMet_39 rfl (lv_at hl 2 rfl) ?_
                  refine lv_iconst (v := 1) hx hb dX6_seasonsMet_40 (by decide) ?_
                  refine lv_iload hx hb dX6_seasonsMet_41 (lv_at hl 0 rfl) ?_
                  refine lv_ishl hx hb dX6_seasonsMet_43 ?_
                  refine lv_topi (fun z_43 ez_43 => ?_)
                  refine lv_ior hx hb dX6_seasonsMet_44 ?_
                  refine lv_topi (fun z_44 ez_44 => ?_)
                  refine lv_istore_n (lv' := [(2, .int z_44), (4, .int i_30), (3, .int i_4), (0, .ref h0), (1, .int p1)]) hx hb dX6_seasonsMet_45 rfl hl (by decide) rfl (fun ls hl => ?_)
                  obtain ⟨z_45, ez_45⟩ : ∃ y : Int32, y = i_30 + 1 := ⟨_, rfl⟩
                  have kz_45 : (z_45).toInt = (i_30).toInt + (1 : Int) := by rw [ez_45]; exact z_add (b := 1) rfl rfl (z_al hF_32.1 (by decide)) (z_ah hF_32.2 (by decide))
                  refine lv_iinc (v := z_45) (lv' := [(4, .int z_45), (2, .int z_44), (3, .int i_4), (0, .ref h0), (1, .int p1)]) hx hb dX6_seasonsMet_46 hl (k := 1) rfl (by rw [ez_45]; rfl) (by decide) rfl (fun ls hl => ?_)
                  refine lv_goto (tgt := 23) hx hb dX6_seasonsMet_49 (by decide) ?_
                  exact ih_29 z_45 z_44 _ _ _ (show (5 - (z_45).toInt).toNat < n_28 by omega) (show ((0 : Int) ≤ (z_45).toInt ∧ (z_45).toInt ≤ (4 : Int)) by omega) hP hD hS (lv_sub hl [0, 2, 1, 3, 4] rfl)
          exact loop_27 _ 0 n_5 _ _ _ (Nat.lt_succ_self _) (show ((0 : Int) ≤ (0 : Int) ∧ (0 : Int) ≤ (4 : Int)) by omega) hP hD hS hl
        · have k_46 : (r_17).toInt = (0 : Int) := z_eq c_24
          obtain rfl : r_17 = 0 := z_eq' (show (r_17).toInt = (0 : Int) by omega)
          refine lv_iconst (v := (-1)) hx hb dX6_seasonsMet_18 (by decide) ?_
          refine z_backQ hQQ ?_
          have hP9 := hP
          have hD9 := hD
          have hK9 := hK.sub (tys' := []) [] rfl
          refine W.widen (k := 0) (n := 0) (Nat.le_of_ble_eq_true rfl) (Nat.le_of_ble_eq_true rfl) ?_
          exact W.iret (v := (-1)) hx hb hr (fun t ht hW => ⟨⟨(-1), (), rfl, trivial, ⟨n_h0_miss_19, g_h2_20, g_h3_21, g_h4_22, g_h5_23, by rw [ht]; exact hP9, va_K.moved hW.alike hK9, hD9⟩⟩, hS.F ht⟩) hS.2.2 dX6_seasonsMet_19
  exact loop_1 _ 0 0 rm fh2 fh3 fh4 fh5 _ _ _ (Nat.lt_succ_self _) (show ((0 : Int) ≤ (0 : Int) ∧ (0 : Int) ≤ (3 : Int)) by omega) hP hD hS hl
def u_s_X2_leaveOutEach : List Cond := .code yX2_leaveOutEach cX2_leaveOutEach 3 none :: ([.fieldLink RX2 34 "ShellHeap$Ground" "columns" "I", .fieldLink RX2 37 "ShellHeap$Ground" "whole" "I", .fieldLink RX2 28 "ShellHeap$Ground" "without" "[I", .fieldLink RX2 40 "ShellHeap$Ground" "least" "I", .methodLink RX2 57 Lib.Math.min.name, .static Lib.Math.min.name, .initialized "java/lang/Math", .code Lib.Math.min.name Lib.Math.min.code 2 (some .int), .fieldLink RX2 43 "ShellHeap$Ground" "greatest" "I", .methodLink RX2 63 Lib.Math.max.name, .static Lib.Math.max.name, .code Lib.Math.max.name Lib.Math.max.code 2 (some .int)] ++ (wsX20 ++ []))
theorem gd_s_X2_leaveOutEach : z_gd u_s_X2_leaveOutEach := z_gdc (by decide +kernel) (z_gda gdX2 (z_gd0))
set_option maxHeartbeats 4000000 in
set_option maxRecDepth 100000 in
theorem s_X2_leaveOutEach (l : Launch) (dC : Nat → ClassId) (dI : Nat → Nat → Nat) (sz : Nat) (h0 : Nat) (h0_0 : Value) (h0_1 : Value) (h0_2 : Value) (h0_3 : Value) (h0_4 : Value) (h1 : Nat) (h0_6 : Value) (gc : Int32) (go : Int32) (gl : Int32) (gg : Int32) (ch1 : ClassId) (fh1 : Nat → Int32) (hB_gc : ((0 : Int) ≤ (gc).toInt ∧ (gc).toInt ≤ (10 : Int))) : Met l yX2_leaveOutEach u_s_X2_leaveOutEach ({ frames := 1, cells := 0, slots := 0, locals := 14 }) (va_Pc [.ref h0] (z_C (dC, dI) vwCl [(h0, .inr (2, [h0_0, h0_1, h0_2, h0_3, h0_4, .ref h1, h0_6, .int gc, .int go, .int gl, .int gg])), (h1, .inl (ch1, 10, .inl fh1))] [(ch1, .int)] sz)) (va_Qv (fun (_ : Unit) => True) (fun (_ : Unit) (t : State) => ∃ (n_h0_least : Int32), ∃ (n_h0_greatest : Int32), va_P (dC, dI) vwCl [(h0, .inr (2, [h0_0, h0_1, h0_2, h0_3, h0_4, .ref h1, h0_6, .int gc, .int go, .int n_h0_least, .int n_h0_greatest])), (h1, .inl (ch1, 10, .inl fh1))] t.heap ∧ va_K (dC, dI) vwCl [] t ∧ va_D (va_A [(h0, .inr (2, [h0_0, h0_1, h0_2, h0_3, h0_4, .ref h1, h0_6, .int gc, .int go, .int gl, .int gg])), (h1, .inl (ch1, 10, .inl fh1))] sz) [(h0, .inr (2, [h0_0, h0_1, h0_2, h0_3, h0_4, .ref h1, h0_6, .int gc, .int go, .int n_h0_least, .int n_h0_greatest])), (h1, .inl (ch1, 10, .inl fh1))]) (va_A [(h0, .inr (2, [h0_0, h0_1, h0_2, h0_3, h0_4, .ref h1, h0_6, .int gc, .int go, .int gl, .int gg])), (h1, .inl (ch1, 10, .inl fh1))] sz)) 0 0 (va_A [(h0, .inr (2, [h0_0, h0_1, h0_2, h0_3, h0_4, .ref h1, h0_6, .int gc, .int go, .int gl, .int gg])), (h1, .inl (ch1, 10, .inl fh1))] sz) := by
  refine Met.ofW (cc := cX2_leaveOutEach) (maxL := 3) (ret := none) (by decide) rfl ?_
  intro p e s m args below meth c s₁ B hml hv
  obtain ⟨rfl, hsz, hP, hK, hD0⟩ := hv
  have hx := B.exec
  have hb := B.bytes
  have hr := B.returns
  have hts := atoms_spec (ws := u_s_X2_leaveOutEach) B.pre
  have hown : s.vm.findClass RX2 = some m.cls := findClass_of_methodNamed B.named
  have hlocks := B.notSynchronized
  subst hsz
  have hD := hD0.self (sz := s.heap.size)
  generalize hAe : va_A [(h0, .inr (2, [h0_0, h0_1, h0_2, h0_3, h0_4, .ref h1, h0_6, .int gc, .int go, .int gl, .int gg])), (h1, .inl (ch1, 10, .inl fh1))] s.heap.size = A at hD ⊢
  have hA : ∀ q : Nat, s.heap.size ≤ q → A q := fun q h => by rw [← hAe]; exact Or.inr h
  have hS : va_S A s.heap s.heap [] := va_S.rf
  have hP : va_P (dC, dI) vwCl [(h0, .inr (2, [h0_0, h0_1, h0_2, h0_3, h0_4, .ref h1, h0_6, .int gc, .int go, .int gl, .int gg])), (h1, .inl (ch1, 10, .inl fh1))] s.heap := hP
  have w__fieldLink_RX2_34_ShellHeap_Ground_columns_I_ := hts (.fieldLink RX2 34 "ShellHeap$Ground" "columns" "I") (z_mc (z_ml z_m0))
  have hiX2 := show ∀ w ∈ u_ws RX2 TX2 11, w ∈ u_s_X2_leaveOutEach from fun w h => z_mc (z_mr (z_ml h))
  have w__fieldLink_RX2_37_ShellHeap_Ground_whole_I_ := hts (.fieldLink RX2 37 "ShellHeap$Ground" "whole" "I") (z_mc (z_ml z_m1))
  have w__fieldLink_RX2_28_ShellHeap_Ground_without_I_ := hts (.fieldLink RX2 28 "ShellHeap$Ground" "without" "[I") (z_mc (z_ml z_m2))
  have w__fieldLink_RX2_40_ShellHeap_Ground_least_I_ := hts (.fieldLink RX2 40 "ShellHeap$Ground" "least" "I") (z_mc (z_ml z_m3))
  have w__methodLink_RX2_57_Lib_Math_min_name := hts (.methodLink RX2 57 Lib.Math.min.name) (z_mc (z_ml z_m4))
  have w__static_Lib_Math_min_name := hts (.static Lib.Math.min.name) (z_mc (z_ml z_m5))
  have w__initialized_java_lang_Math_ := hts (.initialized "java/lang/Math") (z_mc (z_ml z_m6))
  have w__code_Lib_Math_min_name_Lib_Math_min_code_2_some_int_ := hts (.code Lib.Math.min.name Lib.Math.min.code 2 (some .int)) (z_mc (z_ml z_m7))
  have w__fieldLink_RX2_43_ShellHeap_Ground_greatest_I_ := hts (.fieldLink RX2 43 "ShellHeap$Ground" "greatest" "I") (z_mc (z_ml z_m8))
  have w__methodLink_RX2_63_Lib_Math_max_name := hts (.methodLink RX2 63 Lib.Math.max.name) (z_mc (z_ml z_m9))
  have w__static_Lib_Math_max_name := hts (.static Lib.Math.max.name) (z_mc (z_ml z_m10))
  have w__code_Lib_Math_max_name_Lib_Math_max_code_2_some_int_ := hts (.code Lib.Math.max.name Lib.Math.max.code 2 (some .int)) (z_mc (z_ml z_m11))
  have hl := lv_entry ([.ref h0]) (n := 3) (Nat.le_of_ble_eq_true rfl)
  rw [lg_entry_eq]
  generalize (lg_sl ([.ref h0]) ++ List.replicate (3 - (lg_sl ([.ref h0])).length) Slot.unset).toArray = ls at hl ⊢
  have hl : lv_has ls 3 [(0, .ref h0)] := hl
  refine z_nameQ (fun QQ hQQ => ?_)
  refine lv_iconst (v := 0) hx hb dX2_leaveOutEach_0 (by decide) ?_
  refine lv_istore_n (lv' := [(1, .int 0), (0, .ref h0)]) hx hb dX2_leaveOutEach_1 rfl hl (by decide) rfl (fun ls hl => ?_)
  have loop_1 : ∀ (n_2 : Nat) (i_4 : Int32) (v_5 : Int32) (v_6 : Int32) (H : Heap) (locs : List Loc) (ls : Array Slot), (11 - (i_4).toInt).toNat < n_2 → (((0 : Int) ≤ (i_4).toInt ∧ (i_4).toInt ≤ (10 : Int))) → va_P (dC, dI) vwCl [(h0, .inr (2, [h0_0, h0_1, h0_2, h0_3, h0_4, .ref h1, h0_6, .int gc, .int go, .int v_5, .int v_6])), (h1, .inl (ch1, 10, .inl fh1))] H → va_D A [(h0, .inr (2, [h0_0, h0_1, h0_2, h0_3, h0_4, .ref h1, h0_6, .int gc, .int go, .int v_5, .int v_6])), (h1, .inl (ch1, 10, .inl fh1))] → va_S A s.heap H locs → lv_has ls 3 [(1, .int i_4), (0, .ref h0)] → W p l e ({ frames := 1, cells := 0, slots := 0, locals := 14 } : Room) s m ([.ref h0] : List Value).toArray below meth c H locs 0 0 QQ (F0 m 2 ls []) := by
    intro n_2
    induction n_2 with
    | zero => intro i_4 v_5 v_6 H locs ls hm; exact absurd hm (Nat.not_lt_zero _)
    | succ n_2 ih_3 =>
      intro i_4 v_5 v_6 H locs ls hm hF_7 hP hD hS hl
      refine lv_iload_n hx hb dX2_leaveOutEach_2 rfl (lv_at hl 0 rfl) ?_
      refine lv_aload_n hx hb dX2_leaveOutEach_3 rfl (lv_at hl 1 rfl) ?_
      refine va_get (D := (dC, dI)) (ci := 2) (v := .int gc) (C := RX2) (T := TX2) (N := 11) hx hb hts hiX2 hown hK hP 0 rfl rfl 7 (by decide) w__fieldLink_RX2_34_ShellHeap_Ground_columns_I_ (fun _ h9 => h9) rfl dX2_leaveOutEach_4 ?_
      refine lv_icmp_ge (tgt := 68) hx hb dX2_leaveOutEach_7 (by decide) (fun c_8 => ?_) (fun c_8 => ?_)
      · have k_9 : (gc).toInt ≤ (i_4).toInt := z_le c_8
        refine z_backQ hQQ ?_
        have hP9 := hP
        have hD9 := hD
        have hK9 := hK.sub (tys' := []) [] rfl
        refine W.widen (k := 0) (n := 0) (Nat.le_of_ble_eq_true rfl) (Nat.le_of_ble_eq_true rfl) ?_
        exact W.vret hx hb hr (fun t ht hW => ⟨⟨(), rfl, trivial, ⟨v_5, v_6, by rw [ht]; exact hP9, va_K.moved hW.alike hK9, hD9⟩⟩, hS.F ht⟩) hS.2.2 dX2_leaveOutEach_68
      · have k_10 : (gc).toInt > (i_4).toInt := z_nle c_8
        refine lv_aload_n hx hb dX2_leaveOutEach_10 rfl (lv_at hl 1 rfl) ?_
        refine va_get (D := (dC, dI)) (ci := 2) (v := .int go) (C := RX2) (T := TX2) (N := 11) hx hb hts hiX2 hown hK hP 0 rfl rfl 8 (by decide) w__fieldLink_RX2_37_ShellHeap_Ground_whole_I_ (fun _ h9 => h9) rfl dX2_leaveOutEach_11 ?_
        refine lv_aload_n hx hb dX2_leaveOutEach_14 rfl (lv_at hl 1 rfl) ?_
        refine va_get (D := (dC, dI)) (ci := 2) (v := .ref h1) (C := RX2) (T := TX2) (N := 11) hx hb hts hiX2 hown hK hP 0 rfl rfl 5 (by decide) w__fieldLink_RX2_28_ShellHeap_Ground_without_I_ (fun _ h9 => h9) rfl dX2_leaveOutEach_15 ?_
        refine lv_iload_n hx hb dX2_leaveOutEach_18 rfl (lv_at hl 0 rfl) ?_
        refine va_iald hx hb hK hP 1 0 rfl rfl (z_vpin (by omega) (by omega)) dX2_leaveOutEach_19 ?_
        refine lv_topi (fun z_11 ez_11 => ?_)
        refine lv_iadd hx hb dX2_leaveOutEach_20 ?_
        refine lv_topi (fun z_12 ez_12 => ?_)
        refine lv_istore_n (lv' := [(2, .int z_12), (1, .int i_4), (0, .ref h0)]) hx hb dX2_leaveOutEach_21 rfl hl (by decide) rfl (fun ls hl => ?_)
        refine lv_aload_n hx hb dX2_leaveOutEach_22 rfl (lv_at hl 2 rfl) ?_
        refine lv_iload_n hx hb dX2_leaveOutEach_23 rfl (lv_at hl 1 rfl) ?_
        refine lv_if_ne (tgt := 31) hx hb dX2_leaveOutEach_24 (by decide) (fun c_13 => ?_) (fun c_13 => ?_)
        · have k_14 : (i_4).toInt ≠ (0 : Int) := z_ne c_13
          refine lv_aload_n hx hb dX2_leaveOutEach_31 rfl (lv_at hl 2 rfl) ?_
          refine va_get (D := (dC, dI)) (ci := 2) (v := .int v_5) (C := RX2) (T := TX2) (N := 11) hx hb hts hiX2 hown hK hP 0 rfl rfl 9 (by decide) w__fieldLink_RX2_40_ShellHeap_Ground_least_I_ (fun _ h9 => h9) rfl dX2_leaveOutEach_32 ?_
          refine lv_iload_n hx hb dX2_leaveOutEach_35 rfl (lv_at hl 0 rfl) ?_
          refine va_mmin hx hb (hml.trans hl.1.symm) hown w__methodLink_RX2_57_Lib_Math_min_name w__static_Lib_Math_min_name w__initialized_java_lang_Math_ w__code_Lib_Math_min_name_Lib_Math_min_code_2_some_int_ (Nat.le_of_ble_eq_true rfl) (Nat.le_of_ble_eq_true rfl) (Nat.le_of_ble_eq_true rfl) (Nat.le_of_ble_eq_true rfl) dX2_leaveOutEach_36 ?_
          refine lv_topi (fun z_15 ez_15 => ?_)
          have kz_15 : ((z_15).toInt = (v_5).toInt ∨ (z_15).toInt = (z_12).toInt) ∧ (z_15).toInt ≤ (v_5).toInt ∧ (z_15).toInt ≤ (z_12).toInt := z_min ez_15
          refine va_put (D := (dC, dI)) (ci := 2) (v := .int z_15) (ty := .int) (C := RX2) (T := TX2) (N := 11) hx hb hts hiX2 tyX2 tyX2_ok nmX2 hown hK hP hD hS 0 rfl rfl 9 (by decide) w__fieldLink_RX2_40_ShellHeap_Ground_least_I_ (fun _ h9 => h9) rfl (by decide +kernel) rfl rfl (Nat.le_of_ble_eq_true rfl) dX2_leaveOutEach_39 (fun H_16 locs hP hD hS => ?_)
          obtain ⟨hP, hD⟩ := z_s_0_9 hP hD
          refine lv_aload_n hx hb dX2_leaveOutEach_42 rfl (lv_at hl 2 rfl) ?_
          refine lv_iload_n hx hb dX2_leaveOutEach_43 rfl (lv_at hl 1 rfl) ?_
          refine lv_if_ne (tgt := 51) hx hb dX2_leaveOutEach_44 (by decide) (fun _ => ?_) (fun c_17 => ?_)
          rotate_left
          · exfalso
            have k_18 : (i_4).toInt = (0 : Int) := z_eq c_17
            omega
          refine lv_aload_n hx hb dX2_leaveOutEach_51 rfl (lv_at hl 2 rfl) ?_
          refine va_get (D := (dC, dI)) (ci := 2) (v := .int v_6) (C := RX2) (T := TX2) (N := 11) hx hb hts hiX2 hown hK hP 0 rfl rfl 10 (by decide) w__fieldLink_RX2_43_ShellHeap_Ground_greatest_I_ (fun _ h9 => h9) rfl dX2_leaveOutEach_52 ?_
          refine lv_iload_n hx hb dX2_leaveOutEach_55 rfl (lv_at hl 0 rfl) ?_
          refine va_mmax hx hb (hml.trans hl.1.symm) hown w__methodLink_RX2_63_Lib_Math_max_name w__static_Lib_Math_max_name w__initialized_java_lang_Math_ w__code_Lib_Math_max_name_Lib_Math_max_code_2_some_int_ (Nat.le_of_ble_eq_true rfl) (Nat.le_of_ble_eq_true rfl) (Nat.le_of_ble_eq_true rfl) (Nat.le_of_ble_eq_true rfl) dX2_leaveOutEach_56 ?_
          refine lv_topi (fun z_19 ez_19 => ?_)
          have kz_19 : ((z_19).toInt = (v_6).toInt ∨ (z_19).toInt = (z_12).toInt) ∧ (z_19).toInt ≥ (v_6).toInt ∧ (z_19).toInt ≥ (z_12).toInt := z_max ez_19
          refine va_put (D := (dC, dI)) (ci := 2) (v := .int z_19) (ty := .int) (C := RX2) (T := TX2) (N := 11) hx hb hts hiX2 tyX2 tyX2_ok nmX2 hown hK hP hD hS 0 rfl rfl 10 (by decide) w__fieldLink_RX2_43_ShellHeap_Ground_greatest_I_ (fun _ h9 => h9) rfl (by decide +kernel) rfl rfl (Nat.le_of_ble_eq_true rfl) dX2_leaveOutEach_59 (fun H_20 locs hP hD hS => ?_)
          obtain ⟨hP, hD⟩ := z_s_0_10 hP hD
          obtain ⟨z_21, ez_21⟩ : ∃ y : Int32, y = i_4 + 1 := ⟨_, rfl⟩
          have kz_21 : (z_21).toInt = (i_4).toInt + (1 : Int) := by rw [ez_21]; exact z_add (b := 1) rfl rfl (z_al hF_7.1 (by decide)) (z_ah hF_7.2 (by decide))
          refine lv_iinc (v := z_21) (lv' := [(1, .int z_21), (2, .int z_12), (0, .ref h0)]) hx hb dX2_leaveOutEach_62 hl (k := 1) rfl (by rw [ez_21]; rfl) (by decide) rfl (fun ls hl => ?_)
          refine lv_goto (tgt := 2) hx hb dX2_leaveOutEach_65 (by decide) ?_
          exact ih_3 z_21 z_15 z_19 _ _ _ (show (11 - (z_21).toInt).toNat < n_2 by omega) (show ((0 : Int) ≤ (z_21).toInt ∧ (z_21).toInt ≤ (10 : Int)) by omega) hP hD hS (lv_sub hl [0, 2] rfl)
        · have k_22 : (i_4).toInt = (0 : Int) := z_eq c_13
          obtain rfl : i_4 = 0 := z_eq' (show (i_4).toInt = (0 : Int) by omega)
          refine lv_iload_n hx hb dX2_leaveOutEach_27 rfl (lv_at hl 0 rfl) ?_
          refine lv_goto (tgt := 39) hx hb dX2_leaveOutEach_28 (by decide) ?_
          refine va_put (D := (dC, dI)) (ci := 2) (v := .int z_12) (ty := .int) (C := RX2) (T := TX2) (N := 11) hx hb hts hiX2 tyX2 tyX2_ok nmX2 hown hK hP hD hS 0 rfl rfl 9 (by decide) w__fieldLink_RX2_40_ShellHeap_Ground_least_I_ (fun _ h9 => h9) rfl (by decide +kernel) rfl rfl (Nat.le_of_ble_eq_true rfl) dX2_leaveOutEach_39 (fun H_24 locs hP hD hS => ?_)
          obtain ⟨hP, hD⟩ := z_s_0_9 hP hD
          refine lv_aload_n hx hb dX2_leaveOutEach_42 rfl (lv_at hl 2 rfl) ?_
          refine lv_iload_n hx hb dX2_leaveOutEach_43 rfl (lv_at hl 1 rfl) ?_
          refine lv_if_ne (tgt := 51) hx hb dX2_leaveOutEach_44 (by decide) (fun c_25 => absurd c_25 (by decide)) (fun _ => ?_)
          refine lv_iload_n hx hb dX2_leaveOutEach_47 rfl (lv_at hl 0 rfl) ?_
          refine lv_goto (tgt := 59) hx hb dX2_leaveOutEach_48 (by decide) ?_
          refine va_put (D := (dC, dI)) (ci := 2) (v := .int z_12) (ty := .int) (C := RX2) (T := TX2) (N := 11) hx hb hts hiX2 tyX2 tyX2_ok nmX2 hown hK hP hD hS 0 rfl rfl 10 (by decide) w__fieldLink_RX2_43_ShellHeap_Ground_greatest_I_ (fun _ h9 => h9) rfl (by decide +kernel) rfl rfl (Nat.le_of_ble_eq_true rfl) dX2_leaveOutEach_59 (fun H_26 locs hP hD hS => ?_)
          obtain ⟨hP, hD⟩ := z_s_0_10 hP hD
          refine lv_iinc (v := 1) (lv' := [(1, .int 1), (2, .int z_12), (0, .ref h0)]) hx hb dX2_leaveOutEach_62 hl (k := 1) rfl (by decide) (by decide) rfl (fun ls hl => ?_)
          refine lv_goto (tgt := 2) hx hb dX2_leaveOutEach_65 (by decide) ?_
          exact ih_3 1 z_12 z_12 _ _ _ (show (11 - (1 : Int)).toNat < n_2 by omega) (show ((0 : Int) ≤ (1 : Int) ∧ (1 : Int) ≤ (10 : Int)) by omega) hP hD hS (lv_sub hl [0, 2] rfl)
  exact loop_1 _ 0 gl gg _ _ _ (Nat.lt_succ_self _) (show ((0 : Int) ≤ (0 : Int) ∧ (0 : Int) ≤ (10 : Int)) by omega) hP hD hS hl
def u_s_X2_weighCell : List Cond := .code yX2_weighCell cX2_weighCell 9 none :: ([.fieldLink RX2 34 "ShellHeap$Ground" "columns" "I", .fieldLink RX2 37 "ShellHeap$Ground" "whole" "I", .fieldLink RX2 25 "ShellHeap$Ground" "ofBed" "[I", .fieldLink RX2 28 "ShellHeap$Ground" "without" "[I", .fieldLink RX2 18 "ShellHeap$Ground" "xs" "[I", .fieldLink RX2 22 "ShellHeap$Ground" "ys" "[I"] ++ (wsX20 ++ []))
theorem gd_s_X2_weighCell : z_gd u_s_X2_weighCell := z_gdc (by decide +kernel) (z_gda gdX2 (z_gd0))
set_option maxHeartbeats 4000000 in
set_option maxRecDepth 100000 in
theorem s_X2_weighCell (l : Launch) (dC : Nat → ClassId) (dI : Nat → Nat → Nat) (sz : Nat) (h0 : Nat) (p1 : Int32) (p2 : Int32) (h0_0 : Value) (h0_1 : Value) (h1 : Nat) (h2 : Nat) (h3 : Nat) (h4 : Nat) (h0_6 : Value) (gc : Int32) (go : Int32) (h0_9 : Value) (h0_10 : Value) (ch1 : ClassId) (fh1 : Nat → Int32) (ch2 : ClassId) (fh2 : Nat → Int32) (ch3 : ClassId) (fh3 : Nat → Int32) (ch4 : ClassId) (fh4 : Nat → Int32) (hB_gc : ((0 : Int) ≤ (gc).toInt ∧ (gc).toInt ≤ (10 : Int))) : Met l yX2_weighCell u_s_X2_weighCell ({ frames := 0, cells := 0, slots := 0, locals := 0 }) (va_Pc [.ref h0, .int p1, .int p2] (z_C (dC, dI) vwCl [(h0, .inr (2, [h0_0, h0_1, .ref h1, .ref h2, .ref h3, .ref h4, h0_6, .int gc, .int go, h0_9, h0_10])), (h1, .inl (ch1, 10, .inl fh1)), (h2, .inl (ch2, 10, .inl fh2)), (h3, .inl (ch3, 10, .inl fh3)), (h4, .inl (ch4, 10, .inl fh4))] [(ch1, .int), (ch2, .int), (ch3, .int), (ch4, .int)] sz)) (va_Qv (fun (_ : Unit) => True) (fun (_ : Unit) (t : State) => ∃ (n_h0_whole : Int32), ∃ (g_h4 : Nat → Int32), va_P (dC, dI) vwCl [(h0, .inr (2, [h0_0, h0_1, .ref h1, .ref h2, .ref h3, .ref h4, h0_6, .int gc, .int n_h0_whole, h0_9, h0_10])), (h1, .inl (ch1, 10, .inl fh1)), (h2, .inl (ch2, 10, .inl fh2)), (h3, .inl (ch3, 10, .inl fh3)), (h4, .inl (ch4, 10, .inl g_h4))] t.heap ∧ va_K (dC, dI) vwCl [] t ∧ va_D (va_A [(h0, .inr (2, [h0_0, h0_1, .ref h1, .ref h2, .ref h3, .ref h4, h0_6, .int gc, .int go, h0_9, h0_10])), (h1, .inl (ch1, 10, .inl fh1)), (h2, .inl (ch2, 10, .inl fh2)), (h3, .inl (ch3, 10, .inl fh3)), (h4, .inl (ch4, 10, .inl fh4))] sz) [(h0, .inr (2, [h0_0, h0_1, .ref h1, .ref h2, .ref h3, .ref h4, h0_6, .int gc, .int n_h0_whole, h0_9, h0_10])), (h1, .inl (ch1, 10, .inl fh1)), (h2, .inl (ch2, 10, .inl fh2)), (h3, .inl (ch3, 10, .inl fh3)), (h4, .inl (ch4, 10, .inl g_h4))]) (va_A [(h0, .inr (2, [h0_0, h0_1, .ref h1, .ref h2, .ref h3, .ref h4, h0_6, .int gc, .int go, h0_9, h0_10])), (h1, .inl (ch1, 10, .inl fh1)), (h2, .inl (ch2, 10, .inl fh2)), (h3, .inl (ch3, 10, .inl fh3)), (h4, .inl (ch4, 10, .inl fh4))] sz)) 0 0 (va_A [(h0, .inr (2, [h0_0, h0_1, .ref h1, .ref h2, .ref h3, .ref h4, h0_6, .int gc, .int go, h0_9, h0_10])), (h1, .inl (ch1, 10, .inl fh1)), (h2, .inl (ch2, 10, .inl fh2)), (h3, .inl (ch3, 10, .inl fh3)), (h4, .inl (ch4, 10, .inl fh4))] sz) := by
  refine Met.ofW (cc := cX2_weighCell) (maxL := 9) (ret := none) (by decide) rfl ?_
  intro p e s m args below meth c s₁ B hml hv
  obtain ⟨rfl, hsz, hP, hK, hD0⟩ := hv
  have hx := B.exec
  have hb := B.bytes
  have hr := B.returns
  have hts := atoms_spec (ws := u_s_X2_weighCell) B.pre
  have hown : s.vm.findClass RX2 = some m.cls := findClass_of_methodNamed B.named
  have hlocks := B.notSynchronized
  subst hsz
  have hD := hD0.self (sz := s.heap.size)
  generalize hAe : va_A [(h0, .inr (2, [h0_0, h0_1, .ref h1, .ref h2, .ref h3, .ref h4, h0_6, .int gc, .int go, h0_9, h0_10])), (h1, .inl (ch1, 10, .inl fh1)), (h2, .inl (ch2, 10, .inl fh2)), (h3, .inl (ch3, 10, .inl fh3)), (h4, .inl (ch4, 10, .inl fh4))] s.heap.size = A at hD ⊢
  have hA : ∀ q : Nat, s.heap.size ≤ q → A q := fun q h => by rw [← hAe]; exact Or.inr h
  have hS : va_S A s.heap s.heap [] := va_S.rf
  have hP : va_P (dC, dI) vwCl [(h0, .inr (2, [h0_0, h0_1, .ref h1, .ref h2, .ref h3, .ref h4, h0_6, .int gc, .int go, h0_9, h0_10])), (h1, .inl (ch1, 10, .inl fh1)), (h2, .inl (ch2, 10, .inl fh2)), (h3, .inl (ch3, 10, .inl fh3)), (h4, .inl (ch4, 10, .inl fh4))] s.heap := hP
  have w__fieldLink_RX2_34_ShellHeap_Ground_columns_I_ := hts (.fieldLink RX2 34 "ShellHeap$Ground" "columns" "I") (z_mc (z_ml z_m0))
  have hiX2 := show ∀ w ∈ u_ws RX2 TX2 11, w ∈ u_s_X2_weighCell from fun w h => z_mc (z_mr (z_ml h))
  have w__fieldLink_RX2_37_ShellHeap_Ground_whole_I_ := hts (.fieldLink RX2 37 "ShellHeap$Ground" "whole" "I") (z_mc (z_ml z_m1))
  have w__fieldLink_RX2_25_ShellHeap_Ground_ofBed_I_ := hts (.fieldLink RX2 25 "ShellHeap$Ground" "ofBed" "[I") (z_mc (z_ml z_m2))
  have w__fieldLink_RX2_28_ShellHeap_Ground_without_I_ := hts (.fieldLink RX2 28 "ShellHeap$Ground" "without" "[I") (z_mc (z_ml z_m3))
  have w__fieldLink_RX2_18_ShellHeap_Ground_xs_I_ := hts (.fieldLink RX2 18 "ShellHeap$Ground" "xs" "[I") (z_mc (z_ml z_m4))
  have w__fieldLink_RX2_22_ShellHeap_Ground_ys_I_ := hts (.fieldLink RX2 22 "ShellHeap$Ground" "ys" "[I") (z_mc (z_ml z_m5))
  have krr_p1 := z_rng p1
  have krr_p2 := z_rng p2
  have hl := lv_entry ([.ref h0, .int p1, .int p2]) (n := 9) (Nat.le_of_ble_eq_true rfl)
  rw [lg_entry_eq]
  generalize (lg_sl ([.ref h0, .int p1, .int p2]) ++ List.replicate (9 - (lg_sl ([.ref h0, .int p1, .int p2])).length) Slot.unset).toArray = ls at hl ⊢
  have hl : lv_has ls 9 [(0, .ref h0), (1, .int p1), (2, .int p2)] := hl
  refine z_nameQ (fun QQ hQQ => ?_)
  refine lv_iconst (v := (-1)) hx hb dX2_weighCell_0 (by decide) ?_
  refine lv_istore_n (lv' := [(3, .int (-1)), (0, .ref h0), (1, .int p1), (2, .int p2)]) hx hb dX2_weighCell_1 rfl hl (by decide) rfl (fun ls hl => ?_)
  refine lv_iconst (v := (-1)) hx hb dX2_weighCell_2 (by decide) ?_
  refine lv_istore (lv' := [(4, .int (-1)), (3, .int (-1)), (0, .ref h0), (1, .int p1), (2, .int p2)]) hx hb dX2_weighCell_3 hl (by decide) rfl (fun ls hl => ?_)
  refine lv_iconst (v := 0) hx hb dX2_weighCell_5 (by decide) ?_
  refine lv_istore (lv' := [(5, .int 0), (4, .int (-1)), (3, .int (-1)), (0, .ref h0), (1, .int p1), (2, .int p2)]) hx hb dX2_weighCell_6 hl (by decide) rfl (fun ls hl => ?_)
  refine lv_iconst (v := 0) hx hb dX2_weighCell_8 (by decide) ?_
  refine lv_istore (lv' := [(6, .int 0), (5, .int 0), (4, .int (-1)), (3, .int (-1)), (0, .ref h0), (1, .int p1), (2, .int p2)]) hx hb dX2_weighCell_9 hl (by decide) rfl (fun ls hl => ?_)
  refine lv_iconst (v := 0) hx hb dX2_weighCell_11 (by decide) ?_
  refine lv_istore (lv' := [(7, .int 0), (6, .int 0), (5, .int 0), (4, .int (-1)), (3, .int (-1)), (0, .ref h0), (1, .int p1), (2, .int p2)]) hx hb dX2_weighCell_12 hl (by decide) rfl (fun ls hl => ?_)
  have loop_1 : ∀ (n_2 : Nat) (i_4 : Int32) (a_5 : Int32) (c_6 : Int32) (u_7 : Int32) (v_8 : Int32) (H : Heap) (locs : List Loc) (ls : Array Slot), (11 - (i_4).toInt).toNat < n_2 → (((0 : Int) ≤ (i_4).toInt ∧ (i_4).toInt ≤ (10 : Int))) → (((-1 : Int) ≤ (a_5).toInt ∧ (a_5).toInt ≤ (9 : Int))) → (((-1 : Int) ≤ (c_6).toInt ∧ (c_6).toInt ≤ (9 : Int))) → va_P (dC, dI) vwCl [(h0, .inr (2, [h0_0, h0_1, .ref h1, .ref h2, .ref h3, .ref h4, h0_6, .int gc, .int go, h0_9, h0_10])), (h1, .inl (ch1, 10, .inl fh1)), (h2, .inl (ch2, 10, .inl fh2)), (h3, .inl (ch3, 10, .inl fh3)), (h4, .inl (ch4, 10, .inl fh4))] H → va_D A [(h0, .inr (2, [h0_0, h0_1, .ref h1, .ref h2, .ref h3, .ref h4, h0_6, .int gc, .int go, h0_9, h0_10])), (h1, .inl (ch1, 10, .inl fh1)), (h2, .inl (ch2, 10, .inl fh2)), (h3, .inl (ch3, 10, .inl fh3)), (h4, .inl (ch4, 10, .inl fh4))] → va_S A s.heap H locs → lv_has ls 9 [(7, .int i_4), (6, .int v_8), (5, .int u_7), (4, .int c_6), (3, .int a_5), (0, .ref h0), (1, .int p1), (2, .int p2)] → W p l e ({ frames := 0, cells := 0, slots := 0, locals := 0 } : Room) s m ([.ref h0, .int p1, .int p2] : List Value).toArray below meth c H locs 0 0 QQ (F0 m 14 ls []) := by
    intro n_2
    induction n_2 with
    | zero => intro i_4 a_5 c_6 u_7 v_8 H locs ls hm; exact absurd hm (Nat.not_lt_zero _)
    | succ n_2 ih_3 =>
      intro i_4 a_5 c_6 u_7 v_8 H locs ls hm hF_9 hF_10 hF_11 hP hD hS hl
      refine lv_iload hx hb dX2_weighCell_14 (lv_at hl 0 rfl) ?_
      refine lv_aload_n hx hb dX2_weighCell_16 rfl (lv_at hl 5 rfl) ?_
      refine va_get (D := (dC, dI)) (ci := 2) (v := .int gc) (C := RX2) (T := TX2) (N := 11) hx hb hts hiX2 hown hK hP 0 rfl rfl 7 (by decide) w__fieldLink_RX2_34_ShellHeap_Ground_columns_I_ (fun _ h9 => h9) rfl dX2_weighCell_17 ?_
      refine lv_icmp_ge (tgt := 120) hx hb dX2_weighCell_20 (by decide) (fun c_12 => ?_) (fun c_12 => ?_)
      · have k_13 : (gc).toInt ≤ (i_4).toInt := z_le c_12
        refine lv_iload_n hx hb dX2_weighCell_120 rfl (lv_at hl 4 rfl) ?_
        refine lv_iconst (v := (-1)) hx hb dX2_weighCell_121 (by decide) ?_
        refine lv_icmp_ne (tgt := 126) hx hb dX2_weighCell_122 (by decide) (fun c_14 => ?_) (fun c_14 => ?_)
        · have k_15 : (a_5).toInt ≠ (-1 : Int) := z_ne c_14
          refine lv_aload_n hx hb dX2_weighCell_126 rfl (lv_at hl 5 rfl) ?_
          refine lv_dup hx hb dX2_weighCell_127 rfl ?_
          refine va_get (D := (dC, dI)) (ci := 2) (v := .int go) (C := RX2) (T := TX2) (N := 11) hx hb hts hiX2 hown hK hP 0 rfl rfl 8 (by decide) w__fieldLink_RX2_37_ShellHeap_Ground_whole_I_ (fun _ h9 => h9) rfl dX2_weighCell_128 ?_
          refine lv_aload_n hx hb dX2_weighCell_131 rfl (lv_at hl 5 rfl) ?_
          refine va_get (D := (dC, dI)) (ci := 2) (v := .ref h3) (C := RX2) (T := TX2) (N := 11) hx hb hts hiX2 hown hK hP 0 rfl rfl 4 (by decide) w__fieldLink_RX2_25_ShellHeap_Ground_ofBed_I_ (fun _ h9 => h9) rfl dX2_weighCell_132 ?_
          refine lv_iload_n hx hb dX2_weighCell_135 rfl (lv_at hl 4 rfl) ?_
          refine va_iald hx hb hK hP 3 2 rfl rfl (z_vpin (by omega) (by omega)) dX2_weighCell_136 ?_
          refine lv_topi (fun z_16 ez_16 => ?_)
          refine lv_iadd hx hb dX2_weighCell_137 ?_
          refine lv_topi (fun z_17 ez_17 => ?_)
          refine va_put (D := (dC, dI)) (ci := 2) (v := .int z_17) (ty := .int) (C := RX2) (T := TX2) (N := 11) hx hb hts hiX2 tyX2 tyX2_ok nmX2 hown hK hP hD hS 0 rfl rfl 8 (by decide) w__fieldLink_RX2_37_ShellHeap_Ground_whole_I_ (fun _ h9 => h9) rfl (by decide +kernel) rfl rfl (Nat.le_of_ble_eq_true rfl) dX2_weighCell_138 (fun H_18 locs hP hD hS => ?_)
          obtain ⟨hP, hD⟩ := z_s_0_8 hP hD
          refine lv_iload hx hb dX2_weighCell_141 (lv_at hl 3 rfl) ?_
          refine lv_iconst (v := (-1)) hx hb dX2_weighCell_143 (by decide) ?_
          refine lv_icmp_eq (tgt := 170) hx hb dX2_weighCell_144 (by decide) (fun c_19 => ?_) (fun c_19 => ?_)
          · have k_20 : (c_6).toInt = (-1 : Int) := z_eq c_19
            obtain rfl : c_6 = (-1) := z_eq' (show (c_6).toInt = (-1 : Int) by omega)
            refine z_backQ hQQ ?_
            have hP9 := hP
            have hD9 := hD
            have hK9 := hK.sub (tys' := []) [] rfl
            refine W.widen (k := 0) (n := 0) (Nat.le_of_ble_eq_true rfl) (Nat.le_of_ble_eq_true rfl) ?_
            exact W.vret hx hb hr (fun t ht hW => ⟨⟨(), rfl, trivial, ⟨z_17, fh4, by rw [ht]; exact hP9, va_K.moved hW.alike hK9, hD9⟩⟩, hS.F ht⟩) hS.2.2 dX2_weighCell_170
          · have k_22 : (c_6).toInt ≠ (-1 : Int) := z_ne c_19
            refine lv_aload_n hx hb dX2_weighCell_147 rfl (lv_at hl 5 rfl) ?_
            refine va_get (D := (dC, dI)) (ci := 2) (v := .ref h4) (C := RX2) (T := TX2) (N := 11) hx hb hts hiX2 hown hK hP 0 rfl rfl 5 (by decide) w__fieldLink_RX2_28_ShellHeap_Ground_without_I_ (fun _ h9 => h9) rfl dX2_weighCell_148 ?_
            refine lv_iload_n hx hb dX2_weighCell_151 rfl (lv_at hl 4 rfl) ?_
            refine lv_dup2_11 hx hb dX2_weighCell_152 rfl rfl ?_
            refine va_iald hx hb hK hP 4 3 rfl rfl (z_vpin (by omega) (by omega)) dX2_weighCell_153 ?_
            refine lv_topi (fun z_23 ez_23 => ?_)
            refine lv_aload_n hx hb dX2_weighCell_154 rfl (lv_at hl 5 rfl) ?_
            refine va_get (D := (dC, dI)) (ci := 2) (v := .ref h3) (C := RX2) (T := TX2) (N := 11) hx hb hts hiX2 hown hK hP 0 rfl rfl 4 (by decide) w__fieldLink_RX2_25_ShellHeap_Ground_ofBed_I_ (fun _ h9 => h9) rfl dX2_weighCell_155 ?_
            refine lv_iload hx hb dX2_weighCell_158 (lv_at hl 3 rfl) ?_
            refine va_iald hx hb hK hP 3 2 rfl rfl (z_vpin (by omega) (by omega)) dX2_weighCell_160 ?_
            refine lv_topi (fun z_24 ez_24 => ?_)
            refine lv_aload_n hx hb dX2_weighCell_161 rfl (lv_at hl 5 rfl) ?_
            refine va_get (D := (dC, dI)) (ci := 2) (v := .ref h3) (C := RX2) (T := TX2) (N := 11) hx hb hts hiX2 hown hK hP 0 rfl rfl 4 (by decide) w__fieldLink_RX2_25_ShellHeap_Ground_ofBed_I_ (fun _ h9 => h9) rfl dX2_weighCell_162 ?_
            refine lv_iload_n hx hb dX2_weighCell_165 rfl (lv_at hl 4 rfl) ?_
            refine va_iald hx hb hK hP 3 2 rfl rfl (z_vpin (by omega) (by omega)) dX2_weighCell_166 ?_
            refine lv_topi (fun z_25 ez_25 => ?_)
            refine lv_isub hx hb dX2_weighCell_167 ?_
            refine lv_topi (fun z_26 ez_26 => ?_)
            refine lv_iadd hx hb dX2_weighCell_168 ?_
            refine lv_topi (fun z_27 ez_27 => ?_)
            refine va_iast hx hb hK hP hD hS 4 3 rfl rfl (z_vpin (by omega) (by omega)) dX2_weighCell_169 (fun H_28 locs hP hD hS => ?_)
            obtain ⟨hP, hD⟩ := z_s_4 hP hD
            generalize (upd fh4 (a_5 : Int32).toNatClampNeg z_27) = f_29 at hP hD
            refine z_backQ hQQ ?_
            have hP9 := hP
            have hD9 := hD
            have hK9 := hK.sub (tys' := []) [] rfl
            refine W.widen (k := 0) (n := 0) (Nat.le_of_ble_eq_true rfl) (Nat.le_of_ble_eq_true rfl) ?_
            exact W.vret hx hb hr (fun t ht hW => ⟨⟨(), rfl, trivial, ⟨z_17, f_29, by rw [ht]; exact hP9, va_K.moved hW.alike hK9, hD9⟩⟩, hS.F ht⟩) hS.2.2 dX2_weighCell_170
        · have k_30 : (a_5).toInt = (-1 : Int) := z_eq c_14
          obtain rfl : a_5 = (-1) := z_eq' (show (a_5).toInt = (-1 : Int) by omega)
          refine z_backQ hQQ ?_
          have hP9 := hP
          have hD9 := hD
          have hK9 := hK.sub (tys' := []) [] rfl
          refine W.widen (k := 0) (n := 0) (Nat.le_of_ble_eq_true rfl) (Nat.le_of_ble_eq_true rfl) ?_
          exact W.vret hx hb hr (fun t ht hW => ⟨⟨(), rfl, trivial, ⟨go, fh4, by rw [ht]; exact hP9, va_K.moved hW.alike hK9, hD9⟩⟩, hS.F ht⟩) hS.2.2 dX2_weighCell_125
      · have k_32 : (gc).toInt > (i_4).toInt := z_nle c_12
        refine lv_aload_n hx hb dX2_weighCell_23 rfl (lv_at hl 5 rfl) ?_
        refine va_get (D := (dC, dI)) (ci := 2) (v := .ref h1) (C := RX2) (T := TX2) (N := 11) hx hb hts hiX2 hown hK hP 0 rfl rfl 2 (by decide) w__fieldLink_RX2_18_ShellHeap_Ground_xs_I_ (fun _ h9 => h9) rfl dX2_weighCell_24 ?_
        refine lv_iload hx hb dX2_weighCell_27 (lv_at hl 0 rfl) ?_
        refine va_iald hx hb hK hP 1 0 rfl rfl (z_vpin (by omega) (by omega)) dX2_weighCell_29 ?_
        refine lv_topi (fun z_33 ez_33 => ?_)
        refine lv_iload_n hx hb dX2_weighCell_30 rfl (lv_at hl 6 rfl) ?_
        refine lv_isub hx hb dX2_weighCell_31 ?_
        refine lv_topi (fun z_34 ez_34 => ?_)
        refine lv_aload_n hx hb dX2_weighCell_32 rfl (lv_at hl 5 rfl) ?_
        refine va_get (D := (dC, dI)) (ci := 2) (v := .ref h1) (C := RX2) (T := TX2) (N := 11) hx hb hts hiX2 hown hK hP 0 rfl rfl 2 (by decide) w__fieldLink_RX2_18_ShellHeap_Ground_xs_I_ (fun _ h9 => h9) rfl dX2_weighCell_33 ?_
        refine lv_iload hx hb dX2_weighCell_36 (lv_at hl 0 rfl) ?_
        refine va_iald hx hb hK hP 1 0 rfl rfl (z_vpin (by omega) (by omega)) dX2_weighCell_38 ?_
        refine lv_topi (fun z_35 ez_35 => ?_)
        refine lv_iload_n hx hb dX2_weighCell_39 rfl (lv_at hl 6 rfl) ?_
        refine lv_isub hx hb dX2_weighCell_40 ?_
        refine lv_topi (fun z_36 ez_36 => ?_)
        refine lv_imul hx hb dX2_weighCell_41 ?_
        refine lv_topi (fun z_37 ez_37 => ?_)
        refine lv_aload_n hx hb dX2_weighCell_42 rfl (lv_at hl 5 rfl) ?_
        refine va_get (D := (dC, dI)) (ci := 2) (v := .ref h2) (C := RX2) (T := TX2) (N := 11) hx hb hts hiX2 hown hK hP 0 rfl rfl 3 (by decide) w__fieldLink_RX2_22_ShellHeap_Ground_ys_I_ (fun _ h9 => h9) rfl dX2_weighCell_43 ?_
        refine lv_iload hx hb dX2_weighCell_46 (lv_at hl 0 rfl) ?_
        refine va_iald hx hb hK hP 2 1 rfl rfl (z_vpin (by omega) (by omega)) dX2_weighCell_48 ?_
        refine lv_topi (fun z_38 ez_38 => ?_)
        refine lv_iload_n hx hb dX2_weighCell_49 rfl (lv_at hl 7 rfl) ?_
        refine lv_isub hx hb dX2_weighCell_50 ?_
        refine lv_topi (fun z_39 ez_39 => ?_)
        refine lv_aload_n hx hb dX2_weighCell_51 rfl (lv_at hl 5 rfl) ?_
        refine va_get (D := (dC, dI)) (ci := 2) (v := .ref h2) (C := RX2) (T := TX2) (N := 11) hx hb hts hiX2 hown hK hP 0 rfl rfl 3 (by decide) w__fieldLink_RX2_22_ShellHeap_Ground_ys_I_ (fun _ h9 => h9) rfl dX2_weighCell_52 ?_
        refine lv_iload hx hb dX2_weighCell_55 (lv_at hl 0 rfl) ?_
        refine va_iald hx hb hK hP 2 1 rfl rfl (z_vpin (by omega) (by omega)) dX2_weighCell_57 ?_
        refine lv_topi (fun z_40 ez_40 => ?_)
        refine lv_iload_n hx hb dX2_weighCell_58 rfl (lv_at hl 7 rfl) ?_
        refine lv_isub hx hb dX2_weighCell_59 ?_
        refine lv_topi (fun z_41 ez_41 => ?_)
        refine lv_imul hx hb dX2_weighCell_60 ?_
        refine lv_topi (fun z_42 ez_42 => ?_)
        refine lv_iadd hx hb dX2_weighCell_61 ?_
        refine lv_topi (fun z_43 ez_43 => ?_)
        refine lv_istore (lv' := [(8, .int z_43), (7, .int i_4), (6, .int v_8), (5, .int u_7), (4, .int c_6), (3, .int a_5), (0, .ref h0), (1, .int p1), (2, .int p2)]) hx hb dX2_weighCell_62 hl (by decide) rfl (fun ls hl => ?_)
        refine lv_iload_n hx hb dX2_weighCell_64 rfl (lv_at hl 5 rfl) ?_
        refine lv_iconst (v := (-1)) hx hb dX2_weighCell_65 (by decide) ?_
        refine lv_icmp_eq (tgt := 76) hx hb dX2_weighCell_66 (by decide) (fun c_44 => ?_) (fun c_44 => ?_)
        · have k_45 : (a_5).toInt = (-1 : Int) := z_eq c_44
          obtain rfl : a_5 = (-1) := z_eq' (show (a_5).toInt = (-1 : Int) by omega)
          refine lv_iload_n hx hb dX2_weighCell_76 rfl (lv_at hl 5 rfl) ?_
          refine lv_istore (lv' := [(4, .int (-1)), (8, .int z_43), (7, .int i_4), (6, .int v_8), (5, .int u_7), (3, .int (-1)), (0, .ref h0), (1, .int p1), (2, .int p2)]) hx hb dX2_weighCell_77 hl (by decide) rfl (fun ls hl => ?_)
          refine lv_iload hx hb dX2_weighCell_79 (lv_at hl 4 rfl) ?_
          refine lv_istore (lv' := [(6, .int u_7), (4, .int (-1)), (8, .int z_43), (7, .int i_4), (5, .int u_7), (3, .int (-1)), (0, .ref h0), (1, .int p1), (2, .int p2)]) hx hb dX2_weighCell_81 hl (by decide) rfl (fun ls hl => ?_)
          refine lv_iload hx hb dX2_weighCell_83 (lv_at hl 3 rfl) ?_
          refine lv_istore_n (lv' := [(3, .int i_4), (6, .int u_7), (4, .int (-1)), (8, .int z_43), (7, .int i_4), (5, .int u_7), (0, .ref h0), (1, .int p1), (2, .int p2)]) hx hb dX2_weighCell_85 rfl hl (by decide) rfl (fun ls hl => ?_)
          refine lv_iload hx hb dX2_weighCell_86 (lv_at hl 3 rfl) ?_
          refine lv_istore (lv' := [(5, .int z_43), (3, .int i_4), (6, .int u_7), (4, .int (-1)), (8, .int z_43), (7, .int i_4), (0, .ref h0), (1, .int p1), (2, .int p2)]) hx hb dX2_weighCell_88 hl (by decide) rfl (fun ls hl => ?_)
          refine lv_goto (tgt := 114) hx hb dX2_weighCell_90 (by decide) ?_
          obtain ⟨z_47, ez_47⟩ : ∃ y : Int32, y = i_4 + 1 := ⟨_, rfl⟩
          have kz_47 : (z_47).toInt = (i_4).toInt + (1 : Int) := by rw [ez_47]; exact z_add (b := 1) rfl rfl (z_al hF_9.1 (by decide)) (z_ah hF_9.2 (by decide))
          refine lv_iinc (v := z_47) (lv' := [(7, .int z_47), (5, .int z_43), (3, .int i_4), (6, .int u_7), (4, .int (-1)), (8, .int z_43), (0, .ref h0), (1, .int p1), (2, .int p2)]) hx hb dX2_weighCell_114 hl (k := 5) rfl (by rw [ez_47]; rfl) (by decide) rfl (fun ls hl => ?_)
          refine lv_goto (tgt := 14) hx hb dX2_weighCell_117 (by decide) ?_
          exact ih_3 z_47 i_4 (-1) z_43 u_7 _ _ _ (show (11 - (z_47).toInt).toNat < n_2 by omega) (show ((0 : Int) ≤ (z_47).toInt ∧ (z_47).toInt ≤ (10 : Int)) by omega) (show ((-1 : Int) ≤ (i_4).toInt ∧ (i_4).toInt ≤ (9 : Int)) by omega) (show ((-1 : Int) ≤ (-1 : Int) ∧ (-1 : Int) ≤ (9 : Int)) by omega) hP hD hS (lv_sub hl [0, 3, 1, 4, 2, 6, 7, 8] rfl)
        · have k_48 : (a_5).toInt ≠ (-1 : Int) := z_ne c_44
          refine lv_iload hx hb dX2_weighCell_69 (lv_at hl 0 rfl) ?_
          refine lv_iload hx hb dX2_weighCell_71 (lv_at hl 3 rfl) ?_
          refine lv_icmp_ge (tgt := 93) hx hb dX2_weighCell_73 (by decide) (fun c_49 => ?_) (fun c_49 => ?_)
          · have k_50 : (u_7).toInt ≤ (z_43).toInt := z_le c_49
            refine lv_iload hx hb dX2_weighCell_93 (lv_at hl 4 rfl) ?_
            refine lv_iconst (v := (-1)) hx hb dX2_weighCell_95 (by decide) ?_
            refine lv_icmp_eq (tgt := 106) hx hb dX2_weighCell_96 (by decide) (fun c_51 => ?_) (fun c_51 => ?_)
            · have k_52 : (c_6).toInt = (-1 : Int) := z_eq c_51
              obtain rfl : c_6 = (-1) := z_eq' (show (c_6).toInt = (-1 : Int) by omega)
              refine lv_iload hx hb dX2_weighCell_106 (lv_at hl 1 rfl) ?_
              refine lv_istore (lv' := [(4, .int i_4), (8, .int z_43), (7, .int i_4), (6, .int v_8), (5, .int u_7), (3, .int a_5), (0, .ref h0), (1, .int p1), (2, .int p2)]) hx hb dX2_weighCell_108 hl (by decide) rfl (fun ls hl => ?_)
              refine lv_iload hx hb dX2_weighCell_110 (lv_at hl 1 rfl) ?_
              refine lv_istore (lv' := [(6, .int z_43), (4, .int i_4), (8, .int z_43), (7, .int i_4), (5, .int u_7), (3, .int a_5), (0, .ref h0), (1, .int p1), (2, .int p2)]) hx hb dX2_weighCell_112 hl (by decide) rfl (fun ls hl => ?_)
              obtain ⟨z_54, ez_54⟩ : ∃ y : Int32, y = i_4 + 1 := ⟨_, rfl⟩
              have kz_54 : (z_54).toInt = (i_4).toInt + (1 : Int) := by rw [ez_54]; exact z_add (b := 1) rfl rfl (z_al hF_9.1 (by decide)) (z_ah hF_9.2 (by decide))
              refine lv_iinc (v := z_54) (lv' := [(7, .int z_54), (6, .int z_43), (4, .int i_4), (8, .int z_43), (5, .int u_7), (3, .int a_5), (0, .ref h0), (1, .int p1), (2, .int p2)]) hx hb dX2_weighCell_114 hl (k := 3) rfl (by rw [ez_54]; rfl) (by decide) rfl (fun ls hl => ?_)
              refine lv_goto (tgt := 14) hx hb dX2_weighCell_117 (by decide) ?_
              exact ih_3 z_54 a_5 i_4 u_7 z_43 _ _ _ (show (11 - (z_54).toInt).toNat < n_2 by omega) (show ((0 : Int) ≤ (z_54).toInt ∧ (z_54).toInt ≤ (10 : Int)) by omega) (show ((-1 : Int) ≤ (a_5).toInt ∧ (a_5).toInt ≤ (9 : Int)) by omega) (show ((-1 : Int) ≤ (i_4).toInt ∧ (i_4).toInt ≤ (9 : Int)) by omega) hP hD hS (lv_sub hl [0, 1, 4, 2, 5, 6, 7, 8] rfl)
            · have k_55 : (c_6).toInt ≠ (-1 : Int) := z_ne c_51
              refine lv_iload hx hb dX2_weighCell_99 (lv_at hl 0 rfl) ?_
              refine lv_iload hx hb dX2_weighCell_101 (lv_at hl 2 rfl) ?_
              refine lv_icmp_ge (tgt := 114) hx hb dX2_weighCell_103 (by decide) (fun c_56 => ?_) (fun c_56 => ?_)
              · have k_57 : (v_8).toInt ≤ (z_43).toInt := z_le c_56
                obtain ⟨z_58, ez_58⟩ : ∃ y : Int32, y = i_4 + 1 := ⟨_, rfl⟩
                have kz_58 : (z_58).toInt = (i_4).toInt + (1 : Int) := by rw [ez_58]; exact z_add (b := 1) rfl rfl (z_al hF_9.1 (by decide)) (z_ah hF_9.2 (by decide))
                refine lv_iinc (v := z_58) (lv' := [(7, .int z_58), (8, .int z_43), (6, .int v_8), (5, .int u_7), (4, .int c_6), (3, .int a_5), (0, .ref h0), (1, .int p1), (2, .int p2)]) hx hb dX2_weighCell_114 hl (k := 1) rfl (by rw [ez_58]; rfl) (by decide) rfl (fun ls hl => ?_)
                refine lv_goto (tgt := 14) hx hb dX2_weighCell_117 (by decide) ?_
                exact ih_3 z_58 a_5 c_6 u_7 v_8 _ _ _ (show (11 - (z_58).toInt).toNat < n_2 by omega) (show ((0 : Int) ≤ (z_58).toInt ∧ (z_58).toInt ≤ (10 : Int)) by omega) (show ((-1 : Int) ≤ (a_5).toInt ∧ (a_5).toInt ≤ (9 : Int)) by omega) (show ((-1 : Int) ≤ (c_6).toInt ∧ (c_6).toInt ≤ (9 : Int)) by omega) hP hD hS (lv_sub hl [0, 2, 3, 4, 5, 6, 7, 8] rfl)
              · have k_59 : (v_8).toInt > (z_43).toInt := z_nle c_56
                refine lv_iload hx hb dX2_weighCell_106 (lv_at hl 1 rfl) ?_
                refine lv_istore (lv' := [(4, .int i_4), (8, .int z_43), (7, .int i_4), (6, .int v_8), (5, .int u_7), (3, .int a_5), (0, .ref h0), (1, .int p1), (2, .int p2)]) hx hb dX2_weighCell_108 hl (by decide) rfl (fun ls hl => ?_)
                refine lv_iload hx hb dX2_weighCell_110 (lv_at hl 1 rfl) ?_
                refine lv_istore (lv' := [(6, .int z_43), (4, .int i_4), (8, .int z_43), (7, .int i_4), (5, .int u_7), (3, .int a_5), (0, .ref h0), (1, .int p1), (2, .int p2)]) hx hb dX2_weighCell_112 hl (by decide) rfl (fun ls hl => ?_)
                obtain ⟨z_60, ez_60⟩ : ∃ y : Int32, y = i_4 + 1 := ⟨_, rfl⟩
                have kz_60 : (z_60).toInt = (i_4).toInt + (1 : Int) := by rw [ez_60]; exact z_add (b := 1) rfl rfl (z_al hF_9.1 (by decide)) (z_ah hF_9.2 (by decide))
                refine lv_iinc (v := z_60) (lv' := [(7, .int z_60), (6, .int z_43), (4, .int i_4), (8, .int z_43), (5, .int u_7), (3, .int a_5), (0, .ref h0), (1, .int p1), (2, .int p2)]) hx hb dX2_weighCell_114 hl (k := 3) rfl (by rw [ez_60]; rfl) (by decide) rfl (fun ls hl => ?_)
                refine lv_goto (tgt := 14) hx hb dX2_weighCell_117 (by decide) ?_
                exact ih_3 z_60 a_5 i_4 u_7 z_43 _ _ _ (show (11 - (z_60).toInt).toNat < n_2 by omega) (show ((0 : Int) ≤ (z_60).toInt ∧ (z_60).toInt ≤ (10 : Int)) by omega) (show ((-1 : Int) ≤ (a_5).toInt ∧ (a_5).toInt ≤ (9 : Int)) by omega) (show ((-1 : Int) ≤ (i_4).toInt ∧ (i_4).toInt ≤ (9 : Int)) by omega) hP hD hS (lv_sub hl [0, 1, 4, 2, 5, 6, 7, 8] rfl)
          · have k_61 : (u_7).toInt > (z_43).toInt := z_nle c_49
            refine lv_iload_n hx hb dX2_weighCell_76 rfl (lv_at hl 5 rfl) ?_
            refine lv_istore (lv' := [(4, .int a_5), (8, .int z_43), (7, .int i_4), (6, .int v_8), (5, .int u_7), (3, .int a_5), (0, .ref h0), (1, .int p1), (2, .int p2)]) hx hb dX2_weighCell_77 hl (by decide) rfl (fun ls hl => ?_)
            refine lv_iload hx hb dX2_weighCell_79 (lv_at hl 4 rfl) ?_
            refine lv_istore (lv' := [(6, .int u_7), (4, .int a_5), (8, .int z_43), (7, .int i_4), (5, .int u_7), (3, .int a_5), (0, .ref h0), (1, .int p1), (2, .int p2)]) hx hb dX2_weighCell_81 hl (by decide) rfl (fun ls hl => ?_)
            refine lv_iload hx hb dX2_weighCell_83 (lv_at hl 3 rfl) ?_
            refine lv_istore_n (lv' := [(3, .int i_4), (6, .int u_7), (4, .int a_5), (8, .int z_43), (7, .int i_4), (5, .int u_7), (0, .ref h0), (1, .int p1), (2, .int p2)]) hx hb dX2_weighCell_85 rfl hl (by decide) rfl (fun ls hl => ?_)
            refine lv_iload hx hb dX2_weighCell_86 (lv_at hl 3 rfl) ?_
            refine lv_istore (lv' := [(5, .int z_43), (3, .int i_4), (6, .int u_7), (4, .int a_5), (8, .int z_43), (7, .int i_4), (0, .ref h0), (1, .int p1), (2, .int p2)]) hx hb dX2_weighCell_88 hl (by decide) rfl (fun ls hl => ?_)
            refine lv_goto (tgt := 114) hx hb dX2_weighCell_90 (by decide) ?_
            obtain ⟨z_62, ez_62⟩ : ∃ y : Int32, y = i_4 + 1 := ⟨_, rfl⟩
            have kz_62 : (z_62).toInt = (i_4).toInt + (1 : Int) := by rw [ez_62]; exact z_add (b := 1) rfl rfl (z_al hF_9.1 (by decide)) (z_ah hF_9.2 (by decide))
            refine lv_iinc (v := z_62) (lv' := [(7, .int z_62), (5, .int z_43), (3, .int i_4), (6, .int u_7), (4, .int a_5), (8, .int z_43), (0, .ref h0), (1, .int p1), (2, .int p2)]) hx hb dX2_weighCell_114 hl (k := 5) rfl (by rw [ez_62]; rfl) (by decide) rfl (fun ls hl => ?_)
            refine lv_goto (tgt := 14) hx hb dX2_weighCell_117 (by decide) ?_
            exact ih_3 z_62 i_4 a_5 z_43 u_7 _ _ _ (show (11 - (z_62).toInt).toNat < n_2 by omega) (show ((0 : Int) ≤ (z_62).toInt ∧ (z_62).toInt ≤ (10 : Int)) by omega) (show ((-1 : Int) ≤ (i_4).toInt ∧ (i_4).toInt ≤ (9 : Int)) by omega) (show ((-1 : Int) ≤ (a_5).toInt ∧ (a_5).toInt ≤ (9 : Int)) by omega) hP hD hS (lv_sub hl [0, 3, 1, 4, 2, 6, 7, 8] rfl)
  exact loop_1 _ 0 (-1) (-1) 0 0 _ _ _ (Nat.lt_succ_self _) (show ((0 : Int) ≤ (0 : Int) ∧ (0 : Int) ≤ (10 : Int)) by omega) (show ((-1 : Int) ≤ (-1 : Int) ∧ (-1 : Int) ≤ (9 : Int)) by omega) (show ((-1 : Int) ≤ (-1 : Int) ∧ (-1 : Int) ≤ (9 : Int)) by omega) hP hD hS hl
def u_s_X2_weigh : List Cond := .code yX2_weigh cX2_weigh 4 none :: ([.fieldLink RX2 37 "ShellHeap$Ground" "whole" "I", .fieldLink RX2 34 "ShellHeap$Ground" "columns" "I", .fieldLink RX2 9 "ShellHeap$Ground" "w" "I", .methodLink RX2 54 yX2_leaveOutEach, .instanceMethod yX2_leaveOutEach, .selects RX2 yX2_leaveOutEach yX2_leaveOutEach, .initialized RX2, .fieldLink RX2 15 "ShellHeap$Ground" "h" "I", .methodLink RX2 50 yX2_weighCell, .instanceMethod yX2_weighCell, .selects RX2 yX2_weighCell yX2_weighCell, .fieldLink RX2 25 "ShellHeap$Ground" "ofBed" "[I", .fieldLink RX2 28 "ShellHeap$Ground" "without" "[I", .fieldLink RX2 31 "ShellHeap$Ground" "thickness" "[I"] ++ (wsX20 ++ (u_s_X2_leaveOutEach ++ (u_s_X2_weighCell ++ []))))
theorem gd_s_X2_weigh : z_gd u_s_X2_weigh := z_gdc (by decide +kernel) (z_gda gdX2 (z_gda gd_s_X2_leaveOutEach (z_gda gd_s_X2_weighCell (z_gd0))))
set_option maxRecDepth 20000 in
theorem gw_s_X2_weigh_s_X2_leaveOutEach_54 : GoodIn u_s_X2_weigh (wsV RX2 54 RX2 yX2_leaveOutEach u_s_X2_leaveOutEach) := z_gV (z_gr _ [4, 5, 6, 7] rfl (by decide +kernel)) (fun w h => ⟨z_mc (z_mr (z_mr (z_ml h))), gd_s_X2_leaveOutEach w h⟩)
set_option maxRecDepth 20000 in
theorem gw_s_X2_weigh_s_X2_weighCell_50 : GoodIn u_s_X2_weigh (wsV RX2 50 RX2 yX2_weighCell u_s_X2_weighCell) := z_gV (z_gr _ [9, 10, 11, 7] rfl (by decide +kernel)) (fun w h => ⟨z_mc (z_mr (z_mr (z_mr (z_ml h)))), gd_s_X2_weighCell w h⟩)
set_option maxHeartbeats 4000000 in
set_option maxRecDepth 100000 in
theorem s_X2_weigh (l : Launch) (dC : Nat → ClassId) (dI : Nat → Nat → Nat) (sz : Nat) (h0 : Nat) (p1 : Int32) (gw : Int32) (gh : Int32) (h1 : Nat) (h2 : Nat) (h3 : Nat) (h4 : Nat) (h5 : Nat) (gc : Int32) (go : Int32) (gl : Int32) (gg : Int32) (ch1 : ClassId) (fh1 : Nat → Int32) (ch2 : ClassId) (fh2 : Nat → Int32) (ch3 : ClassId) (fh3 : Nat → Int32) (ch4 : ClassId) (fh4 : Nat → Int32) (ch5 : ClassId) (fh5 : Nat → Int32) (hB_gw : ((2 : Int) ≤ (gw).toInt ∧ (gw).toInt ≤ (12 : Int))) (hB_gh : ((2 : Int) ≤ (gh).toInt ∧ (gh).toInt ≤ (12 : Int))) (hB_gc : ((0 : Int) ≤ (gc).toInt ∧ (gc).toInt ≤ (10 : Int))) : Met l yX2_weigh u_s_X2_weigh ({ frames := 2, cells := 0, slots := 0, locals := 36 }) (va_Pc [.ref h0, .int p1] (z_C (dC, dI) vwCl [(h0, .inr (2, [.int gw, .int gh, .ref h1, .ref h2, .ref h3, .ref h4, .ref h5, .int gc, .int go, .int gl, .int gg])), (h1, .inl (ch1, 10, .inl fh1)), (h2, .inl (ch2, 10, .inl fh2)), (h3, .inl (ch3, 10, .inl fh3)), (h4, .inl (ch4, 10, .inl fh4)), (h5, .inl (ch5, 120, .inl fh5))] [(ch1, .int), (ch2, .int), (ch3, .int), (ch4, .int), (ch5, .int)] sz)) (va_Qv (fun (_ : Unit) => True) (fun (_ : Unit) (t : State) => ∃ (n_h0_whole : Int32), ∃ (n_h0_least : Int32), ∃ (n_h0_greatest : Int32), ∃ (g_h3 : Nat → Int32), ∃ (g_h4 : Nat → Int32), va_P (dC, dI) vwCl [(h0, .inr (2, [.int gw, .int gh, .ref h1, .ref h2, .ref h3, .ref h4, .ref h5, .int gc, .int n_h0_whole, .int n_h0_least, .int n_h0_greatest])), (h1, .inl (ch1, 10, .inl fh1)), (h2, .inl (ch2, 10, .inl fh2)), (h3, .inl (ch3, 10, .inl g_h3)), (h4, .inl (ch4, 10, .inl g_h4)), (h5, .inl (ch5, 120, .inl fh5))] t.heap ∧ va_K (dC, dI) vwCl [] t ∧ va_D (va_A [(h0, .inr (2, [.int gw, .int gh, .ref h1, .ref h2, .ref h3, .ref h4, .ref h5, .int gc, .int go, .int gl, .int gg])), (h1, .inl (ch1, 10, .inl fh1)), (h2, .inl (ch2, 10, .inl fh2)), (h3, .inl (ch3, 10, .inl fh3)), (h4, .inl (ch4, 10, .inl fh4)), (h5, .inl (ch5, 120, .inl fh5))] sz) [(h0, .inr (2, [.int gw, .int gh, .ref h1, .ref h2, .ref h3, .ref h4, .ref h5, .int gc, .int n_h0_whole, .int n_h0_least, .int n_h0_greatest])), (h1, .inl (ch1, 10, .inl fh1)), (h2, .inl (ch2, 10, .inl fh2)), (h3, .inl (ch3, 10, .inl g_h3)), (h4, .inl (ch4, 10, .inl g_h4)), (h5, .inl (ch5, 120, .inl fh5))]) (va_A [(h0, .inr (2, [.int gw, .int gh, .ref h1, .ref h2, .ref h3, .ref h4, .ref h5, .int gc, .int go, .int gl, .int gg])), (h1, .inl (ch1, 10, .inl fh1)), (h2, .inl (ch2, 10, .inl fh2)), (h3, .inl (ch3, 10, .inl fh3)), (h4, .inl (ch4, 10, .inl fh4)), (h5, .inl (ch5, 120, .inl fh5))] sz)) 0 0 (va_A [(h0, .inr (2, [.int gw, .int gh, .ref h1, .ref h2, .ref h3, .ref h4, .ref h5, .int gc, .int go, .int gl, .int gg])), (h1, .inl (ch1, 10, .inl fh1)), (h2, .inl (ch2, 10, .inl fh2)), (h3, .inl (ch3, 10, .inl fh3)), (h4, .inl (ch4, 10, .inl fh4)), (h5, .inl (ch5, 120, .inl fh5))] sz) := by
  refine Met.ofW (cc := cX2_weigh) (maxL := 4) (ret := none) (by decide) rfl ?_
  intro p e s m args below meth c s₁ B hml hv
  obtain ⟨rfl, hsz, hP, hK, hD0⟩ := hv
  have hx := B.exec
  have hb := B.bytes
  have hr := B.returns
  have hts := atoms_spec (ws := u_s_X2_weigh) B.pre
  have hown : s.vm.findClass RX2 = some m.cls := findClass_of_methodNamed B.named
  have hlocks := B.notSynchronized
  subst hsz
  have hD := hD0.self (sz := s.heap.size)
  generalize hAe : va_A [(h0, .inr (2, [.int gw, .int gh, .ref h1, .ref h2, .ref h3, .ref h4, .ref h5, .int gc, .int go, .int gl, .int gg])), (h1, .inl (ch1, 10, .inl fh1)), (h2, .inl (ch2, 10, .inl fh2)), (h3, .inl (ch3, 10, .inl fh3)), (h4, .inl (ch4, 10, .inl fh4)), (h5, .inl (ch5, 120, .inl fh5))] s.heap.size = A at hD ⊢
  have hA : ∀ q : Nat, s.heap.size ≤ q → A q := fun q h => by rw [← hAe]; exact Or.inr h
  have hS : va_S A s.heap s.heap [] := va_S.rf
  have hP : va_P (dC, dI) vwCl [(h0, .inr (2, [.int gw, .int gh, .ref h1, .ref h2, .ref h3, .ref h4, .ref h5, .int gc, .int go, .int gl, .int gg])), (h1, .inl (ch1, 10, .inl fh1)), (h2, .inl (ch2, 10, .inl fh2)), (h3, .inl (ch3, 10, .inl fh3)), (h4, .inl (ch4, 10, .inl fh4)), (h5, .inl (ch5, 120, .inl fh5))] s.heap := hP
  have w__fieldLink_RX2_37_ShellHeap_Ground_whole_I_ := hts (.fieldLink RX2 37 "ShellHeap$Ground" "whole" "I") (z_mc (z_ml z_m0))
  have hiX2 := show ∀ w ∈ u_ws RX2 TX2 11, w ∈ u_s_X2_weigh from fun w h => z_mc (z_mr (z_ml h))
  have w__fieldLink_RX2_34_ShellHeap_Ground_columns_I_ := hts (.fieldLink RX2 34 "ShellHeap$Ground" "columns" "I") (z_mc (z_ml z_m1))
  have w__fieldLink_RX2_9_ShellHeap_Ground_w_I_ := hts (.fieldLink RX2 9 "ShellHeap$Ground" "w" "I") (z_mc (z_ml z_m2))
  have w__fieldLink_RX2_15_ShellHeap_Ground_h_I_ := hts (.fieldLink RX2 15 "ShellHeap$Ground" "h" "I") (z_mc (z_ml z_m7))
  have w__fieldLink_RX2_25_ShellHeap_Ground_ofBed_I_ := hts (.fieldLink RX2 25 "ShellHeap$Ground" "ofBed" "[I") (z_mc (z_ml z_m11))
  have w__fieldLink_RX2_28_ShellHeap_Ground_without_I_ := hts (.fieldLink RX2 28 "ShellHeap$Ground" "without" "[I") (z_mc (z_ml z_m12))
  have w__fieldLink_RX2_31_ShellHeap_Ground_thickness_I_ := hts (.fieldLink RX2 31 "ShellHeap$Ground" "thickness" "[I") (z_mc (z_ml z_m13))
  have krr_p1 := z_rng p1
  have hl := lv_entry ([.ref h0, .int p1]) (n := 4) (Nat.le_of_ble_eq_true rfl)
  rw [lg_entry_eq]
  generalize (lg_sl ([.ref h0, .int p1]) ++ List.replicate (4 - (lg_sl ([.ref h0, .int p1])).length) Slot.unset).toArray = ls at hl ⊢
  have hl : lv_has ls 4 [(0, .ref h0), (1, .int p1)] := hl
  refine z_nameQ (fun QQ hQQ => ?_)
  refine lv_aload_n hx hb dX2_weigh_0 rfl (lv_at hl 0 rfl) ?_
  refine lv_iconst (v := 0) hx hb dX2_weigh_1 (by decide) ?_
  refine va_put (D := (dC, dI)) (ci := 2) (v := .int 0) (ty := .int) (C := RX2) (T := TX2) (N := 11) hx hb hts hiX2 tyX2 tyX2_ok nmX2 hown hK hP hD hS 0 rfl rfl 8 (by decide) w__fieldLink_RX2_37_ShellHeap_Ground_whole_I_ (fun _ h9 => h9) rfl (by decide +kernel) rfl rfl (Nat.le_of_ble_eq_true rfl) dX2_weigh_2 (fun H_1 locs hP hD hS => ?_)
  obtain ⟨hP, hD⟩ := z_s_0_8 hP hD
  refine lv_iconst (v := 0) hx hb dX2_weigh_5 (by decide) ?_
  refine lv_istore_n (lv' := [(2, .int 0), (0, .ref h0), (1, .int p1)]) hx hb dX2_weigh_6 rfl hl (by decide) rfl (fun ls hl => ?_)
  have loop_2 : ∀ (n_3 : Nat) (i_5 : Int32) (f_6 : Nat → Int32) (f_7 : Nat → Int32) (H : Heap) (locs : List Loc) (ls : Array Slot), (11 - (i_5).toInt).toNat < n_3 → (((0 : Int) ≤ (i_5).toInt ∧ (i_5).toInt ≤ (10 : Int))) → va_P (dC, dI) vwCl [(h0, .inr (2, [.int gw, .int gh, .ref h1, .ref h2, .ref h3, .ref h4, .ref h5, .int gc, .int 0, .int gl, .int gg])), (h1, .inl (ch1, 10, .inl fh1)), (h2, .inl (ch2, 10, .inl fh2)), (h3, .inl (ch3, 10, .inl f_6)), (h4, .inl (ch4, 10, .inl f_7)), (h5, .inl (ch5, 120, .inl fh5))] H → va_D A [(h0, .inr (2, [.int gw, .int gh, .ref h1, .ref h2, .ref h3, .ref h4, .ref h5, .int gc, .int 0, .int gl, .int gg])), (h1, .inl (ch1, 10, .inl fh1)), (h2, .inl (ch2, 10, .inl fh2)), (h3, .inl (ch3, 10, .inl f_6)), (h4, .inl (ch4, 10, .inl f_7)), (h5, .inl (ch5, 120, .inl fh5))] → va_S A s.heap H locs → lv_has ls 4 [(2, .int i_5), (0, .ref h0), (1, .int p1)] → W p l e ({ frames := 2, cells := 0, slots := 0, locals := 36 } : Room) s m ([.ref h0, .int p1] : List Value).toArray below meth c H locs 0 0 QQ (F0 m 7 ls []) := by
    intro n_3
    induction n_3 with
    | zero => intro i_5 f_6 f_7 H locs ls hm; exact absurd hm (Nat.not_lt_zero _)
    | succ n_3 ih_4 =>
      intro i_5 f_6 f_7 H locs ls hm hF_8 hP hD hS hl
      refine lv_iload_n hx hb dX2_weigh_7 rfl (lv_at hl 0 rfl) ?_
      refine lv_aload_n hx hb dX2_weigh_8 rfl (lv_at hl 1 rfl) ?_
      refine va_get (D := (dC, dI)) (ci := 2) (v := .int gc) (C := RX2) (T := TX2) (N := 11) hx hb hts hiX2 hown hK hP 0 rfl rfl 7 (by decide) w__fieldLink_RX2_34_ShellHeap_Ground_columns_I_ (fun _ h9 => h9) rfl dX2_weigh_9 ?_
      refine lv_icmp_ge (tgt := 77) hx hb dX2_weigh_12 (by decide) (fun c_9 => ?_) (fun c_9 => ?_)
      · have k_10 : (gc).toInt ≤ (i_5).toInt := z_le c_9
        refine lv_iconst (v := 0) hx hb dX2_weigh_77 (by decide) ?_
        refine lv_istore_n (lv' := [(2, .int 0), (0, .ref h0), (1, .int p1)]) hx hb dX2_weigh_78 rfl hl (by decide) rfl (fun ls hl => ?_)
        have loop_11 : ∀ (n_12 : Nat) (i_14 : Int32) (v_15 : Int32) (f_16 : Nat → Int32) (H : Heap) (locs : List Loc) (ls : Array Slot), (13 - (i_14).toInt).toNat < n_12 → (((0 : Int) ≤ (i_14).toInt ∧ (i_14).toInt ≤ (12 : Int))) → va_P (dC, dI) vwCl [(h0, .inr (2, [.int gw, .int gh, .ref h1, .ref h2, .ref h3, .ref h4, .ref h5, .int gc, .int v_15, .int gl, .int gg])), (h1, .inl (ch1, 10, .inl fh1)), (h2, .inl (ch2, 10, .inl fh2)), (h3, .inl (ch3, 10, .inl f_6)), (h4, .inl (ch4, 10, .inl f_16)), (h5, .inl (ch5, 120, .inl fh5))] H → va_D A [(h0, .inr (2, [.int gw, .int gh, .ref h1, .ref h2, .ref h3, .ref h4, .ref h5, .int gc, .int v_15, .int gl, .int gg])), (h1, .inl (ch1, 10, .inl fh1)), (h2, .inl (ch2, 10, .inl fh2)), (h3, .inl (ch3, 10, .inl f_6)), (h4, .inl (ch4, 10, .inl f_16)), (h5, .inl (ch5, 120, .inl fh5))] → va_S A s.heap H locs → lv_has ls 4 [(2, .int i_14), (0, .ref h0), (1, .int p1)] → W p l e ({ frames := 2, cells := 0, slots := 0, locals := 36 } : Room) s m ([.ref h0, .int p1] : List Value).toArray below meth c H locs 0 0 QQ (F0 m 79 ls []) := by
          intro n_12
          induction n_12 with
          | zero => intro i_14 v_15 f_16 H locs ls hm; exact absurd hm (Nat.not_lt_zero _)
          | succ n_12 ih_13 =>
            intro i_14 v_15 f_16 H locs ls hm hF_17 hP hD hS hl
            refine lv_iload_n hx hb dX2_weigh_79 rfl (lv_at hl 0 rfl) ?_
            refine lv_aload_n hx hb dX2_weigh_80 rfl (lv_at hl 1 rfl) ?_
            refine va_get (D := (dC, dI)) (ci := 2) (v := .int gw) (C := RX2) (T := TX2) (N := 11) hx hb hts hiX2 hown hK hP 0 rfl rfl 0 (by decide) w__fieldLink_RX2_9_ShellHeap_Ground_w_I_ (fun _ h9 => h9) rfl dX2_weigh_81 ?_
            refine lv_icmp_ge (tgt := 115) hx hb dX2_weigh_84 (by decide) (fun c_18 => ?_) (fun c_18 => ?_)
            · have k_19 : (gw).toInt ≤ (i_14).toInt := z_le c_18
              refine lv_aload_n hx hb dX2_weigh_115 rfl (lv_at hl 1 rfl) ?_
              obtain ⟨hPc, hDc, hFc⟩ := z_sub3 (ws' := [(h0, .inr (2, [.int gw, .int gh, .ref h1, .ref h2, .ref h3, .ref h4, .ref h5, .int gc, .int v_15, .int gl, .int gg])), (h4, .inl (ch4, 10, .inl f_16))]) hP hD hS hA [0, 4] (by decide) rfl
              have hKc := hK.sub (tys' := [(ch4, .int)]) [3] rfl
              refine va_callv (va_runV (As := []) (rest := []) ⟨hx, hb, hml, hown, hts⟩ (s_X2_leaveOutEach l dC dI H.size h0 (.int gw) (.int gh) (.ref h1) (.ref h2) (.ref h3) h4 (.ref h5) gc v_15 gl gg ch4 f_16 hB_gc) (cwV 0 hts gw_s_X2_weigh_s_X2_leaveOutEach_54 rfl rfl rfl (by decide +kernel) ⟨Nat.le_of_ble_eq_true rfl, Nat.le_of_ble_eq_true rfl⟩) ⟨z_blind, va_recv hKc hPc (ci := 2) (q0 := 0) rfl rfl, z_pre hPc hKc hDc⟩ rfl rfl hl.1 rfl (lv_room (Nat.le_of_ble_eq_true rfl)) dX2_weigh_116 ⟨Nat.le_of_ble_eq_true rfl, Nat.le_of_ble_eq_true rfl⟩) hS (fun q _ h => hFc q h) hFc (fun u t H_20 locs ht hvm hw_22 hB hz1 hk1 hS => ?_)
              obtain ⟨n_h0_least_23, n_h0_greatest_24, hP1, hK1, hD1⟩ := hB
              rw [ht] at hP1
              have hK1 := va_K.moved hvm.symm hK1
              obtain ⟨hP, hD⟩ := z_ap_4 (va_join (wr := [(h1, .inl (ch1, 10, .inl fh1)), (h2, .inl (ch2, 10, .inl fh2)), (h3, .inl (ch3, 10, .inl f_6)), (h5, .inl (ch5, 120, .inl fh5))]) hP hD [0, 4] [1, 2, 3, 5] rfl rfl (by decide) (by decide) hk1 hFc hP1 hD1)
              clear hPc hDc hKc
              refine z_backQ hQQ ?_
              obtain ⟨hP9, hD9⟩ := z_sub2 (ws' := [(h0, .inr (2, [.int gw, .int gh, .ref h1, .ref h2, .ref h3, .ref h4, .ref h5, .int gc, .int v_15, .int n_h0_least_23, .int n_h0_greatest_24])), (h1, .inl (ch1, 10, .inl fh1)), (h2, .inl (ch2, 10, .inl fh2)), (h3, .inl (ch3, 10, .inl f_6)), (h4, .inl (ch4, 10, .inl f_16)), (h5, .inl (ch5, 120, .inl fh5))]) hP hD [4, 0, 1, 2, 5, 3] (by decide) rfl
              have hK9 := hK.sub (tys' := []) [] rfl
              refine W.widen (k := 0) (n := 0) (Nat.le_of_ble_eq_true rfl) (Nat.le_of_ble_eq_true rfl) ?_
              exact W.vret hx hb hr (fun t ht hW => ⟨⟨(), rfl, trivial, ⟨v_15, n_h0_least_23, n_h0_greatest_24, f_6, f_16, by rw [ht]; exact hP9, va_K.moved hW.alike hK9, hD9⟩⟩, hS.F ht⟩) hS.2.2 dX2_weigh_119
            · have k_25 : (gw).toInt > (i_14).toInt := z_nle c_18
              refine lv_iconst (v := 0) hx hb dX2_weigh_87 (by decide) ?_
              refine lv_istore_n (lv' := [(3, .int 0), (2, .int i_14), (0, .ref h0), (1, .int p1)]) hx hb dX2_weigh_88 rfl hl (by decide) rfl (fun ls hl => ?_)
              have loop_26 : ∀ (n_27 : Nat) (i_29 : Int32) (v_30 : Int32) (f_31 : Nat → Int32) (H : Heap) (locs : List Loc) (ls : Array Slot), (13 - (i_29).toInt).toNat < n_27 → (((0 : Int) ≤ (i_29).toInt ∧ (i_29).toInt ≤ (12 : Int))) → va_P (dC, dI) vwCl [(h0, .inr (2, [.int gw, .int gh, .ref h1, .ref h2, .ref h3, .ref h4, .ref h5, .int gc, .int v_30, .int gl, .int gg])), (h1, .inl (ch1, 10, .inl fh1)), (h2, .inl (ch2, 10, .inl fh2)), (h3, .inl (ch3, 10, .inl f_6)), (h4, .inl (ch4, 10, .inl f_31)), (h5, .inl (ch5, 120, .inl fh5))] H → va_D A [(h0, .inr (2, [.int gw, .int gh, .ref h1, .ref h2, .ref h3, .ref h4, .ref h5, .int gc, .int v_30, .int gl, .int gg])), (h1, .inl (ch1, 10, .inl fh1)), (h2, .inl (ch2, 10, .inl fh2)), (h3, .inl (ch3, 10, .inl f_6)), (h4, .inl (ch4, 10, .inl f_31)), (h5, .inl (ch5, 120, .inl fh5))] → va_S A s.heap H locs → lv_has ls 4 [(3, .int i_29), (2, .int i_14), (0, .ref h0), (1, .int p1)] → W p l e ({ frames := 2, cells := 0, slots := 0, locals := 36 } : Room) s m ([.ref h0, .int p1] : List Value).toArray below meth c H locs 0 0 QQ (F0 m 89 ls []) := by
                intro n_27
                induction n_27 with
                | zero => intro i_29 v_30 f_31 H locs ls hm; exact absurd hm (Nat.not_lt_zero _)
                | succ n_27 ih_28 =>
                  intro i_29 v_30 f_31 H locs ls hm hF_32 hP hD hS hl
                  refine lv_iload_n hx hb dX2_weigh_89 rfl (lv_at hl 0 rfl) ?_
                  refine lv_aload_n hx hb dX2_weigh_90 rfl (lv_at hl 2 rfl) ?_
                  refine va_get (D := (dC, dI)) (ci := 2) (v := .int gh) (C := RX2) (T := TX2) (N := 11) hx hb hts hiX2 hown hK hP 0 rfl rfl 1 (by decide) w__fieldLink_RX2_15_ShellHeap_Ground_h_I_ (fun _ h9 => h9) rfl dX2_weigh_91 ?_
                  refine lv_icmp_ge (tgt := 109) hx hb dX2_weigh_94 (by decide) (fun c_33 => ?_) (fun c_33 => ?_)
                  · have k_34 : (gh).toInt ≤ (i_29).toInt := z_le c_33
                    obtain ⟨z_35, ez_35⟩ : ∃ y : Int32, y = i_14 + 1 := ⟨_, rfl⟩
                    have kz_35 : (z_35).toInt = (i_14).toInt + (1 : Int) := by rw [ez_35]; exact z_add (b := 1) rfl rfl (z_al hF_17.1 (by decide)) (z_ah hF_17.2 (by decide))
                    refine lv_iinc (v := z_35) (lv' := [(2, .int z_35), (3, .int i_29), (0, .ref h0), (1, .int p1)]) hx hb dX2_weigh_109 hl (k := 1) rfl (by rw [ez_35]; rfl) (by decide) rfl (fun ls hl => ?_)
                    refine lv_goto (tgt := 79) hx hb dX2_weigh_112 (by decide) ?_
                    exact ih_13 z_35 v_30 f_31 _ _ _ (show (13 - (z_35).toInt).toNat < n_12 by omega) (show ((0 : Int) ≤ (z_35).toInt ∧ (z_35).toInt ≤ (12 : Int)) by omega) hP hD hS (lv_sub hl [0, 2, 3] rfl)
                  · have k_36 : (gh).toInt > (i_29).toInt := z_nle c_33
                    refine lv_aload_n hx hb dX2_weigh_97 rfl (lv_at hl 2 rfl) ?_
                    refine lv_iload_n hx hb dX2_weigh_98 rfl (lv_at hl 1 rfl) ?_
                    refine lv_iload_n hx hb dX2_weigh_99 rfl (lv_at hl 0 rfl) ?_
                    obtain ⟨hPc, hDc, hFc⟩ := z_sub3 (ws' := [(h0, .inr (2, [.int gw, .int gh, .ref h1, .ref h2, .ref h3, .ref h4, .ref h5, .int gc, .int v_30, .int gl, .int gg])), (h1, .inl (ch1, 10, .inl fh1)), (h2, .inl (ch2, 10, .inl fh2)), (h3, .inl (ch3, 10, .inl f_6)), (h4, .inl (ch4, 10, .inl f_31))]) hP hD hS hA [0, 1, 2, 3, 4] (by decide) rfl
                    have hKc := hK.sub (tys' := [(ch1, .int), (ch2, .int), (ch3, .int), (ch4, .int)]) [0, 1, 2, 3] rfl
                    refine va_callv (va_runV (As := [.int i_14, .int i_29]) (rest := []) ⟨hx, hb, hml, hown, hts⟩ (s_X2_weighCell l dC dI H.size h0 i_14 i_29 (.int gw) (.int gh) h1 h2 h3 h4 (.ref h5) gc v_30 (.int gl) (.int gg) ch1 fh1 ch2 fh2 ch3 f_6 ch4 f_31 hB_gc) (cwV 2 hts gw_s_X2_weigh_s_X2_weighCell_50 rfl rfl rfl (by decide +kernel) ⟨Nat.le_of_ble_eq_true rfl, Nat.le_of_ble_eq_true rfl⟩) ⟨z_blind, va_recv hKc hPc (ci := 2) (q0 := 0) rfl rfl, z_pre hPc hKc hDc⟩ rfl rfl hl.1 rfl (lv_room (Nat.le_of_ble_eq_true rfl)) dX2_weigh_100 ⟨Nat.le_of_ble_eq_true rfl, Nat.le_of_ble_eq_true rfl⟩) hS (fun q _ h => hFc q h) hFc (fun u t H_37 locs ht hvm hw_39 hB hz1 hk1 hS => ?_)
                    obtain ⟨n_h0_whole_40, g_h4_41, hP1, hK1, hD1⟩ := hB
                    rw [ht] at hP1
                    have hK1 := va_K.moved hvm.symm hK1
                    obtain ⟨hP, hD⟩ := z_ap_1 (va_join (wr := [(h5, .inl (ch5, 120, .inl fh5))]) hP hD [0, 1, 2, 3, 4] [5] rfl rfl (by decide) (by decide) hk1 hFc hP1 hD1)
                    clear hPc hDc hKc
                    obtain ⟨z_42, ez_42⟩ : ∃ y : Int32, y = i_29 + 1 := ⟨_, rfl⟩
                    have kz_42 : (z_42).toInt = (i_29).toInt + (1 : Int) := by rw [ez_42]; exact z_add (b := 1) rfl rfl (z_al hF_32.1 (by decide)) (z_ah hF_32.2 (by decide))
                    refine lv_iinc (v := z_42) (lv' := [(3, .int z_42), (2, .int i_14), (0, .ref h0), (1, .int p1)]) hx hb dX2_weigh_103 hl (k := 0) rfl (by rw [ez_42]; rfl) (by decide) rfl (fun ls hl => ?_)
                    refine lv_goto (tgt := 89) hx hb dX2_weigh_106 (by decide) ?_
                    exact ih_28 z_42 n_h0_whole_40 g_h4_41 _ _ _ (show (13 - (z_42).toInt).toNat < n_27 by omega) (show ((0 : Int) ≤ (z_42).toInt ∧ (z_42).toInt ≤ (12 : Int)) by omega) (hP.sub (ws' := [(h0, .inr (2, [.int gw, .int gh, .ref h1, .ref h2, .ref h3, .ref h4, .ref h5, .int gc, .int n_h0_whole_40, .int gl, .int gg])), (h1, .inl (ch1, 10, .inl fh1)), (h2, .inl (ch2, 10, .inl fh2)), (h3, .inl (ch3, 10, .inl f_6)), (h4, .inl (ch4, 10, .inl g_h4_41)), (h5, .inl (ch5, 120, .inl fh5))]) [1, 2, 3, 4, 5, 0] rfl) (hD.sub (ws' := [(h0, .inr (2, [.int gw, .int gh, .ref h1, .ref h2, .ref h3, .ref h4, .ref h5, .int gc, .int n_h0_whole_40, .int gl, .int gg])), (h1, .inl (ch1, 10, .inl fh1)), (h2, .inl (ch2, 10, .inl fh2)), (h3, .inl (ch3, 10, .inl f_6)), (h4, .inl (ch4, 10, .inl g_h4_41)), (h5, .inl (ch5, 120, .inl fh5))]) [1, 2, 3, 4, 5, 0] (by decide) rfl) hS (lv_sub hl [0, 1, 2, 3] rfl)
              exact loop_26 _ 0 v_15 f_16 _ _ _ (Nat.lt_succ_self _) (show ((0 : Int) ≤ (0 : Int) ∧ (0 : Int) ≤ (12 : Int)) by omega) hP hD hS hl
        exact loop_11 _ 0 0 f_7 _ _ _ (Nat.lt_succ_self _) (show ((0 : Int) ≤ (0 : Int) ∧ (0 : Int) ≤ (12 : Int)) by omega) hP hD hS hl
      · have k_43 : (gc).toInt > (i_5).toInt := z_nle c_9
        refine lv_aload_n hx hb dX2_weigh_15 rfl (lv_at hl 1 rfl) ?_
        refine va_get (D := (dC, dI)) (ci := 2) (v := .ref h3) (C := RX2) (T := TX2) (N := 11) hx hb hts hiX2 hown hK hP 0 rfl rfl 4 (by decide) w__fieldLink_RX2_25_ShellHeap_Ground_ofBed_I_ (fun _ h9 => h9) rfl dX2_weigh_16 ?_
        refine lv_iload_n hx hb dX2_weigh_19 rfl (lv_at hl 0 rfl) ?_
        refine lv_iconst (v := 0) hx hb dX2_weigh_20 (by decide) ?_
        refine va_iast hx hb hK hP hD hS 3 2 rfl rfl (z_vpin (by omega) (by omega)) dX2_weigh_21 (fun H_44 locs hP hD hS => ?_)
        obtain ⟨hP, hD⟩ := z_s_3 hP hD
        generalize (upd f_6 (i_5 : Int32).toNatClampNeg 0) = f_45 at hP hD
        refine lv_aload_n hx hb dX2_weigh_22 rfl (lv_at hl 1 rfl) ?_
        refine va_get (D := (dC, dI)) (ci := 2) (v := .ref h4) (C := RX2) (T := TX2) (N := 11) hx hb hts hiX2 hown hK hP 0 rfl rfl 5 (by decide) w__fieldLink_RX2_28_ShellHeap_Ground_without_I_ (fun _ h9 => h9) rfl dX2_weigh_23 ?_
        refine lv_iload_n hx hb dX2_weigh_26 rfl (lv_at hl 0 rfl) ?_
        refine lv_iconst (v := 0) hx hb dX2_weigh_27 (by decide) ?_
        refine va_iast hx hb hK hP hD hS 4 3 rfl rfl (z_vpin (by omega) (by omega)) dX2_weigh_28 (fun H_46 locs hP hD hS => ?_)
        obtain ⟨hP, hD⟩ := z_s_4 hP hD
        generalize (upd f_7 (i_5 : Int32).toNatClampNeg 0) = f_47 at hP hD
        refine lv_iconst (v := 0) hx hb dX2_weigh_29 (by decide) ?_
        refine lv_istore_n (lv' := [(3, .int 0), (2, .int i_5), (0, .ref h0), (1, .int p1)]) hx hb dX2_weigh_30 rfl hl (by decide) rfl (fun ls hl => ?_)
        have loop_48 : ∀ (n_49 : Nat) (i_51 : Int32) (f_52 : Nat → Int32) (H : Heap) (locs : List Loc) (ls : Array Slot), (13 - (i_51).toInt).toNat < n_49 → (((0 : Int) ≤ (i_51).toInt ∧ (i_51).toInt ≤ (12 : Int))) → va_P (dC, dI) vwCl [(h0, .inr (2, [.int gw, .int gh, .ref h1, .ref h2, .ref h3, .ref h4, .ref h5, .int gc, .int 0, .int gl, .int gg])), (h1, .inl (ch1, 10, .inl fh1)), (h2, .inl (ch2, 10, .inl fh2)), (h3, .inl (ch3, 10, .inl f_52)), (h4, .inl (ch4, 10, .inl f_47)), (h5, .inl (ch5, 120, .inl fh5))] H → va_D A [(h0, .inr (2, [.int gw, .int gh, .ref h1, .ref h2, .ref h3, .ref h4, .ref h5, .int gc, .int 0, .int gl, .int gg])), (h1, .inl (ch1, 10, .inl fh1)), (h2, .inl (ch2, 10, .inl fh2)), (h3, .inl (ch3, 10, .inl f_52)), (h4, .inl (ch4, 10, .inl f_47)), (h5, .inl (ch5, 120, .inl fh5))] → va_S A s.heap H locs → lv_has ls 4 [(3, .int i_51), (2, .int i_5), (0, .ref h0), (1, .int p1)] → W p l e ({ frames := 2, cells := 0, slots := 0, locals := 36 } : Room) s m ([.ref h0, .int p1] : List Value).toArray below meth c H locs 0 0 QQ (F0 m 31 ls []) := by
          intro n_49
          induction n_49 with
          | zero => intro i_51 f_52 H locs ls hm; exact absurd hm (Nat.not_lt_zero _)
          | succ n_49 ih_50 =>
            intro i_51 f_52 H locs ls hm hF_53 hP hD hS hl
            refine lv_iload_n hx hb dX2_weigh_31 rfl (lv_at hl 0 rfl) ?_
            refine lv_bipush (v := 12) hx hb dX2_weigh_32 (by decide) ?_
            refine lv_icmp_ge (tgt := 71) hx hb dX2_weigh_34 (by decide) (fun c_54 => ?_) (fun c_54 => ?_)
            · have k_55 : (12 : Int) ≤ (i_51).toInt := z_le c_54
              obtain rfl : i_51 = 12 := z_eq' (show (i_51).toInt = (12 : Int) by omega)
              obtain ⟨z_57, ez_57⟩ : ∃ y : Int32, y = i_5 + 1 := ⟨_, rfl⟩
              have kz_57 : (z_57).toInt = (i_5).toInt + (1 : Int) := by rw [ez_57]; exact z_add (b := 1) rfl rfl (z_al hF_8.1 (by decide)) (z_ah hF_8.2 (by decide))
              refine lv_iinc (v := z_57) (lv' := [(2, .int z_57), (3, .int 12), (0, .ref h0), (1, .int p1)]) hx hb dX2_weigh_71 hl (k := 1) rfl (by rw [ez_57]; rfl) (by decide) rfl (fun ls hl => ?_)
              refine lv_goto (tgt := 7) hx hb dX2_weigh_74 (by decide) ?_
              exact ih_4 z_57 f_52 f_47 _ _ _ (show (11 - (z_57).toInt).toNat < n_3 by omega) (show ((0 : Int) ≤ (z_57).toInt ∧ (z_57).toInt ≤ (10 : Int)) by omega) hP hD hS (lv_sub hl [0, 2, 3] rfl)
            · have k_58 : (12 : Int) > (i_51).toInt := z_nle c_54
              refine lv_iload_n hx hb dX2_weigh_37 rfl (lv_at hl 3 rfl) ?_
              refine lv_iload_n hx hb dX2_weigh_38 rfl (lv_at hl 0 rfl) ?_
              refine lv_ishr hx hb dX2_weigh_39 ?_
              refine lv_topi (fun z_59 ez_59 => ?_)
              refine lv_iconst (v := 1) hx hb dX2_weigh_40 (by decide) ?_
              refine lv_iand hx hb dX2_weigh_41 ?_
              refine lv_topi (fun z_60 ez_60 => ?_)
              have kz_60 : (0 : Int) ≤ (z_60).toInt ∧ (z_60).toInt ≤ (1 : Int) := by rw [ez_60]; exact z_and _ 1 (by decide) (by decide)
              refine lv_if_eq (tgt := 65) hx hb dX2_weigh_42 (by decide) (fun c_61 => ?_) (fun c_61 => ?_)
              · have k_62 : (z_60).toInt = (0 : Int) := z_eq c_61
                obtain rfl : z_60 = 0 := z_eq' (show (z_60).toInt = (0 : Int) by omega)
                obtain ⟨z_64, ez_64⟩ : ∃ y : Int32, y = i_51 + 1 := ⟨_, rfl⟩
                have kz_64 : (z_64).toInt = (i_51).toInt + (1 : Int) := by rw [ez_64]; exact z_add (b := 1) rfl rfl (z_al hF_53.1 (by decide)) (z_ah hF_53.2 (by decide))
                refine lv_iinc (v := z_64) (lv' := [(3, .int z_64), (2, .int i_5), (0, .ref h0), (1, .int p1)]) hx hb dX2_weigh_65 hl (k := 0) rfl (by rw [ez_64]; rfl) (by decide) rfl (fun ls hl => ?_)
                refine lv_goto (tgt := 31) hx hb dX2_weigh_68 (by decide) ?_
                exact ih_50 z_64 f_52 _ _ _ (show (13 - (z_64).toInt).toNat < n_49 by omega) (show ((0 : Int) ≤ (z_64).toInt ∧ (z_64).toInt ≤ (12 : Int)) by omega) hP hD hS (lv_sub hl [0, 1, 2, 3] rfl)
              · have k_65 : (z_60).toInt ≠ (0 : Int) := z_ne c_61
                obtain rfl : z_60 = 1 := z_eq' (show (z_60).toInt = (1 : Int) by omega)
                refine lv_aload_n hx hb dX2_weigh_45 rfl (lv_at hl 2 rfl) ?_
                refine va_get (D := (dC, dI)) (ci := 2) (v := .ref h3) (C := RX2) (T := TX2) (N := 11) hx hb hts hiX2 hown hK hP 0 rfl rfl 4 (by decide) w__fieldLink_RX2_25_ShellHeap_Ground_ofBed_I_ (fun _ h9 => h9) rfl dX2_weigh_46 ?_
                refine lv_iload_n hx hb dX2_weigh_49 rfl (lv_at hl 1 rfl) ?_
                refine lv_dup2_11 hx hb dX2_weigh_50 rfl rfl ?_
                refine va_iald hx hb hK hP 3 2 rfl rfl (z_vpin (by omega) (by omega)) dX2_weigh_51 ?_
                refine lv_topi (fun z_67 ez_67 => ?_)
                refine lv_aload_n hx hb dX2_weigh_52 rfl (lv_at hl 2 rfl) ?_
                refine va_get (D := (dC, dI)) (ci := 2) (v := .ref h5) (C := RX2) (T := TX2) (N := 11) hx hb hts hiX2 hown hK hP 0 rfl rfl 6 (by decide) w__fieldLink_RX2_31_ShellHeap_Ground_thickness_I_ (fun _ h9 => h9) rfl dX2_weigh_53 ?_
                refine lv_iload_n hx hb dX2_weigh_56 rfl (lv_at hl 1 rfl) ?_
                refine lv_bipush (v := 12) hx hb dX2_weigh_57 (by decide) ?_
                refine lv_imul hx hb dX2_weigh_59 ?_
                refine lv_topi (fun z_68 ez_68 => ?_)
                have kz_68 : (z_68).toInt = (i_5).toInt * (12 : Int) := by rw [ez_68]; exact z_mul (a := (i_5).toInt) (b := (12 : Int)) rfl rfl (by omega) (by omega)
                refine lv_iload_n hx hb dX2_weigh_60 rfl (lv_at hl 0 rfl) ?_
                refine lv_iadd hx hb dX2_weigh_61 ?_
                refine lv_topi (fun z_69 ez_69 => ?_)
                have kz_69 : (z_69).toInt = (z_68).toInt + (i_51).toInt := by rw [ez_69]; exact z_add (a := (z_68).toInt) (b := (i_51).toInt) rfl rfl (by omega) (by omega)
                refine va_iald hx hb hK hP 5 4 rfl rfl (z_vpin (by omega) (by omega)) dX2_weigh_62 ?_
                refine lv_topi (fun z_70 ez_70 => ?_)
                refine lv_iadd hx hb dX2_weigh_63 ?_
                refine lv_topi (fun z_71 ez_71 => ?_)
                refine va_iast hx hb hK hP hD hS 3 2 rfl rfl (z_vpin (by omega) (by omega)) dX2_weigh_64 (fun H_72 locs hP hD hS => ?_)
                obtain ⟨hP, hD⟩ := z_s_3 hP hD
                generalize (upd f_52 (i_5 : Int32).toNatClampNeg z_71) = f_73 at hP hD
                obtain ⟨z_74, ez_74⟩ : ∃ y : Int32, y = i_51 + 1 := ⟨_, rfl⟩
                have kz_74 : (z_74).toInt = (i_51).toInt + (1 : Int) := by rw [ez_74]; exact z_add (b := 1) rfl rfl (z_al hF_53.1 (by decide)) (z_ah hF_53.2 (by decide))
                refine lv_iinc (v := z_74) (lv' := [(3, .int z_74), (2, .int i_5), (0, .ref h0), (1, .int p1)]) hx hb dX2_weigh_65 hl (k := 0) rfl (by rw [ez_74]; rfl) (by decide) rfl (fun ls hl => ?_)
                refine lv_goto (tgt := 31) hx hb dX2_weigh_68 (by decide) ?_
                exact ih_50 z_74 f_73 _ _ _ (show (13 - (z_74).toInt).toNat < n_49 by omega) (show ((0 : Int) ≤ (z_74).toInt ∧ (z_74).toInt ≤ (12 : Int)) by omega) hP hD hS (lv_sub hl [0, 1, 2, 3] rfl)
        exact loop_48 _ 0 f_45 _ _ _ (Nat.lt_succ_self _) (show ((0 : Int) ≤ (0 : Int) ∧ (0 : Int) ≤ (12 : Int)) by omega) hP hD hS hl
  exact loop_2 _ 0 fh3 fh4 _ _ _ (Nat.lt_succ_self _) (show ((0 : Int) ≤ (0 : Int) ∧ (0 : Int) ≤ (10 : Int)) by omega) hP hD hS hl
