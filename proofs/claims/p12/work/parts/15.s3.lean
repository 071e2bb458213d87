def u_s_X7_clear : List Cond := .code yX7_clear cX7_clear 1 none :: ([.fieldLink RX7 19 "ShellHeap$Rules" "length" "I", .fieldLink RX7 23 "ShellHeap$Rules" "causes" "I", .fieldLink RX7 26 "ShellHeap$Rules" "knots" "I"] ++ wsX70)
set_option maxHeartbeats 4000000 in
set_option maxRecDepth 100000 in
theorem s_X7_clear (l : Launch) (dC : Nat → ClassId) (dI : Nat → Nat → Nat) (sz : Nat) (h0 : Nat) (h0_0 : Value) (h0_1 : Value) (h0_2 : Value) (rl : Int32) (rc : Int32) (rk : Int32) (hB_rl : ((0 : Int) ≤ (rl).toInt ∧ (rl).toInt ≤ (96 : Int))) (hB_rc : ((0 : Int) ≤ (rc).toInt ∧ (rc).toInt ≤ (6 : Int))) (hB_rk : ((0 : Int) ≤ (rk).toInt ∧ (rk).toInt ≤ (96 : Int))) : Met l yX7_clear u_s_X7_clear ({ frames := 0, cells := 0, slots := 0, locals := 0 }) (va_Pc [.ref h0] (z_C (dC, dI) vwCl [(h0, .inr (7, [h0_0, h0_1, h0_2, .int rl, .int rc, .int rk]))] [] sz)) (va_Qv (fun (_ : Unit) => True) (fun (_ : Unit) (t : State) => ∃ (n_h0_length : Int32), ∃ (n_h0_causes : Int32), ∃ (n_h0_knots : Int32), ((0 : Int) ≤ (n_h0_length).toInt ∧ (n_h0_length).toInt ≤ (96 : Int)) ∧ ((0 : Int) ≤ (n_h0_causes).toInt ∧ (n_h0_causes).toInt ≤ (6 : Int)) ∧ ((0 : Int) ≤ (n_h0_knots).toInt ∧ (n_h0_knots).toInt ≤ (96 : Int)) ∧ va_P (dC, dI) vwCl [(h0, .inr (7, [h0_0, h0_1, h0_2, .int n_h0_length, .int n_h0_causes, .int n_h0_knots]))] t.heap ∧ va_K (dC, dI) vwCl [] t ∧ va_D (va_A [(h0, .inr (7, [h0_0, h0_1, h0_2, .int rl, .int rc, .int rk]))] sz) [(h0, .inr (7, [h0_0, h0_1, h0_2, .int n_h0_length, .int n_h0_causes, .int n_h0_knots]))]) (va_A [(h0, .inr (7, [h0_0, h0_1, h0_2, .int rl, .int rc, .int rk]))] sz)) 0 0 (va_A [(h0, .inr (7, [h0_0, h0_1, h0_2, .int rl, .int rc, .int rk]))] sz) := by
  refine Met.ofW (cc := cX7_clear) (maxL := 1) (ret := none) (by decide) rfl ?_
  intro p e s m args below meth c s₁ B hml hv
  obtain ⟨rfl, hsz, hP, hK, hD0⟩ := hv
  have hx := B.exec
  have hb := B.bytes
  have hr := B.returns
  have hts := atoms_spec (ws := u_s_X7_clear) B.pre
  have hown : s.vm.findClass RX7 = some m.cls := findClass_of_methodNamed B.named
  have hlocks := B.notSynchronized
  subst hsz
  have hD := hD0.self (sz := s.heap.size)
  generalize hAe : va_A [(h0, .inr (7, [h0_0, h0_1, h0_2, .int rl, .int rc, .int rk]))] s.heap.size = A at hD ⊢
  have hA : ∀ q : Nat, s.heap.size ≤ q → A q := fun q h => by rw [← hAe]; exact Or.inr h
  have hS : va_S A s.heap s.heap [] := va_S.rf
  have hP : va_P (dC, dI) vwCl [(h0, .inr (7, [h0_0, h0_1, h0_2, .int rl, .int rc, .int rk]))] s.heap := hP
  have w__fieldLink_RX7_19_ShellHeap_Rules_length_I_ := hts (.fieldLink RX7 19 "ShellHeap$Rules" "length" "I") (by decide +kernel)
  have hiX7 := show ∀ w ∈ u_ws RX7 TX7 6, w ∈ u_s_X7_clear by decide +kernel
  have w__fieldLink_RX7_23_ShellHeap_Rules_causes_I_ := hts (.fieldLink RX7 23 "ShellHeap$Rules" "causes" "I") (by decide +kernel)
  have w__fieldLink_RX7_26_ShellHeap_Rules_knots_I_ := hts (.fieldLink RX7 26 "ShellHeap$Rules" "knots" "I") (by decide +kernel)
  have hl := lv_entry ([.ref h0]) (n := 1) (Nat.le_of_ble_eq_true rfl)
  rw [lg_entry_eq]
  generalize (lg_sl ([.ref h0]) ++ List.replicate (1 - (lg_sl ([.ref h0])).length) Slot.unset).toArray = ls at hl ⊢
  have hl : lv_has ls 1 [(0, .ref h0)] := hl
  refine lv_aload_n hx hb dX7_clear_0 rfl (lv_at hl 0 rfl) ?_
  refine lv_iconst (v := 0) hx hb dX7_clear_1 (by decide) ?_
  refine va_put (D := (dC, dI)) (ci := 7) (v := .int 0) (ty := .int) (C := RX7) (T := TX7) (N := 6) hx hb hts hiX7 tyX7 tyX7_ok nmX7 hown hK hP hD hS 0 rfl rfl 3 (by decide) w__fieldLink_RX7_19_ShellHeap_Rules_length_I_ (fun _ h9 => h9) rfl (by decide +kernel) rfl rfl (Nat.le_of_ble_eq_true rfl) dX7_clear_2 (fun H_1 locs hP hD hS => ?_)
  have hP : va_P (dC, dI) vwCl [(h0, .inr (7, [h0_0, h0_1, h0_2, .int 0, .int rc, .int rk]))] H_1 := hP
  have hD : va_D A [(h0, .inr (7, [h0_0, h0_1, h0_2, .int 0, .int rc, .int rk]))] := hD
  refine lv_aload_n hx hb dX7_clear_5 rfl (lv_at hl 0 rfl) ?_
  refine lv_iconst (v := 0) hx hb dX7_clear_6 (by decide) ?_
  refine va_put (D := (dC, dI)) (ci := 7) (v := .int 0) (ty := .int) (C := RX7) (T := TX7) (N := 6) hx hb hts hiX7 tyX7 tyX7_ok nmX7 hown hK hP hD hS 0 rfl rfl 4 (by decide) w__fieldLink_RX7_23_ShellHeap_Rules_causes_I_ (fun _ h9 => h9) rfl (by decide +kernel) rfl rfl (Nat.le_of_ble_eq_true rfl) dX7_clear_7 (fun H_2 locs hP hD hS => ?_)
  have hP : va_P (dC, dI) vwCl [(h0, .inr (7, [h0_0, h0_1, h0_2, .int 0, .int 0, .int rk]))] H_2 := hP
  have hD : va_D A [(h0, .inr (7, [h0_0, h0_1, h0_2, .int 0, .int 0, .int rk]))] := hD
  refine lv_aload_n hx hb dX7_clear_10 rfl (lv_at hl 0 rfl) ?_
  refine lv_iconst (v := 0) hx hb dX7_clear_11 (by decide) ?_
  refine va_put (D := (dC, dI)) (ci := 7) (v := .int 0) (ty := .int) (C := RX7) (T := TX7) (N := 6) hx hb hts hiX7 tyX7 tyX7_ok nmX7 hown hK hP hD hS 0 rfl rfl 5 (by decide) w__fieldLink_RX7_26_ShellHeap_Rules_knots_I_ (fun _ h9 => h9) rfl (by decide +kernel) rfl rfl (Nat.le_of_ble_eq_true rfl) dX7_clear_12 (fun H_3 locs hP hD hS => ?_)
  have hP : va_P (dC, dI) vwCl [(h0, .inr (7, [h0_0, h0_1, h0_2, .int 0, .int 0, .int 0]))] H_3 := hP
  have hD : va_D A [(h0, .inr (7, [h0_0, h0_1, h0_2, .int 0, .int 0, .int 0]))] := hD
  have hP9 := hP.sub (ws' := [(h0, .inr (7, [h0_0, h0_1, h0_2, .int 0, .int 0, .int 0]))]) [0] rfl
  have hD9 := hD.sub (ws' := [(h0, .inr (7, [h0_0, h0_1, h0_2, .int 0, .int 0, .int 0]))]) [0] (by decide) rfl
  have hK9 := hK.sub (tys' := []) [] rfl
  refine W.widen (k := 0) (n := 0) (Nat.le_of_ble_eq_true rfl) (Nat.le_of_ble_eq_true rfl) ?_
  exact W.vret hx hb hr (fun t ht hW => ⟨⟨(), rfl, trivial, ⟨0, 0, 0, (by first | omega | decide), (by first | omega | decide), (by first | omega | decide), by rw [ht]; exact hP9, va_K.moved hW.alike hK9, hD9⟩⟩, hS.F ht⟩) hS.2.2 dX7_clear_15
def u_s_X7_add : List Cond := .code yX7_add cX7_add 3 none :: ([.fieldLink RX7 19 "ShellHeap$Rules" "length" "I", .fieldLink RX7 9 "ShellHeap$Rules" "steps" "[I", .fieldLink RX7 13 "ShellHeap$Rules" "worths" "[I"] ++ wsX70)
set_option maxHeartbeats 4000000 in
set_option maxRecDepth 100000 in
theorem s_X7_add (l : Launch) (dC : Nat → ClassId) (dI : Nat → Nat → Nat) (sz : Nat) (h0 : Nat) (p1 : Int32) (p2 : Int32) (h1 : Nat) (h2 : Nat) (h0_2 : Value) (rl : Int32) (h0_4 : Value) (h0_5 : Value) (ch1 : ClassId) (fh1 : Nat → Int32) (ch2 : ClassId) (fh2 : Nat → Int32) (hB_rl : ((0 : Int) ≤ (rl).toInt ∧ (rl).toInt ≤ (96 : Int))) : Met l yX7_add u_s_X7_add ({ frames := 0, cells := 0, slots := 0, locals := 0 }) (va_Pc [.ref h0, .int p1, .int p2] (z_C (dC, dI) vwCl [(h0, .inr (7, [.ref h1, .ref h2, h0_2, .int rl, h0_4, h0_5])), (h1, .inl (ch1, 96, .inl fh1)), (h2, .inl (ch2, 96, .inl fh2))] [(ch1, .int), (ch2, .int)] sz)) (va_Qv (fun (_ : Unit) => True) (fun (_ : Unit) (t : State) => ∃ (n_h0_length : Int32), ∃ (g_h1 : Nat → Int32), ∃ (g_h2 : Nat → Int32), ((0 : Int) ≤ (n_h0_length).toInt ∧ (n_h0_length).toInt ≤ (96 : Int)) ∧ va_P (dC, dI) vwCl [(h0, .inr (7, [.ref h1, .ref h2, h0_2, .int n_h0_length, h0_4, h0_5])), (h1, .inl (ch1, 96, .inl g_h1)), (h2, .inl (ch2, 96, .inl g_h2))] t.heap ∧ va_K (dC, dI) vwCl [] t ∧ va_D (va_A [(h0, .inr (7, [.ref h1, .ref h2, h0_2, .int rl, h0_4, h0_5])), (h1, .inl (ch1, 96, .inl fh1)), (h2, .inl (ch2, 96, .inl fh2))] sz) [(h0, .inr (7, [.ref h1, .ref h2, h0_2, .int n_h0_length, h0_4, h0_5])), (h1, .inl (ch1, 96, .inl g_h1)), (h2, .inl (ch2, 96, .inl g_h2))]) (va_A [(h0, .inr (7, [.ref h1, .ref h2, h0_2, .int rl, h0_4, h0_5])), (h1, .inl (ch1, 96, .inl fh1)), (h2, .inl (ch2, 96, .inl fh2))] sz)) 0 0 (va_A [(h0, .inr (7, [.ref h1, .ref h2, h0_2, .int rl, h0_4, h0_5])), (h1, .inl (ch1, 96, .inl fh1)), (h2, .inl (ch2, 96, .inl fh2))] sz) := by
  refine Met.ofW (cc := cX7_add) (maxL := 3) (ret := none) (by decide) rfl ?_
  intro p e s m args below meth c s₁ B hml hv
  obtain ⟨rfl, hsz, hP, hK, hD0⟩ := hv
  have hx := B.exec
  have hb := B.bytes
  have hr := B.returns
  have hts := atoms_spec (ws := u_s_X7_add) B.pre
  have hown : s.vm.findClass RX7 = some m.cls := findClass_of_methodNamed B.named
  have hlocks := B.notSynchronized
  subst hsz
  have hD := hD0.self (sz := s.heap.size)
  generalize hAe : va_A [(h0, .inr (7, [.ref h1, .ref h2, h0_2, .int rl, h0_4, h0_5])), (h1, .inl (ch1, 96, .inl fh1)), (h2, .inl (ch2, 96, .inl fh2))] s.heap.size = A at hD ⊢
  have hA : ∀ q : Nat, s.heap.size ≤ q → A q := fun q h => by rw [← hAe]; exact Or.inr h
  have hS : va_S A s.heap s.heap [] := va_S.rf
  have hP : va_P (dC, dI) vwCl [(h0, .inr (7, [.ref h1, .ref h2, h0_2, .int rl, h0_4, h0_5])), (h1, .inl (ch1, 96, .inl fh1)), (h2, .inl (ch2, 96, .inl fh2))] s.heap := hP
  have w__fieldLink_RX7_19_ShellHeap_Rules_length_I_ := hts (.fieldLink RX7 19 "ShellHeap$Rules" "length" "I") (by decide +kernel)
  have hiX7 := show ∀ w ∈ u_ws RX7 TX7 6, w ∈ u_s_X7_add by decide +kernel
  have w__fieldLink_RX7_9_ShellHeap_Rules_steps_I_ := hts (.fieldLink RX7 9 "ShellHeap$Rules" "steps" "[I") (by decide +kernel)
  have w__fieldLink_RX7_13_ShellHeap_Rules_worths_I_ := hts (.fieldLink RX7 13 "ShellHeap$Rules" "worths" "[I") (by decide +kernel)
  have krr_p1 := z_rng p1
  have krr_p2 := z_rng p2
  have hl := lv_entry ([.ref h0, .int p1, .int p2]) (n := 3) (Nat.le_of_ble_eq_true rfl)
  rw [lg_entry_eq]
  generalize (lg_sl ([.ref h0, .int p1, .int p2]) ++ List.replicate (3 - (lg_sl ([.ref h0, .int p1, .int p2])).length) Slot.unset).toArray = ls at hl ⊢
  have hl : lv_has ls 3 [(0, .ref h0), (1, .int p1), (2, .int p2)] := hl
  refine lv_aload_n hx hb dX7_add_0 rfl (lv_at hl 0 rfl) ?_
  refine va_get (D := (dC, dI)) (ci := 7) (v := .int rl) (C := RX7) (T := TX7) (N := 6) hx hb hts hiX7 hown hK hP 0 rfl rfl 3 (by decide) w__fieldLink_RX7_19_ShellHeap_Rules_length_I_ (fun _ h9 => h9) rfl dX7_add_1 ?_
  refine lv_bipush (v := 96) hx hb dX7_add_4 (by decide) ?_
  refine lv_icmp_ge (tgt := 39) hx hb dX7_add_6 (by decide) (fun c_1 => ?_) (fun c_1 => ?_)
  · have k_2 : (96 : Int) ≤ (rl).toInt := z_le c_1
    obtain rfl : rl = 96 := z_eq' (show (rl).toInt = (96 : Int) by omega)
    have hP9 := hP.sub (ws' := [(h0, .inr (7, [.ref h1, .ref h2, h0_2, .int 96, h0_4, h0_5])), (h1, .inl (ch1, 96, .inl fh1)), (h2, .inl (ch2, 96, .inl fh2))]) [0, 1, 2] rfl
    have hD9 := hD.sub (ws' := [(h0, .inr (7, [.ref h1, .ref h2, h0_2, .int 96, h0_4, h0_5])), (h1, .inl (ch1, 96, .inl fh1)), (h2, .inl (ch2, 96, .inl fh2))]) [0, 1, 2] (by decide) rfl
    have hK9 := hK.sub (tys' := []) [] rfl
    refine W.widen (k := 0) (n := 0) (Nat.le_of_ble_eq_true rfl) (Nat.le_of_ble_eq_true rfl) ?_
    exact W.vret hx hb hr (fun t ht hW => ⟨⟨(), rfl, trivial, ⟨96, fh1, fh2, (by first | omega | decide), by rw [ht]; exact hP9, va_K.moved hW.alike hK9, hD9⟩⟩, hS.F ht⟩) hS.2.2 dX7_add_39
  · have k_3 : (96 : Int) > (rl).toInt := z_nle c_1
    refine lv_aload_n hx hb dX7_add_9 rfl (lv_at hl 0 rfl) ?_
    refine va_get (D := (dC, dI)) (ci := 7) (v := .ref h1) (C := RX7) (T := TX7) (N := 6) hx hb hts hiX7 hown hK hP 0 rfl rfl 0 (by decide) w__fieldLink_RX7_9_ShellHeap_Rules_steps_I_ (fun _ h9 => h9) rfl dX7_add_10 ?_
    refine lv_aload_n hx hb dX7_add_13 rfl (lv_at hl 0 rfl) ?_
    refine va_get (D := (dC, dI)) (ci := 7) (v := .int rl) (C := RX7) (T := TX7) (N := 6) hx hb hts hiX7 hown hK hP 0 rfl rfl 3 (by decide) w__fieldLink_RX7_19_ShellHeap_Rules_length_I_ (fun _ h9 => h9) rfl dX7_add_14 ?_
    refine lv_iload_n hx hb dX7_add_17 rfl (lv_at hl 1 rfl) ?_
    refine va_iast hx hb hK hP hD hS 1 0 rfl rfl (z_vpin (by omega) (by omega)) dX7_add_18 (fun H_4 locs hP hD hS => ?_)
    have hP : va_P (dC, dI) vwCl [(h0, .inr (7, [.ref h1, .ref h2, h0_2, .int rl, h0_4, h0_5])), (h1, .inl (ch1, 96, .inl (upd fh1 (rl : Int32).toNatClampNeg p1))), (h2, .inl (ch2, 96, .inl fh2))] H_4 := hP
    have hD : va_D A [(h0, .inr (7, [.ref h1, .ref h2, h0_2, .int rl, h0_4, h0_5])), (h1, .inl (ch1, 96, .inl (upd fh1 (rl : Int32).toNatClampNeg p1))), (h2, .inl (ch2, 96, .inl fh2))] := hD
    generalize (upd fh1 (rl : Int32).toNatClampNeg p1) = f_5 at hP hD
    refine lv_aload_n hx hb dX7_add_19 rfl (lv_at hl 0 rfl) ?_
    refine va_get (D := (dC, dI)) (ci := 7) (v := .ref h2) (C := RX7) (T := TX7) (N := 6) hx hb hts hiX7 hown hK hP 0 rfl rfl 1 (by decide) w__fieldLink_RX7_13_ShellHeap_Rules_worths_I_ (fun _ h9 => h9) rfl dX7_add_20 ?_
    refine lv_aload_n hx hb dX7_add_23 rfl (lv_at hl 0 rfl) ?_
    refine va_get (D := (dC, dI)) (ci := 7) (v := .int rl) (C := RX7) (T := TX7) (N := 6) hx hb hts hiX7 hown hK hP 0 rfl rfl 3 (by decide) w__fieldLink_RX7_19_ShellHeap_Rules_length_I_ (fun _ h9 => h9) rfl dX7_add_24 ?_
    refine lv_iload_n hx hb dX7_add_27 rfl (lv_at hl 2 rfl) ?_
    refine va_iast hx hb hK hP hD hS 2 1 rfl rfl (z_vpin (by omega) (by omega)) dX7_add_28 (fun H_6 locs hP hD hS => ?_)
    have hP : va_P (dC, dI) vwCl [(h0, .inr (7, [.ref h1, .ref h2, h0_2, .int rl, h0_4, h0_5])), (h1, .inl (ch1, 96, .inl f_5)), (h2, .inl (ch2, 96, .inl (upd fh2 (rl : Int32).toNatClampNeg p2)))] H_6 := hP
    have hD : va_D A [(h0, .inr (7, [.ref h1, .ref h2, h0_2, .int rl, h0_4, h0_5])), (h1, .inl (ch1, 96, .inl f_5)), (h2, .inl (ch2, 96, .inl (upd fh2 (rl : Int32).toNatClampNeg p2)))] := hD
    generalize (upd fh2 (rl : Int32).toNatClampNeg p2) = f_7 at hP hD
    refine lv_aload_n hx hb dX7_add_29 rfl (lv_at hl 0 rfl) ?_
    refine lv_dup hx hb dX7_add_30 rfl ?_
    refine va_get (D := (dC, dI)) (ci := 7) (v := .int rl) (C := RX7) (T := TX7) (N := 6) hx hb hts hiX7 hown hK hP 0 rfl rfl 3 (by decide) w__fieldLink_RX7_19_ShellHeap_Rules_length_I_ (fun _ h9 => h9) rfl dX7_add_31 ?_
    refine lv_iconst (v := 1) hx hb dX7_add_34 (by decide) ?_
    refine lv_iadd hx hb dX7_add_35 ?_
    refine lv_topi (fun z_8 ez_8 => ?_)
    have kz_8 : (z_8).toInt = (rl).toInt + (1 : Int) := by rw [ez_8]; exact z_add (a := (rl).toInt) (b := (1 : Int)) rfl rfl (by omega) (by omega)
    refine va_put (D := (dC, dI)) (ci := 7) (v := .int z_8) (ty := .int) (C := RX7) (T := TX7) (N := 6) hx hb hts hiX7 tyX7 tyX7_ok nmX7 hown hK hP hD hS 0 rfl rfl 3 (by decide) w__fieldLink_RX7_19_ShellHeap_Rules_length_I_ (fun _ h9 => h9) rfl (by decide +kernel) rfl rfl (Nat.le_of_ble_eq_true rfl) dX7_add_36 (fun H_9 locs hP hD hS => ?_)
    have hP : va_P (dC, dI) vwCl [(h0, .inr (7, [.ref h1, .ref h2, h0_2, .int z_8, h0_4, h0_5])), (h1, .inl (ch1, 96, .inl f_5)), (h2, .inl (ch2, 96, .inl f_7))] H_9 := hP
    have hD : va_D A [(h0, .inr (7, [.ref h1, .ref h2, h0_2, .int z_8, h0_4, h0_5])), (h1, .inl (ch1, 96, .inl f_5)), (h2, .inl (ch2, 96, .inl f_7))] := hD
    have hP9 := hP.sub (ws' := [(h0, .inr (7, [.ref h1, .ref h2, h0_2, .int z_8, h0_4, h0_5])), (h1, .inl (ch1, 96, .inl f_5)), (h2, .inl (ch2, 96, .inl f_7))]) [0, 1, 2] rfl
    have hD9 := hD.sub (ws' := [(h0, .inr (7, [.ref h1, .ref h2, h0_2, .int z_8, h0_4, h0_5])), (h1, .inl (ch1, 96, .inl f_5)), (h2, .inl (ch2, 96, .inl f_7))]) [0, 1, 2] (by decide) rfl
    have hK9 := hK.sub (tys' := []) [] rfl
    refine W.widen (k := 0) (n := 0) (Nat.le_of_ble_eq_true rfl) (Nat.le_of_ble_eq_true rfl) ?_
    exact W.vret hx hb hr (fun t ht hW => ⟨⟨(), rfl, trivial, ⟨z_8, f_5, f_7, (by first | omega | decide), by rw [ht]; exact hP9, va_K.moved hW.alike hK9, hD9⟩⟩, hS.F ht⟩) hS.2.2 dX7_add_39
def u_s_X7_endCause : List Cond := .code yX7_endCause cX7_endCause 1 none :: ([.fieldLink RX7 23 "ShellHeap$Rules" "causes" "I", .fieldLink RX7 16 "ShellHeap$Rules" "begins" "[I", .fieldLink RX7 19 "ShellHeap$Rules" "length" "I"] ++ wsX70)
set_option maxHeartbeats 4000000 in
set_option maxRecDepth 100000 in
theorem s_X7_endCause (l : Launch) (dC : Nat → ClassId) (dI : Nat → Nat → Nat) (sz : Nat) (h0 : Nat) (h0_0 : Value) (h0_1 : Value) (h1 : Nat) (rl : Int32) (rc : Int32) (h0_5 : Value) (ch1 : ClassId) (fh1 : Nat → Int32) (hB_rl : ((0 : Int) ≤ (rl).toInt ∧ (rl).toInt ≤ (96 : Int))) (hB_rc : ((0 : Int) ≤ (rc).toInt ∧ (rc).toInt ≤ (6 : Int))) (hI_h1 : ∀ j : Nat, ((0 : Int) ≤ (fh1 j).toInt ∧ (fh1 j).toInt ≤ (96 : Int))) : Met l yX7_endCause u_s_X7_endCause ({ frames := 0, cells := 0, slots := 0, locals := 0 }) (va_Pc [.ref h0] (z_C (dC, dI) vwCl [(h0, .inr (7, [h0_0, h0_1, .ref h1, .int rl, .int rc, h0_5])), (h1, .inl (ch1, 7, .inl fh1))] [(ch1, .int)] sz)) (va_Qv (fun (_ : Unit) => True) (fun (_ : Unit) (t : State) => ∃ (n_h0_causes : Int32), ∃ (g_h1 : Nat → Int32), ((0 : Int) ≤ (n_h0_causes).toInt ∧ (n_h0_causes).toInt ≤ (6 : Int)) ∧ (∀ j : Nat, ((0 : Int) ≤ (g_h1 j).toInt ∧ (g_h1 j).toInt ≤ (96 : Int))) ∧ va_P (dC, dI) vwCl [(h0, .inr (7, [h0_0, h0_1, .ref h1, .int rl, .int n_h0_causes, h0_5])), (h1, .inl (ch1, 7, .inl g_h1))] t.heap ∧ va_K (dC, dI) vwCl [] t ∧ va_D (va_A [(h0, .inr (7, [h0_0, h0_1, .ref h1, .int rl, .int rc, h0_5])), (h1, .inl (ch1, 7, .inl fh1))] sz) [(h0, .inr (7, [h0_0, h0_1, .ref h1, .int rl, .int n_h0_causes, h0_5])), (h1, .inl (ch1, 7, .inl g_h1))]) (va_A [(h0, .inr (7, [h0_0, h0_1, .ref h1, .int rl, .int rc, h0_5])), (h1, .inl (ch1, 7, .inl fh1))] sz)) 0 0 (va_A [(h0, .inr (7, [h0_0, h0_1, .ref h1, .int rl, .int rc, h0_5])), (h1, .inl (ch1, 7, .inl fh1))] sz) := by
  refine Met.ofW (cc := cX7_endCause) (maxL := 1) (ret := none) (by decide) rfl ?_
  intro p e s m args below meth c s₁ B hml hv
  obtain ⟨rfl, hsz, hP, hK, hD0⟩ := hv
  have hx := B.exec
  have hb := B.bytes
  have hr := B.returns
  have hts := atoms_spec (ws := u_s_X7_endCause) B.pre
  have hown : s.vm.findClass RX7 = some m.cls := findClass_of_methodNamed B.named
  have hlocks := B.notSynchronized
  subst hsz
  have hD := hD0.self (sz := s.heap.size)
  generalize hAe : va_A [(h0, .inr (7, [h0_0, h0_1, .ref h1, .int rl, .int rc, h0_5])), (h1, .inl (ch1, 7, .inl fh1))] s.heap.size = A at hD ⊢
  have hA : ∀ q : Nat, s.heap.size ≤ q → A q := fun q h => by rw [← hAe]; exact Or.inr h
  have hS : va_S A s.heap s.heap [] := va_S.rf
  have hP : va_P (dC, dI) vwCl [(h0, .inr (7, [h0_0, h0_1, .ref h1, .int rl, .int rc, h0_5])), (h1, .inl (ch1, 7, .inl fh1))] s.heap := hP
  have w__fieldLink_RX7_23_ShellHeap_Rules_causes_I_ := hts (.fieldLink RX7 23 "ShellHeap$Rules" "causes" "I") (by decide +kernel)
  have hiX7 := show ∀ w ∈ u_ws RX7 TX7 6, w ∈ u_s_X7_endCause by decide +kernel
  have w__fieldLink_RX7_16_ShellHeap_Rules_begins_I_ := hts (.fieldLink RX7 16 "ShellHeap$Rules" "begins" "[I") (by decide +kernel)
  have w__fieldLink_RX7_19_ShellHeap_Rules_length_I_ := hts (.fieldLink RX7 19 "ShellHeap$Rules" "length" "I") (by decide +kernel)
  have hl := lv_entry ([.ref h0]) (n := 1) (Nat.le_of_ble_eq_true rfl)
  rw [lg_entry_eq]
  generalize (lg_sl ([.ref h0]) ++ List.replicate (1 - (lg_sl ([.ref h0])).length) Slot.unset).toArray = ls at hl ⊢
  have hl : lv_has ls 1 [(0, .ref h0)] := hl
  refine lv_aload_n hx hb dX7_endCause_0 rfl (lv_at hl 0 rfl) ?_
  refine va_get (D := (dC, dI)) (ci := 7) (v := .int rc) (C := RX7) (T := TX7) (N := 6) hx hb hts hiX7 hown hK hP 0 rfl rfl 4 (by decide) w__fieldLink_RX7_23_ShellHeap_Rules_causes_I_ (fun _ h9 => h9) rfl dX7_endCause_1 ?_
  refine lv_bipush (v := 6) hx hb dX7_endCause_4 (by decide) ?_
  refine lv_icmp_ge (tgt := 32) hx hb dX7_endCause_6 (by decide) (fun c_1 => ?_) (fun c_1 => ?_)
  · have k_2 : (6 : Int) ≤ (rc).toInt := z_le c_1
    obtain rfl : rc = 6 := z_eq' (show (rc).toInt = (6 : Int) by omega)
    have hP9 := hP.sub (ws' := [(h0, .inr (7, [h0_0, h0_1, .ref h1, .int rl, .int 6, h0_5])), (h1, .inl (ch1, 7, .inl fh1))]) [0, 1] rfl
    have hD9 := hD.sub (ws' := [(h0, .inr (7, [h0_0, h0_1, .ref h1, .int rl, .int 6, h0_5])), (h1, .inl (ch1, 7, .inl fh1))]) [0, 1] (by decide) rfl
    have hK9 := hK.sub (tys' := []) [] rfl
    refine W.widen (k := 0) (n := 0) (Nat.le_of_ble_eq_true rfl) (Nat.le_of_ble_eq_true rfl) ?_
    exact W.vret hx hb hr (fun t ht hW => ⟨⟨(), rfl, trivial, ⟨6, fh1, (by first | omega | decide), hI_h1, by rw [ht]; exact hP9, va_K.moved hW.alike hK9, hD9⟩⟩, hS.F ht⟩) hS.2.2 dX7_endCause_32
  · have k_3 : (6 : Int) > (rc).toInt := z_nle c_1
    refine lv_aload_n hx hb dX7_endCause_9 rfl (lv_at hl 0 rfl) ?_
    refine lv_dup hx hb dX7_endCause_10 rfl ?_
    refine va_get (D := (dC, dI)) (ci := 7) (v := .int rc) (C := RX7) (T := TX7) (N := 6) hx hb hts hiX7 hown hK hP 0 rfl rfl 4 (by decide) w__fieldLink_RX7_23_ShellHeap_Rules_causes_I_ (fun _ h9 => h9) rfl dX7_endCause_11 ?_
    refine lv_iconst (v := 1) hx hb dX7_endCause_14 (by decide) ?_
    refine lv_iadd hx hb dX7_endCause_15 ?_
    refine lv_topi (fun z_4 ez_4 => ?_)
    have kz_4 : (z_4).toInt = (rc).toInt + (1 : Int) := by rw [ez_4]; exact z_add (a := (rc).toInt) (b := (1 : Int)) rfl rfl (by omega) (by omega)
    refine va_put (D := (dC, dI)) (ci := 7) (v := .int z_4) (ty := .int) (C := RX7) (T := TX7) (N := 6) hx hb hts hiX7 tyX7 tyX7_ok nmX7 hown hK hP hD hS 0 rfl rfl 4 (by decide) w__fieldLink_RX7_23_ShellHeap_Rules_causes_I_ (fun _ h9 => h9) rfl (by decide +kernel) rfl rfl (Nat.le_of_ble_eq_true rfl) dX7_endCause_16 (fun H_5 locs hP hD hS => ?_)
    have hP : va_P (dC, dI) vwCl [(h0, .inr (7, [h0_0, h0_1, .ref h1, .int rl, .int z_4, h0_5])), (h1, .inl (ch1, 7, .inl fh1))] H_5 := hP
    have hD : va_D A [(h0, .inr (7, [h0_0, h0_1, .ref h1, .int rl, .int z_4, h0_5])), (h1, .inl (ch1, 7, .inl fh1))] := hD
    refine lv_aload_n hx hb dX7_endCause_19 rfl (lv_at hl 0 rfl) ?_
    refine va_get (D := (dC, dI)) (ci := 7) (v := .ref h1) (C := RX7) (T := TX7) (N := 6) hx hb hts hiX7 hown hK hP 0 rfl rfl 2 (by decide) w__fieldLink_RX7_16_ShellHeap_Rules_begins_I_ (fun _ h9 => h9) rfl dX7_endCause_20 ?_
    refine lv_aload_n hx hb dX7_endCause_23 rfl (lv_at hl 0 rfl) ?_
    refine va_get (D := (dC, dI)) (ci := 7) (v := .int z_4) (C := RX7) (T := TX7) (N := 6) hx hb hts hiX7 hown hK hP 0 rfl rfl 4 (by decide) w__fieldLink_RX7_23_ShellHeap_Rules_causes_I_ (fun _ h9 => h9) rfl dX7_endCause_24 ?_
    refine lv_aload_n hx hb dX7_endCause_27 rfl (lv_at hl 0 rfl) ?_
    refine va_get (D := (dC, dI)) (ci := 7) (v := .int rl) (C := RX7) (T := TX7) (N := 6) hx hb hts hiX7 hown hK hP 0 rfl rfl 3 (by decide) w__fieldLink_RX7_19_ShellHeap_Rules_length_I_ (fun _ h9 => h9) rfl dX7_endCause_28 ?_
    refine va_iast hx hb hK hP hD hS 1 0 rfl rfl (z_vpin (by omega) (by omega)) dX7_endCause_31 (fun H_6 locs hP hD hS => ?_)
    have hP : va_P (dC, dI) vwCl [(h0, .inr (7, [h0_0, h0_1, .ref h1, .int rl, .int z_4, h0_5])), (h1, .inl (ch1, 7, .inl (upd fh1 (z_4 : Int32).toNatClampNeg rl)))] H_6 := hP
    have hD : va_D A [(h0, .inr (7, [h0_0, h0_1, .ref h1, .int rl, .int z_4, h0_5])), (h1, .inl (ch1, 7, .inl (upd fh1 (z_4 : Int32).toNatClampNeg rl)))] := hD
    have hI_f_7 : ∀ j : Nat, ((0 : Int) ≤ ((upd fh1 (z_4 : Int32).toNatClampNeg rl) j).toInt ∧ ((upd fh1 (z_4 : Int32).toNatClampNeg rl) j).toInt ≤ (96 : Int)) := z_updP (P := fun v => ((0 : Int) ≤ (v).toInt ∧ (v).toInt ≤ (96 : Int))) hI_h1 (show ((0 : Int) ≤ (rl).toInt ∧ (rl).toInt ≤ (96 : Int)) from by first | omega | decide)
    generalize (upd fh1 (z_4 : Int32).toNatClampNeg rl) = f_7 at hP hD hI_f_7
    have hP9 := hP.sub (ws' := [(h0, .inr (7, [h0_0, h0_1, .ref h1, .int rl, .int z_4, h0_5])), (h1, .inl (ch1, 7, .inl f_7))]) [0, 1] rfl
    have hD9 := hD.sub (ws' := [(h0, .inr (7, [h0_0, h0_1, .ref h1, .int rl, .int z_4, h0_5])), (h1, .inl (ch1, 7, .inl f_7))]) [0, 1] (by decide) rfl
    have hK9 := hK.sub (tys' := []) [] rfl
    refine W.widen (k := 0) (n := 0) (Nat.le_of_ble_eq_true rfl) (Nat.le_of_ble_eq_true rfl) ?_
    exact W.vret hx hb hr (fun t ht hW => ⟨⟨(), rfl, trivial, ⟨z_4, f_7, (by first | omega | decide), hI_f_7, by rw [ht]; exact hP9, va_K.moved hW.alike hK9, hD9⟩⟩, hS.F ht⟩) hS.2.2 dX7_endCause_32
def u_s_X6_has : List Cond := .code yX6_has cX6_has 1 (some .boolean) :: ([])
set_option maxHeartbeats 4000000 in
set_option maxRecDepth 100000 in
theorem s_X6_has (l : Launch) (dC : Nat → ClassId) (dI : Nat → Nat → Nat) (sz : Nat) (p0 : Int32) : Met l yX6_has u_s_X6_has ({ frames := 0, cells := 0, slots := 0, locals := 0 }) (va_Pc [.int p0] (z_C (dC, dI) vwCl [] [] sz)) (va_Qi (fun (r : Int32) (_ : Unit) => (r = 1 ∧ (0 ≤ p0.toInt ∧ p0.toInt < 3)) ∨ (r = 0 ∧ True)) (fun (_ : Unit) (_ : State) => True) (va_A [] sz)) 0 0 (va_A [] sz) := by
  refine Met.ofW (cc := cX6_has) (maxL := 1) (ret := (some .boolean)) (by decide) rfl ?_
  intro p e s m args below meth c s₁ B hml hv
  obtain ⟨rfl, hsz, hP, hK, hD0⟩ := hv
  have hx := B.exec
  have hb := B.bytes
  have hr := B.returns
  have hts := atoms_spec (ws := u_s_X6_has) B.pre
  have hown : s.vm.findClass RX6 = some m.cls := findClass_of_methodNamed B.named
  have hlocks := B.notSynchronized
  subst hsz
  have hD := hD0
  generalize hAe : va_A [] s.heap.size = A
  have hA : ∀ q : Nat, s.heap.size ≤ q → A q := fun q h => by rw [← hAe]; exact Or.inr h
  have hS : va_S A s.heap s.heap [] := va_S.rf
  have hP : va_P (dC, dI) vwCl [] s.heap := hP
  have krr_p0 := z_rng p0
  have hl := lv_entry ([.int p0]) (n := 1) (Nat.le_of_ble_eq_true rfl)
  rw [lg_entry_eq]
  generalize (lg_sl ([.int p0]) ++ List.replicate (1 - (lg_sl ([.int p0])).length) Slot.unset).toArray = ls at hl ⊢
  have hl : lv_has ls 1 [(0, .int p0)] := hl
  refine lv_iload_n hx hb dX6_has_0 rfl (lv_at hl 0 rfl) ?_
  refine lv_if_lt (tgt := 13) hx hb dX6_has_1 (by decide) (fun c_1 => ?_) (fun c_1 => ?_)
  · have k_2 : (p0).toInt < (0 : Int) := z_lt c_1
    refine lv_iconst (v := 0) hx hb dX6_has_13 (by decide) ?_
    refine W.widen (k := 0) (n := 0) (Nat.le_of_ble_eq_true rfl) (Nat.le_of_ble_eq_true rfl) ?_
    exact W.zret (v := 0) hx hb hr (by rfl) (fun t ht hW => ⟨⟨0, (), rfl, (Or.inr (⟨rfl, by first | omega | decide⟩)), trivial⟩, hS.F ht⟩) hS.2.2 dX6_has_14
  · have k_3 : (p0).toInt ≥ (0 : Int) := z_nlt c_1
    refine lv_iload_n hx hb dX6_has_4 rfl (lv_at hl 0 rfl) ?_
    refine lv_iconst (v := 3) hx hb dX6_has_5 (by decide) ?_
    refine lv_icmp_ge (tgt := 13) hx hb dX6_has_6 (by decide) (fun c_4 => ?_) (fun c_4 => ?_)
    · have k_5 : (3 : Int) ≤ (p0).toInt := z_le c_4
      refine lv_iconst (v := 0) hx hb dX6_has_13 (by decide) ?_
      refine W.widen (k := 0) (n := 0) (Nat.le_of_ble_eq_true rfl) (Nat.le_of_ble_eq_true rfl) ?_
      exact W.zret (v := 0) hx hb hr (by rfl) (fun t ht hW => ⟨⟨0, (), rfl, (Or.inr (⟨rfl, by first | omega | decide⟩)), trivial⟩, hS.F ht⟩) hS.2.2 dX6_has_14
    · have k_6 : (3 : Int) > (p0).toInt := z_nle c_4
      refine lv_iconst (v := 1) hx hb dX6_has_9 (by decide) ?_
      refine lv_goto (tgt := 14) hx hb dX6_has_10 (by decide) ?_
      refine W.widen (k := 0) (n := 0) (Nat.le_of_ble_eq_true rfl) (Nat.le_of_ble_eq_true rfl) ?_
      exact W.zret (v := 1) hx hb hr (by rfl) (fun t ht hW => ⟨⟨1, (), rfl, (Or.inl (⟨rfl, by first | omega | decide⟩)), trivial⟩, hS.F ht⟩) hS.2.2 dX6_has_14
def u_s_X6_areWithin : List Cond := .code yX6_areWithin cX6_areWithin 5 (some .boolean) :: ([])
set_option maxHeartbeats 4000000 in
set_option maxRecDepth 100000 in
theorem s_X6_areWithin (l : Launch) (dC : Nat → ClassId) (dI : Nat → Nat → Nat) (sz : Nat) (p0 : Int32) (p1 : Int32) (p2 : Int32) (p3 : Int32) (p4 : Int32) : Met l yX6_areWithin u_s_X6_areWithin ({ frames := 0, cells := 0, slots := 0, locals := 0 }) (va_Pc [.int p0, .int p1, .int p2, .int p3, .int p4] (z_C (dC, dI) vwCl [] [] sz)) (va_Qi (fun (r : Int32) (_ : Unit) => (r = 1 ∧ (0 ≤ p1.toInt ∧ p1.toInt ≤ p0.toInt ∧ 0 ≤ p2.toInt ∧ p2.toInt ≤ p0.toInt ∧ 0 ≤ p3.toInt ∧ p3.toInt ≤ p0.toInt ∧ 0 ≤ p4.toInt ∧ p4.toInt ≤ p0.toInt)) ∨ (r = 0 ∧ True)) (fun (_ : Unit) (_ : State) => True) (va_A [] sz)) 0 0 (va_A [] sz) := by
  refine Met.ofW (cc := cX6_areWithin) (maxL := 5) (ret := (some .boolean)) (by decide) rfl ?_
  intro p e s m args below meth c s₁ B hml hv
  obtain ⟨rfl, hsz, hP, hK, hD0⟩ := hv
  have hx := B.exec
  have hb := B.bytes
  have hr := B.returns
  have hts := atoms_spec (ws := u_s_X6_areWithin) B.pre
  have hown : s.vm.findClass RX6 = some m.cls := findClass_of_methodNamed B.named
  have hlocks := B.notSynchronized
  subst hsz
  have hD := hD0
  generalize hAe : va_A [] s.heap.size = A
  have hA : ∀ q : Nat, s.heap.size ≤ q → A q := fun q h => by rw [← hAe]; exact Or.inr h
  have hS : va_S A s.heap s.heap [] := va_S.rf
  have hP : va_P (dC, dI) vwCl [] s.heap := hP
  have krr_p0 := z_rng p0
  have krr_p1 := z_rng p1
  have krr_p2 := z_rng p2
  have krr_p3 := z_rng p3
  have krr_p4 := z_rng p4
  have hl := lv_entry ([.int p0, .int p1, .int p2, .int p3, .int p4]) (n := 5) (Nat.le_of_ble_eq_true rfl)
  rw [lg_entry_eq]
  generalize (lg_sl ([.int p0, .int p1, .int p2, .int p3, .int p4]) ++ List.replicate (5 - (lg_sl ([.int p0, .int p1, .int p2, .int p3, .int p4])).length) Slot.unset).toArray = ls at hl ⊢
  have hl : lv_has ls 5 [(0, .int p0), (1, .int p1), (2, .int p2), (3, .int p3), (4, .int p4)] := hl
  refine lv_iload_n hx hb dX6_areWithin_0 rfl (lv_at hl 1 rfl) ?_
  refine lv_if_lt (tgt := 42) hx hb dX6_areWithin_1 (by decide) (fun c_1 => ?_) (fun c_1 => ?_)
  · have k_2 : (p1).toInt < (0 : Int) := z_lt c_1
    refine lv_iconst (v := 0) hx hb dX6_areWithin_42 (by decide) ?_
    refine W.widen (k := 0) (n := 0) (Nat.le_of_ble_eq_true rfl) (Nat.le_of_ble_eq_true rfl) ?_
    exact W.zret (v := 0) hx hb hr (by rfl) (fun t ht hW => ⟨⟨0, (), rfl, (Or.inr (⟨rfl, by first | omega | decide⟩)), trivial⟩, hS.F ht⟩) hS.2.2 dX6_areWithin_43
  · have k_3 : (p1).toInt ≥ (0 : Int) := z_nlt c_1
    refine lv_iload_n hx hb dX6_areWithin_4 rfl (lv_at hl 1 rfl) ?_
    refine lv_iload_n hx hb dX6_areWithin_5 rfl (lv_at hl 0 rfl) ?_
    refine lv_icmp_gt (tgt := 42) hx hb dX6_areWithin_6 (by decide) (fun c_4 => ?_) (fun c_4 => ?_)
    · have k_5 : (p0).toInt < (p1).toInt := z_lt c_4
      refine lv_iconst (v := 0) hx hb dX6_areWithin_42 (by decide) ?_
      refine W.widen (k := 0) (n := 0) (Nat.le_of_ble_eq_true rfl) (Nat.le_of_ble_eq_true rfl) ?_
      exact W.zret (v := 0) hx hb hr (by rfl) (fun t ht hW => ⟨⟨0, (), rfl, (Or.inr (⟨rfl, by first | omega | decide⟩)), trivial⟩, hS.F ht⟩) hS.2.2 dX6_areWithin_43
    · have k_6 : (p0).toInt ≥ (p1).toInt := z_nlt c_4
      refine lv_iload_n hx hb dX6_areWithin_9 rfl (lv_at hl 2 rfl) ?_
      refine lv_if_lt (tgt := 42) hx hb dX6_areWithin_10 (by decide) (fun c_7 => ?_) (fun c_7 => ?_)
      · have k_8 : (p2).toInt < (0 : Int) := z_lt c_7
        refine lv_iconst (v := 0) hx hb dX6_areWithin_42 (by decide) ?_
        refine W.widen (k := 0) (n := 0) (Nat.le_of_ble_eq_true rfl) (Nat.le_of_ble_eq_true rfl) ?_
        exact W.zret (v := 0) hx hb hr (by rfl) (fun t ht hW => ⟨⟨0, (), rfl, (Or.inr (⟨rfl, by first | omega | decide⟩)), trivial⟩, hS.F ht⟩) hS.2.2 dX6_areWithin_43
      · have k_9 : (p2).toInt ≥ (0 : Int) := z_nlt c_7
        refine lv_iload_n hx hb dX6_areWithin_13 rfl (lv_at hl 2 rfl) ?_
        refine lv_iload_n hx hb dX6_areWithin_14 rfl (lv_at hl 0 rfl) ?_
        refine lv_icmp_gt (tgt := 42) hx hb dX6_areWithin_15 (by decide) (fun c_10 => ?_) (fun c_10 => ?_)
        · have k_11 : (p0).toInt < (p2).toInt := z_lt c_10
          refine lv_iconst (v := 0) hx hb dX6_areWithin_42 (by decide) ?_
          refine W.widen (k := 0) (n := 0) (Nat.le_of_ble_eq_true rfl) (Nat.le_of_ble_eq_true rfl) ?_
          exact W.zret (v := 0) hx hb hr (by rfl) (fun t ht hW => ⟨⟨0, (), rfl, (Or.inr (⟨rfl, by first | omega | decide⟩)), trivial⟩, hS.F ht⟩) hS.2.2 dX6_areWithin_43
        · have k_12 : (p0).toInt ≥ (p2).toInt := z_nlt c_10
          refine lv_iload_n hx hb dX6_areWithin_18 rfl (lv_at hl 3 rfl) ?_
          refine lv_if_lt (tgt := 42) hx hb dX6_areWithin_19 (by decide) (fun c_13 => ?_) (fun c_13 => ?_)
          · have k_14 : (p3).toInt < (0 : Int) := z_lt c_13
            refine lv_iconst (v := 0) hx hb dX6_areWithin_42 (by decide) ?_
            refine W.widen (k := 0) (n := 0) (Nat.le_of_ble_eq_true rfl) (Nat.le_of_ble_eq_true rfl) ?_
            exact W.zret (v := 0) hx hb hr (by rfl) (fun t ht hW => ⟨⟨0, (), rfl, (Or.inr (⟨rfl, by first | omega | decide⟩)), trivial⟩, hS.F ht⟩) hS.2.2 dX6_areWithin_43
          · have k_15 : (p3).toInt ≥ (0 : Int) := z_nlt c_13
            refine lv_iload_n hx hb dX6_areWithin_22 rfl (lv_at hl 3 rfl) ?_
            refine lv_iload_n hx hb dX6_areWithin_23 rfl (lv_at hl 0 rfl) ?_
            refine lv_icmp_gt (tgt := 42) hx hb dX6_areWithin_24 (by decide) (fun c_16 => ?_) (fun c_16 => ?_)
            · have k_17 : (p0).toInt < (p3).toInt := z_lt c_16
              refine lv_iconst (v := 0) hx hb dX6_areWithin_42 (by decide) ?_
              refine W.widen (k := 0) (n := 0) (Nat.le_of_ble_eq_true rfl) (Nat.le_of_ble_eq_true rfl) ?_
              exact W.zret (v := 0) hx hb hr (by rfl) (fun t ht hW => ⟨⟨0, (), rfl, (Or.inr (⟨rfl, by first | omega | decide⟩)), trivial⟩, hS.F ht⟩) hS.2.2 dX6_areWithin_43
            · have k_18 : (p0).toInt ≥ (p3).toInt := z_nlt c_16
              refine lv_iload hx hb dX6_areWithin_27 (lv_at hl 4 rfl) ?_
              refine lv_if_lt (tgt := 42) hx hb dX6_areWithin_29 (by decide) (fun c_19 => ?_) (fun c_19 => ?_)
              · have k_20 : (p4).toInt < (0 : Int) := z_lt c_19
                refine lv_iconst (v := 0) hx hb dX6_areWithin_42 (by decide) ?_
                refine W.widen (k := 0) (n := 0) (Nat.le_of_ble_eq_true rfl) (Nat.le_of_ble_eq_true rfl) ?_
                exact W.zret (v := 0) hx hb hr (by rfl) (fun t ht hW => ⟨⟨0, (), rfl, (Or.inr (⟨rfl, by first | omega | decide⟩)), trivial⟩, hS.F ht⟩) hS.2.2 dX6_areWithin_43
              · have k_21 : (p4).toInt ≥ (0 : Int) := z_nlt c_19
                refine lv_iload hx hb dX6_areWithin_32 (lv_at hl 4 rfl) ?_
                refine lv_iload_n hx hb dX6_areWithin_34 rfl (lv_at hl 0 rfl) ?_
                refine lv_icmp_gt (tgt := 42) hx hb dX6_areWithin_35 (by decide) (fun c_22 => ?_) (fun c_22 => ?_)
                · have k_23 : (p0).toInt < (p4).toInt := z_lt c_22
                  refine lv_iconst (v := 0) hx hb dX6_areWithin_42 (by decide) ?_
                  refine W.widen (k := 0) (n := 0) (Nat.le_of_ble_eq_true rfl) (Nat.le_of_ble_eq_true rfl) ?_
                  exact W.zret (v := 0) hx hb hr (by rfl) (fun t ht hW => ⟨⟨0, (), rfl, (Or.inr (⟨rfl, by first | omega | decide⟩)), trivial⟩, hS.F ht⟩) hS.2.2 dX6_areWithin_43
                · have k_24 : (p0).toInt ≥ (p4).toInt := z_nlt c_22
                  refine lv_iconst (v := 1) hx hb dX6_areWithin_38 (by decide) ?_
                  refine lv_goto (tgt := 43) hx hb dX6_areWithin_39 (by decide) ?_
                  refine W.widen (k := 0) (n := 0) (Nat.le_of_ble_eq_true rfl) (Nat.le_of_ble_eq_true rfl) ?_
                  exact W.zret (v := 1) hx hb hr (by rfl) (fun t ht hW => ⟨⟨1, (), rfl, (Or.inl (⟨rfl, by first | omega | decide⟩)), trivial⟩, hS.F ht⟩) hS.2.2 dX6_areWithin_43
def u_s_X6_setRow : List Cond := .code yX6_setRow cX6_setRow 8 none :: ([.fieldLink RX6 11 "ShellHeap$Readers" "rows" "[I"] ++ wsX60)
set_option maxHeartbeats 4000000 in
set_option maxRecDepth 100000 in
theorem s_X6_setRow (l : Launch) (dC : Nat → ClassId) (dI : Nat → Nat → Nat) (sz : Nat) (h0 : Nat) (p1 : Int32) (p2 : Int32) (p3 : Int32) (p4 : Int32) (p5 : Int32) (p6 : Int32) (h1 : Nat) (h0_1 : Value) (h0_2 : Value) (h0_3 : Value) (h0_4 : Value) (h0_5 : Value) (h0_6 : Value) (ch1 : ClassId) (fh1 : Nat → Int32) (hB_p1 : ((0 : Int) ≤ (p1).toInt ∧ (p1).toInt ≤ (2 : Int))) (hB_p2 : ((0 : Int) ≤ (p2).toInt ∧ (p2).toInt ≤ (3 : Int))) : Met l yX6_setRow u_s_X6_setRow ({ frames := 0, cells := 0, slots := 0, locals := 0 }) (va_Pc [.ref h0, .int p1, .int p2, .int p3, .int p4, .int p5, .int p6] (z_C (dC, dI) vwCl [(h0, .inr (6, [.ref h1, h0_1, h0_2, h0_3, h0_4, h0_5, h0_6])), (h1, .inl (ch1, 48, .inl fh1))] [(ch1, .int)] sz)) (va_Qv (fun (_ : Unit) => True) (fun (_ : Unit) (t : State) => ∃ (g_h1 : Nat → Int32), va_P (dC, dI) vwCl [(h0, .inr (6, [.ref h1, h0_1, h0_2, h0_3, h0_4, h0_5, h0_6])), (h1, .inl (ch1, 48, .inl g_h1))] t.heap ∧ va_K (dC, dI) vwCl [] t ∧ va_D (va_A [(h0, .inr (6, [.ref h1, h0_1, h0_2, h0_3, h0_4, h0_5, h0_6])), (h1, .inl (ch1, 48, .inl fh1))] sz) [(h0, .inr (6, [.ref h1, h0_1, h0_2, h0_3, h0_4, h0_5, h0_6])), (h1, .inl (ch1, 48, .inl g_h1))]) (va_A [(h0, .inr (6, [.ref h1, h0_1, h0_2, h0_3, h0_4, h0_5, h0_6])), (h1, .inl (ch1, 48, .inl fh1))] sz)) 0 0 (va_A [(h0, .inr (6, [.ref h1, h0_1, h0_2, h0_3, h0_4, h0_5, h0_6])), (h1, .inl (ch1, 48, .inl fh1))] sz) := by
  refine Met.ofW (cc := cX6_setRow) (maxL := 8) (ret := none) (by decide) rfl ?_
  intro p e s m args below meth c s₁ B hml hv
  obtain ⟨rfl, hsz, hP, hK, hD0⟩ := hv
  have hx := B.exec
  have hb := B.bytes
  have hr := B.returns
  have hts := atoms_spec (ws := u_s_X6_setRow) B.pre
  have hown : s.vm.findClass RX6 = some m.cls := findClass_of_methodNamed B.named
  have hlocks := B.notSynchronized
  subst hsz
  have hD := hD0.self (sz := s.heap.size)
  generalize hAe : va_A [(h0, .inr (6, [.ref h1, h0_1, h0_2, h0_3, h0_4, h0_5, h0_6])), (h1, .inl (ch1, 48, .inl fh1))] s.heap.size = A at hD ⊢
  have hA : ∀ q : Nat, s.heap.size ≤ q → A q := fun q h => by rw [← hAe]; exact Or.inr h
  have hS : va_S A s.heap s.heap [] := va_S.rf
  have hP : va_P (dC, dI) vwCl [(h0, .inr (6, [.ref h1, h0_1, h0_2, h0_3, h0_4, h0_5, h0_6])), (h1, .inl (ch1, 48, .inl fh1))] s.heap := hP
  have w__fieldLink_RX6_11_ShellHeap_Readers_rows_I_ := hts (.fieldLink RX6 11 "ShellHeap$Readers" "rows" "[I") (by decide +kernel)
  have hiX6 := show ∀ w ∈ u_ws RX6 TX6 7, w ∈ u_s_X6_setRow by decide +kernel
  have krr_p3 := z_rng p3
  have krr_p4 := z_rng p4
  have krr_p5 := z_rng p5
  have krr_p6 := z_rng p6
  have hl := lv_entry ([.ref h0, .int p1, .int p2, .int p3, .int p4, .int p5, .int p6]) (n := 8) (Nat.le_of_ble_eq_true rfl)
  rw [lg_entry_eq]
  generalize (lg_sl ([.ref h0, .int p1, .int p2, .int p3, .int p4, .int p5, .int p6]) ++ List.replicate (8 - (lg_sl ([.ref h0, .int p1, .int p2, .int p3, .int p4, .int p5, .int p6])).length) Slot.unset).toArray = ls at hl ⊢
  have hl : lv_has ls 8 [(0, .ref h0), (1, .int p1), (2, .int p2), (3, .int p3), (4, .int p4), (5, .int p5), (6, .int p6)] := hl
  refine lv_iload_n hx hb dX6_setRow_0 rfl (lv_at hl 1 rfl) ?_
  refine lv_iconst (v := 4) hx hb dX6_setRow_1 (by decide) ?_
  refine lv_imul hx hb dX6_setRow_2 ?_
  refine lv_topi (fun z_1 ez_1 => ?_)
  have kz_1 : (z_1).toInt = (p1).toInt * (4 : Int) := by rw [ez_1]; exact z_mul (a := (p1).toInt) (b := (4 : Int)) rfl rfl (by omega) (by omega)
  refine lv_iload_n hx hb dX6_setRow_3 rfl (lv_at hl 2 rfl) ?_
  refine lv_iadd hx hb dX6_setRow_4 ?_
  refine lv_topi (fun z_2 ez_2 => ?_)
  have kz_2 : (z_2).toInt = (z_1).toInt + (p2).toInt := by rw [ez_2]; exact z_add (a := (z_1).toInt) (b := (p2).toInt) rfl rfl (by omega) (by omega)
  refine lv_iconst (v := 4) hx hb dX6_setRow_5 (by decide) ?_
  refine lv_imul hx hb dX6_setRow_6 ?_
  refine lv_topi (fun z_3 ez_3 => ?_)
  have kz_3 : (z_3).toInt = (z_2).toInt * (4 : Int) := by rw [ez_3]; exact z_mul (a := (z_2).toInt) (b := (4 : Int)) rfl rfl (by omega) (by omega)
  refine lv_istore (lv' := [(7, .int z_3), (0, .ref h0), (1, .int p1), (2, .int p2), (3, .int p3), (4, .int p4), (5, .int p5), (6, .int p6)]) hx hb dX6_setRow_7 hl (by decide) rfl (fun ls hl => ?_)
  refine lv_aload_n hx hb dX6_setRow_9 rfl (lv_at hl 1 rfl) ?_
  refine va_get (D := (dC, dI)) (ci := 6) (v := .ref h1) (C := RX6) (T := TX6) (N := 7) hx hb hts hiX6 hown hK hP 0 rfl rfl 0 (by decide) w__fieldLink_RX6_11_ShellHeap_Readers_rows_I_ (fun _ h9 => h9) rfl dX6_setRow_10 ?_
  refine lv_iload hx hb dX6_setRow_13 (lv_at hl 0 rfl) ?_
  refine lv_iload_n hx hb dX6_setRow_15 rfl (lv_at hl 4 rfl) ?_
  refine va_iast hx hb hK hP hD hS 1 0 rfl rfl (z_vpin (by omega) (by omega)) dX6_setRow_16 (fun H_4 locs hP hD hS => ?_)
  have hP : va_P (dC, dI) vwCl [(h0, .inr (6, [.ref h1, h0_1, h0_2, h0_3, h0_4, h0_5, h0_6])), (h1, .inl (ch1, 48, .inl (upd fh1 (z_3 : Int32).toNatClampNeg p3)))] H_4 := hP
  have hD : va_D A [(h0, .inr (6, [.ref h1, h0_1, h0_2, h0_3, h0_4, h0_5, h0_6])), (h1, .inl (ch1, 48, .inl (upd fh1 (z_3 : Int32).toNatClampNeg p3)))] := hD
  generalize (upd fh1 (z_3 : Int32).toNatClampNeg p3) = f_5 at hP hD
  refine lv_aload_n hx hb dX6_setRow_17 rfl (lv_at hl 1 rfl) ?_
  refine va_get (D := (dC, dI)) (ci := 6) (v := .ref h1) (C := RX6) (T := TX6) (N := 7) hx hb hts hiX6 hown hK hP 0 rfl rfl 0 (by decide) w__fieldLink_RX6_11_ShellHeap_Readers_rows_I_ (fun _ h9 => h9) rfl dX6_setRow_18 ?_
  refine lv_iload hx hb dX6_setRow_21 (lv_at hl 0 rfl) ?_
  refine lv_iconst (v := 1) hx hb dX6_setRow_23 (by decide) ?_
  refine lv_iadd hx hb dX6_setRow_24 ?_
  refine lv_topi (fun z_6 ez_6 => ?_)
  have kz_6 : (z_6).toInt = (z_3).toInt + (1 : Int) := by rw [ez_6]; exact z_add (a := (z_3).toInt) (b := (1 : Int)) rfl rfl (by omega) (by omega)
  refine lv_iload hx hb dX6_setRow_25 (lv_at hl 5 rfl) ?_
  refine va_iast hx hb hK hP hD hS 1 0 rfl rfl (z_vpin (by omega) (by omega)) dX6_setRow_27 (fun H_7 locs hP hD hS => ?_)
  have hP : va_P (dC, dI) vwCl [(h0, .inr (6, [.ref h1, h0_1, h0_2, h0_3, h0_4, h0_5, h0_6])), (h1, .inl (ch1, 48, .inl (upd f_5 (z_6 : Int32).toNatClampNeg p4)))] H_7 := hP
  have hD : va_D A [(h0, .inr (6, [.ref h1, h0_1, h0_2, h0_3, h0_4, h0_5, h0_6])), (h1, .inl (ch1, 48, .inl (upd f_5 (z_6 : Int32).toNatClampNeg p4)))] := hD
  generalize (upd f_5 (z_6 : Int32).toNatClampNeg p4) = f_8 at hP hD
  refine lv_aload_n hx hb dX6_setRow_28 rfl (lv_at hl 1 rfl) ?_
  refine va_get (D := (dC, dI)) (ci := 6) (v := .ref h1) (C := RX6) (T := TX6) (N := 7) hx hb hts hiX6 hown hK hP 0 rfl rfl 0 (by decide) w__fieldLink_RX6_11_ShellHeap_Readers_rows_I_ (fun _ h9 => h9) rfl dX6_setRow_29 ?_
  refine lv_iload hx hb dX6_setRow_32 (lv_at hl 0 rfl) ?_
  refine lv_iconst (v := 2) hx hb dX6_setRow_34 (by decide) ?_
  refine lv_iadd hx hb dX6_setRow_35 ?_
  refine lv_topi (fun z_9 ez_9 => ?_)
  have kz_9 : (z_9).toInt = (z_3).toInt + (2 : Int) := by rw [ez_9]; exact z_add (a := (z_3).toInt) (b := (2 : Int)) rfl rfl (by omega) (by omega)
  refine lv_iload hx hb dX6_setRow_36 (lv_at hl 6 rfl) ?_
  refine va_iast hx hb hK hP hD hS 1 0 rfl rfl (z_vpin (by omega) (by omega)) dX6_setRow_38 (fun H_10 locs hP hD hS => ?_)
  have hP : va_P (dC, dI) vwCl [(h0, .inr (6, [.ref h1, h0_1, h0_2, h0_3, h0_4, h0_5, h0_6])), (h1, .inl (ch1, 48, .inl (upd f_8 (z_9 : Int32).toNatClampNeg p5)))] H_10 := hP
  have hD : va_D A [(h0, .inr (6, [.ref h1, h0_1, h0_2, h0_3, h0_4, h0_5, h0_6])), (h1, .inl (ch1, 48, .inl (upd f_8 (z_9 : Int32).toNatClampNeg p5)))] := hD
  generalize (upd f_8 (z_9 : Int32).toNatClampNeg p5) = f_11 at hP hD
  refine lv_aload_n hx hb dX6_setRow_39 rfl (lv_at hl 1 rfl) ?_
  refine va_get (D := (dC, dI)) (ci := 6) (v := .ref h1) (C := RX6) (T := TX6) (N := 7) hx hb hts hiX6 hown hK hP 0 rfl rfl 0 (by decide) w__fieldLink_RX6_11_ShellHeap_Readers_rows_I_ (fun _ h9 => h9) rfl dX6_setRow_40 ?_
  refine lv_iload hx hb dX6_setRow_43 (lv_at hl 0 rfl) ?_
  refine lv_iconst (v := 3) hx hb dX6_setRow_45 (by decide) ?_
  refine lv_iadd hx hb dX6_setRow_46 ?_
  refine lv_topi (fun z_12 ez_12 => ?_)
  have kz_12 : (z_12).toInt = (z_3).toInt + (3 : Int) := by rw [ez_12]; exact z_add (a := (z_3).toInt) (b := (3 : Int)) rfl rfl (by omega) (by omega)
  refine lv_iload hx hb dX6_setRow_47 (lv_at hl 7 rfl) ?_
  refine va_iast hx hb hK hP hD hS 1 0 rfl rfl (z_vpin (by omega) (by omega)) dX6_setRow_49 (fun H_13 locs hP hD hS => ?_)
  have hP : va_P (dC, dI) vwCl [(h0, .inr (6, [.ref h1, h0_1, h0_2, h0_3, h0_4, h0_5, h0_6])), (h1, .inl (ch1, 48, .inl (upd f_11 (z_12 : Int32).toNatClampNeg p6)))] H_13 := hP
  have hD : va_D A [(h0, .inr (6, [.ref h1, h0_1, h0_2, h0_3, h0_4, h0_5, h0_6])), (h1, .inl (ch1, 48, .inl (upd f_11 (z_12 : Int32).toNatClampNeg p6)))] := hD
  generalize (upd f_11 (z_12 : Int32).toNatClampNeg p6) = f_14 at hP hD
  have hP9 := hP.sub (ws' := [(h0, .inr (6, [.ref h1, h0_1, h0_2, h0_3, h0_4, h0_5, h0_6])), (h1, .inl (ch1, 48, .inl f_14))]) [0, 1] rfl
  have hD9 := hD.sub (ws' := [(h0, .inr (6, [.ref h1, h0_1, h0_2, h0_3, h0_4, h0_5, h0_6])), (h1, .inl (ch1, 48, .inl f_14))]) [0, 1] (by decide) rfl
  have hK9 := hK.sub (tys' := []) [] rfl
  refine W.widen (k := 0) (n := 0) (Nat.le_of_ble_eq_true rfl) (Nat.le_of_ble_eq_true rfl) ?_
  exact W.vret hx hb hr (fun t ht hW => ⟨⟨(), rfl, trivial, ⟨f_14, by rw [ht]; exact hP9, va_K.moved hW.alike hK9, hD9⟩⟩, hS.F ht⟩) hS.2.2 dX6_setRow_50
def u_s_X6_tell : List Cond := .code yX6_tell cX6_tell 8 none :: ([.fieldLink RX6 15 "ShellHeap$Readers" "told" "[I"] ++ wsX60)
set_option maxHeartbeats 4000000 in
set_option maxRecDepth 100000 in
theorem s_X6_tell (l : Launch) (dC : Nat → ClassId) (dI : Nat → Nat → Nat) (sz : Nat) (h0 : Nat) (p1 : Int32) (p2 : Int32) (p3 : Int32) (p4 : Int32) (p5 : Int32) (p6 : Int32) (h0_0 : Value) (h1 : Nat) (h0_2 : Value) (h0_3 : Value) (h0_4 : Value) (h0_5 : Value) (h0_6 : Value) (ch1 : ClassId) (fh1 : Nat → Int32) (hB_p1 : ((0 : Int) ≤ (p1).toInt ∧ (p1).toInt ≤ (11 : Int))) (hB_p2 : ((0 : Int) ≤ (p2).toInt ∧ (p2).toInt ≤ (2 : Int))) : Met l yX6_tell u_s_X6_tell ({ frames := 0, cells := 0, slots := 0, locals := 0 }) (va_Pc [.ref h0, .int p1, .int p2, .int p3, .int p4, .int p5, .int p6] (z_C (dC, dI) vwCl [(h0, .inr (6, [h0_0, .ref h1, h0_2, h0_3, h0_4, h0_5, h0_6])), (h1, .inl (ch1, 144, .inl fh1))] [(ch1, .int)] sz)) (va_Qv (fun (_ : Unit) => True) (fun (_ : Unit) (t : State) => ∃ (g_h1 : Nat → Int32), va_P (dC, dI) vwCl [(h0, .inr (6, [h0_0, .ref h1, h0_2, h0_3, h0_4, h0_5, h0_6])), (h1, .inl (ch1, 144, .inl g_h1))] t.heap ∧ va_K (dC, dI) vwCl [] t ∧ va_D (va_A [(h0, .inr (6, [h0_0, .ref h1, h0_2, h0_3, h0_4, h0_5, h0_6])), (h1, .inl (ch1, 144, .inl fh1))] sz) [(h0, .inr (6, [h0_0, .ref h1, h0_2, h0_3, h0_4, h0_5, h0_6])), (h1, .inl (ch1, 144, .inl g_h1))]) (va_A [(h0, .inr (6, [h0_0, .ref h1, h0_2, h0_3, h0_4, h0_5, h0_6])), (h1, .inl (ch1, 144, .inl fh1))] sz)) 0 0 (va_A [(h0, .inr (6, [h0_0, .ref h1, h0_2, h0_3, h0_4, h0_5, h0_6])), (h1, .inl (ch1, 144, .inl fh1))] sz) := by
  refine Met.ofW (cc := cX6_tell) (maxL := 8) (ret := none) (by decide) rfl ?_
  intro p e s m args below meth c s₁ B hml hv
  obtain ⟨rfl, hsz, hP, hK, hD0⟩ := hv
  have hx := B.exec
  have hb := B.bytes
  have hr := B.returns
  have hts := atoms_spec (ws := u_s_X6_tell) B.pre
  have hown : s.vm.findClass RX6 = some m.cls := findClass_of_methodNamed B.named
  have hlocks := B.notSynchronized
  subst hsz
  have hD := hD0.self (sz := s.heap.size)
  generalize hAe : va_A [(h0, .inr (6, [h0_0, .ref h1, h0_2, h0_3, h0_4, h0_5, h0_6])), (h1, .inl (ch1, 144, .inl fh1))] s.heap.size = A at hD ⊢
  have hA : ∀ q : Nat, s.heap.size ≤ q → A q := fun q h => by rw [← hAe]; exact Or.inr h
  have hS : va_S A s.heap s.heap [] := va_S.rf
  have hP : va_P (dC, dI) vwCl [(h0, .inr (6, [h0_0, .ref h1, h0_2, h0_3, h0_4, h0_5, h0_6])), (h1, .inl (ch1, 144, .inl fh1))] s.heap := hP
  have w__fieldLink_RX6_15_ShellHeap_Readers_told_I_ := hts (.fieldLink RX6 15 "ShellHeap$Readers" "told" "[I") (by decide +kernel)
  have hiX6 := show ∀ w ∈ u_ws RX6 TX6 7, w ∈ u_s_X6_tell by decide +kernel
  have krr_p3 := z_rng p3
  have krr_p4 := z_rng p4
  have krr_p5 := z_rng p5
  have krr_p6 := z_rng p6
  have hl := lv_entry ([.ref h0, .int p1, .int p2, .int p3, .int p4, .int p5, .int p6]) (n := 8) (Nat.le_of_ble_eq_true rfl)
  rw [lg_entry_eq]
  generalize (lg_sl ([.ref h0, .int p1, .int p2, .int p3, .int p4, .int p5, .int p6]) ++ List.replicate (8 - (lg_sl ([.ref h0, .int p1, .int p2, .int p3, .int p4, .int p5, .int p6])).length) Slot.unset).toArray = ls at hl ⊢
  have hl : lv_has ls 8 [(0, .ref h0), (1, .int p1), (2, .int p2), (3, .int p3), (4, .int p4), (5, .int p5), (6, .int p6)] := hl
  refine lv_iload_n hx hb dX6_tell_0 rfl (lv_at hl 1 rfl) ?_
  refine lv_iconst (v := 3) hx hb dX6_tell_1 (by decide) ?_
  refine lv_imul hx hb dX6_tell_2 ?_
  refine lv_topi (fun z_1 ez_1 => ?_)
  have kz_1 : (z_1).toInt = (p1).toInt * (3 : Int) := by rw [ez_1]; exact z_mul (a := (p1).toInt) (b := (3 : Int)) rfl rfl (by omega) (by omega)
  refine lv_iload_n hx hb dX6_tell_3 rfl (lv_at hl 2 rfl) ?_
  refine lv_iadd hx hb dX6_tell_4 ?_
  refine lv_topi (fun z_2 ez_2 => ?_)
  have kz_2 : (z_2).toInt = (z_1).toInt + (p2).toInt := by rw [ez_2]; exact z_add (a := (z_1).toInt) (b := (p2).toInt) rfl rfl (by omega) (by omega)
  refine lv_iconst (v := 4) hx hb dX6_tell_5 (by decide) ?_
  refine lv_imul hx hb dX6_tell_6 ?_
  refine lv_topi (fun z_3 ez_3 => ?_)
  have kz_3 : (z_3).toInt = (z_2).toInt * (4 : Int) := by rw [ez_3]; exact z_mul (a := (z_2).toInt) (b := (4 : Int)) rfl rfl (by omega) (by omega)
  refine lv_istore (lv' := [(7, .int z_3), (0, .ref h0), (1, .int p1), (2, .int p2), (3, .int p3), (4, .int p4), (5, .int p5), (6, .int p6)]) hx hb dX6_tell_7 hl (by decide) rfl (fun ls hl => ?_)
  refine lv_aload_n hx hb dX6_tell_9 rfl (lv_at hl 1 rfl) ?_
  refine va_get (D := (dC, dI)) (ci := 6) (v := .ref h1) (C := RX6) (T := TX6) (N := 7) hx hb hts hiX6 hown hK hP 0 rfl rfl 1 (by decide) w__fieldLink_RX6_15_ShellHeap_Readers_told_I_ (fun _ h9 => h9) rfl dX6_tell_10 ?_
  refine lv_iload hx hb dX6_tell_13 (lv_at hl 0 rfl) ?_
  refine lv_dup2_11 hx hb dX6_tell_15 rfl rfl ?_
  refine va_iald hx hb hK hP 1 0 rfl rfl (z_vpin (by omega) (by omega)) dX6_tell_16 ?_
  refine lv_topi (fun z_4 ez_4 => ?_)
  refine lv_iload_n hx hb dX6_tell_17 rfl (lv_at hl 4 rfl) ?_
  refine lv_iadd hx hb dX6_tell_18 ?_
  refine lv_topi (fun z_5 ez_5 => ?_)
  refine va_iast hx hb hK hP hD hS 1 0 rfl rfl (z_vpin (by omega) (by omega)) dX6_tell_19 (fun H_6 locs hP hD hS => ?_)
  have hP : va_P (dC, dI) vwCl [(h0, .inr (6, [h0_0, .ref h1, h0_2, h0_3, h0_4, h0_5, h0_6])), (h1, .inl (ch1, 144, .inl (upd fh1 (z_3 : Int32).toNatClampNeg z_5)))] H_6 := hP
  have hD : va_D A [(h0, .inr (6, [h0_0, .ref h1, h0_2, h0_3, h0_4, h0_5, h0_6])), (h1, .inl (ch1, 144, .inl (upd fh1 (z_3 : Int32).toNatClampNeg z_5)))] := hD
  generalize (upd fh1 (z_3 : Int32).toNatClampNeg z_5) = f_7 at hP hD
  refine lv_aload_n hx hb dX6_tell_20 rfl (lv_at hl 1 rfl) ?_
  refine va_get (D := (dC, dI)) (ci := 6) (v := .ref h1) (C := RX6) (T := TX6) (N := 7) hx hb hts hiX6 hown hK hP 0 rfl rfl 1 (by decide) w__fieldLink_RX6_15_ShellHeap_Readers_told_I_ (fun _ h9 => h9) rfl dX6_tell_21 ?_
  refine lv_iload hx hb dX6_tell_24 (lv_at hl 0 rfl) ?_
  refine lv_iconst (v := 1) hx hb dX6_tell_26 (by decide) ?_
  refine lv_iadd hx hb dX6_tell_27 ?_
  refine lv_topi (fun z_8 ez_8 => ?_)
  have kz_8 : (z_8).toInt = (z_3).toInt + (1 : Int) := by rw [ez_8]; exact z_add (a := (z_3).toInt) (b := (1 : Int)) rfl rfl (by omega) (by omega)
  refine lv_dup2_11 hx hb dX6_tell_28 rfl rfl ?_
  refine va_iald hx hb hK hP 1 0 rfl rfl (z_vpin (by omega) (by omega)) dX6_tell_29 ?_
  refine lv_topi (fun z_9 ez_9 => ?_)
  refine lv_iload hx hb dX6_tell_30 (lv_at hl 5 rfl) ?_
  refine lv_iadd hx hb dX6_tell_32 ?_
  refine lv_topi (fun z_10 ez_10 => ?_)
  refine va_iast hx hb hK hP hD hS 1 0 rfl rfl (z_vpin (by omega) (by omega)) dX6_tell_33 (fun H_11 locs hP hD hS => ?_)
  have hP : va_P (dC, dI) vwCl [(h0, .inr (6, [h0_0, .ref h1, h0_2, h0_3, h0_4, h0_5, h0_6])), (h1, .inl (ch1, 144, .inl (upd f_7 (z_8 : Int32).toNatClampNeg z_10)))] H_11 := hP
  have hD : va_D A [(h0, .inr (6, [h0_0, .ref h1, h0_2, h0_3, h0_4, h0_5, h0_6])), (h1, .inl (ch1, 144, .inl (upd f_7 (z_8 : Int32).toNatClampNeg z_10)))] := hD
  generalize (upd f_7 (z_8 : Int32).toNatClampNeg z_10) = f_12 at hP hD
  refine lv_aload_n hx hb dX6_tell_34 rfl (lv_at hl 1 rfl) ?_
  refine va_get (D := (dC, dI)) (ci := 6) (v := .ref h1) (C := RX6) (T := TX6) (N := 7) hx hb hts hiX6 hown hK hP 0 rfl rfl 1 (by decide) w__fieldLink_RX6_15_ShellHeap_Readers_told_I_ (fun _ h9 => h9) rfl dX6_tell_35 ?_
  refine lv_iload hx hb dX6_tell_38 (lv_at hl 0 rfl) ?_
  refine lv_iconst (v := 2) hx hb dX6_tell_40 (by decide) ?_
  refine lv_iadd hx hb dX6_tell_41 ?_
  refine lv_topi (fun z_13 ez_13 => ?_)
  have kz_13 : (z_13).toInt = (z_3).toInt + (2 : Int) := by rw [ez_13]; exact z_add (a := (z_3).toInt) (b := (2 : Int)) rfl rfl (by omega) (by omega)
  refine lv_dup2_11 hx hb dX6_tell_42 rfl rfl ?_
  refine va_iald hx hb hK hP 1 0 rfl rfl (z_vpin (by omega) (by omega)) dX6_tell_43 ?_
  refine lv_topi (fun z_14 ez_14 => ?_)
  refine lv_iload hx hb dX6_tell_44 (lv_at hl 6 rfl) ?_
  refine lv_iadd hx hb dX6_tell_46 ?_
  refine lv_topi (fun z_15 ez_15 => ?_)
  refine va_iast hx hb hK hP hD hS 1 0 rfl rfl (z_vpin (by omega) (by omega)) dX6_tell_47 (fun H_16 locs hP hD hS => ?_)
  have hP : va_P (dC, dI) vwCl [(h0, .inr (6, [h0_0, .ref h1, h0_2, h0_3, h0_4, h0_5, h0_6])), (h1, .inl (ch1, 144, .inl (upd f_12 (z_13 : Int32).toNatClampNeg z_15)))] H_16 := hP
  have hD : va_D A [(h0, .inr (6, [h0_0, .ref h1, h0_2, h0_3, h0_4, h0_5, h0_6])), (h1, .inl (ch1, 144, .inl (upd f_12 (z_13 : Int32).toNatClampNeg z_15)))] := hD
  generalize (upd f_12 (z_13 : Int32).toNatClampNeg z_15) = f_17 at hP hD
  refine lv_aload_n hx hb dX6_tell_48 rfl (lv_at hl 1 rfl) ?_
  refine va_get (D := (dC, dI)) (ci := 6) (v := .ref h1) (C := RX6) (T := TX6) (N := 7) hx hb hts hiX6 hown hK hP 0 rfl rfl 1 (by decide) w__fieldLink_RX6_15_ShellHeap_Readers_told_I_ (fun _ h9 => h9) rfl dX6_tell_49 ?_
  refine lv_iload hx hb dX6_tell_52 (lv_at hl 0 rfl) ?_
  refine lv_iconst (v := 3) hx hb dX6_tell_54 (by decide) ?_
  refine lv_iadd hx hb dX6_tell_55 ?_
  refine lv_topi (fun z_18 ez_18 => ?_)
  have kz_18 : (z_18).toInt = (z_3).toInt + (3 : Int) := by rw [ez_18]; exact z_add (a := (z_3).toInt) (b := (3 : Int)) rfl rfl (by omega) (by omega)
  refine lv_dup2_11 hx hb dX6_tell_56 rfl rfl ?_
  refine va_iald hx hb hK hP 1 0 rfl rfl (z_vpin (by omega) (by omega)) dX6_tell_57 ?_
  refine lv_topi (fun z_19 ez_19 => ?_)
  refine lv_iload hx hb dX6_tell_58 (lv_at hl 7 rfl) ?_
  refine lv_iadd hx hb dX6_tell_60 ?_
  refine lv_topi (fun z_20 ez_20 => ?_)
  refine va_iast hx hb hK hP hD hS 1 0 rfl rfl (z_vpin (by omega) (by omega)) dX6_tell_61 (fun H_21 locs hP hD hS => ?_)
  have hP : va_P (dC, dI) vwCl [(h0, .inr (6, [h0_0, .ref h1, h0_2, h0_3, h0_4, h0_5, h0_6])), (h1, .inl (ch1, 144, .inl (upd f_17 (z_18 : Int32).toNatClampNeg z_20)))] H_21 := hP
  have hD : va_D A [(h0, .inr (6, [h0_0, .ref h1, h0_2, h0_3, h0_4, h0_5, h0_6])), (h1, .inl (ch1, 144, .inl (upd f_17 (z_18 : Int32).toNatClampNeg z_20)))] := hD
  generalize (upd f_17 (z_18 : Int32).toNatClampNeg z_20) = f_22 at hP hD
  have hP9 := hP.sub (ws' := [(h0, .inr (6, [h0_0, .ref h1, h0_2, h0_3, h0_4, h0_5, h0_6])), (h1, .inl (ch1, 144, .inl f_22))]) [0, 1] rfl
  have hD9 := hD.sub (ws' := [(h0, .inr (6, [h0_0, .ref h1, h0_2, h0_3, h0_4, h0_5, h0_6])), (h1, .inl (ch1, 144, .inl f_22))]) [0, 1] (by decide) rfl
  have hK9 := hK.sub (tys' := []) [] rfl
  refine W.widen (k := 0) (n := 0) (Nat.le_of_ble_eq_true rfl) (Nat.le_of_ble_eq_true rfl) ?_
  exact W.vret hx hb hr (fun t ht hW => ⟨⟨(), rfl, trivial, ⟨f_22, by rw [ht]; exact hP9, va_K.moved hW.alike hK9, hD9⟩⟩, hS.F ht⟩) hS.2.2 dX6_tell_62
def u_s_X6_sum : List Cond := .code yX6_sum cX6_sum 6 (some .int) :: ([.fieldLink RX6 18 "ShellHeap$Readers" "ofBed" "[I", .fieldLink RX6 15 "ShellHeap$Readers" "told" "[I"] ++ wsX60)
set_option maxHeartbeats 4000000 in
set_option maxRecDepth 100000 in
theorem s_X6_sum (l : Launch) (dC : Nat → ClassId) (dI : Nat → Nat → Nat) (sz : Nat) (h0 : Nat) (p1 : Int32) (p2 : Int32) (h0_0 : Value) (h1 : Nat) (h2 : Nat) (h0_3 : Value) (h0_4 : Value) (h0_5 : Value) (h0_6 : Value) (ch1 : ClassId) (fh1 : Nat → Int32) (ch2 : ClassId) (fh2 : Nat → Int32) (hB_p2 : ((0 : Int) ≤ (p2).toInt ∧ (p2).toInt ≤ (2 : Int))) : Met l yX6_sum u_s_X6_sum ({ frames := 0, cells := 0, slots := 0, locals := 0 }) (va_Pc [.ref h0, .int p1, .int p2] (z_C (dC, dI) vwCl [(h0, .inr (6, [h0_0, .ref h1, .ref h2, h0_3, h0_4, h0_5, h0_6])), (h1, .inl (ch1, 144, .inl fh1)), (h2, .inl (ch2, 4, .inl fh2))] [(ch1, .int), (ch2, .int)] sz)) (va_Qi (fun (r : Int32) (_ : Unit) => True) (fun (_ : Unit) (t : State) => ∃ (g_h2 : Nat → Int32), va_P (dC, dI) vwCl [(h0, .inr (6, [h0_0, .ref h1, .ref h2, h0_3, h0_4, h0_5, h0_6])), (h1, .inl (ch1, 144, .inl fh1)), (h2, .inl (ch2, 4, .inl g_h2))] t.heap ∧ va_K (dC, dI) vwCl [] t ∧ va_D (va_A [(h0, .inr (6, [h0_0, .ref h1, .ref h2, h0_3, h0_4, h0_5, h0_6])), (h1, .inl (ch1, 144, .inl fh1)), (h2, .inl (ch2, 4, .inl fh2))] sz) [(h0, .inr (6, [h0_0, .ref h1, .ref h2, h0_3, h0_4, h0_5, h0_6])), (h1, .inl (ch1, 144, .inl fh1)), (h2, .inl (ch2, 4, .inl g_h2))]) (va_A [(h0, .inr (6, [h0_0, .ref h1, .ref h2, h0_3, h0_4, h0_5, h0_6])), (h1, .inl (ch1, 144, .inl fh1)), (h2, .inl (ch2, 4, .inl fh2))] sz)) 0 0 (va_A [(h0, .inr (6, [h0_0, .ref h1, .ref h2, h0_3, h0_4, h0_5, h0_6])), (h1, .inl (ch1, 144, .inl fh1)), (h2, .inl (ch2, 4, .inl fh2))] sz) := by
  refine Met.ofW (cc := cX6_sum) (maxL := 6) (ret := (some .int)) (by decide) rfl ?_
  intro p e s m args below meth c s₁ B hml hv
  obtain ⟨rfl, hsz, hP, hK, hD0⟩ := hv
  have hx := B.exec
  have hb := B.bytes
  have hr := B.returns
  have hts := atoms_spec (ws := u_s_X6_sum) B.pre
  have hown : s.vm.findClass RX6 = some m.cls := findClass_of_methodNamed B.named
  have hlocks := B.notSynchronized
  subst hsz
  have hD := hD0.self (sz := s.heap.size)
  generalize hAe : va_A [(h0, .inr (6, [h0_0, .ref h1, .ref h2, h0_3, h0_4, h0_5, h0_6])), (h1, .inl (ch1, 144, .inl fh1)), (h2, .inl (ch2, 4, .inl fh2))] s.heap.size = A at hD ⊢
  have hA : ∀ q : Nat, s.heap.size ≤ q → A q := fun q h => by rw [← hAe]; exact Or.inr h
  have hS : va_S A s.heap s.heap [] := va_S.rf
  have hP : va_P (dC, dI) vwCl [(h0, .inr (6, [h0_0, .ref h1, .ref h2, h0_3, h0_4, h0_5, h0_6])), (h1, .inl (ch1, 144, .inl fh1)), (h2, .inl (ch2, 4, .inl fh2))] s.heap := hP
  have w__fieldLink_RX6_18_ShellHeap_Readers_ofBed_I_ := hts (.fieldLink RX6 18 "ShellHeap$Readers" "ofBed" "[I") (by decide +kernel)
  have hiX6 := show ∀ w ∈ u_ws RX6 TX6 7, w ∈ u_s_X6_sum by decide +kernel
  have w__fieldLink_RX6_15_ShellHeap_Readers_told_I_ := hts (.fieldLink RX6 15 "ShellHeap$Readers" "told" "[I") (by decide +kernel)
  have krr_p1 := z_rng p1
  have hl := lv_entry ([.ref h0, .int p1, .int p2]) (n := 6) (Nat.le_of_ble_eq_true rfl)
  rw [lg_entry_eq]
  generalize (lg_sl ([.ref h0, .int p1, .int p2]) ++ List.replicate (6 - (lg_sl ([.ref h0, .int p1, .int p2])).length) Slot.unset).toArray = ls at hl ⊢
  have hl : lv_has ls 6 [(0, .ref h0), (1, .int p1), (2, .int p2)] := hl
  refine z_nameQ (fun QQ hQQ => ?_)
  refine lv_iconst (v := 0) hx hb dX6_sum_0 (by decide) ?_
  refine lv_istore_n (lv' := [(3, .int 0), (0, .ref h0), (1, .int p1), (2, .int p2)]) hx hb dX6_sum_1 rfl hl (by decide) rfl (fun ls hl => ?_)
  refine lv_iconst (v := 0) hx hb dX6_sum_2 (by decide) ?_
  refine lv_istore (lv' := [(4, .int 0), (3, .int 0), (0, .ref h0), (1, .int p1), (2, .int p2)]) hx hb dX6_sum_3 hl (by decide) rfl (fun ls hl => ?_)
  have loop_1 : ∀ (n_2 : Nat) (i_4 : Int32) (n_5 : Int32) (f_6 : Nat → Int32) (H : Heap) (locs : List Loc) (ls : Array Slot), (5 - (i_4).toInt).toNat < n_2 → (((0 : Int) ≤ (i_4).toInt ∧ (i_4).toInt ≤ (4 : Int))) → va_P (dC, dI) vwCl [(h0, .inr (6, [h0_0, .ref h1, .ref h2, h0_3, h0_4, h0_5, h0_6])), (h1, .inl (ch1, 144, .inl fh1)), (h2, .inl (ch2, 4, .inl f_6))] H → va_D A [(h0, .inr (6, [h0_0, .ref h1, .ref h2, h0_3, h0_4, h0_5, h0_6])), (h1, .inl (ch1, 144, .inl fh1)), (h2, .inl (ch2, 4, .inl f_6))] → va_S A s.heap H locs → lv_has ls 6 [(4, .int i_4), (3, .int n_5), (0, .ref h0), (1, .int p1), (2, .int p2)] → W p l e ({ frames := 0, cells := 0, slots := 0, locals := 0 } : Room) s m ([.ref h0, .int p1, .int p2] : List Value).toArray below meth c H locs 0 0 QQ (F0 m 5 ls []) := by
    intro n_2
    induction n_2 with
    | zero => intro i_4 n_5 f_6 H locs ls hm; exact absurd hm (Nat.not_lt_zero _)
    | succ n_2 ih_3 =>
      intro i_4 n_5 f_6 H locs ls hm hF_7 hP hD hS hl
      refine lv_iload hx hb dX6_sum_5 (lv_at hl 0 rfl) ?_
      refine lv_iconst (v := 4) hx hb dX6_sum_7 (by decide) ?_
      refine lv_icmp_ge (tgt := 86) hx hb dX6_sum_8 (by decide) (fun c_8 => ?_) (fun c_8 => ?_)
      · have k_9 : (4 : Int) ≤ (i_4).toInt := z_le c_8
        obtain rfl : i_4 = 4 := z_eq' (show (i_4).toInt = (4 : Int) by omega)
        refine lv_iload_n hx hb dX6_sum_86 rfl (lv_at hl 1 rfl) ?_
        refine z_backQ hQQ ?_
        have hP9 := hP.sub (ws' := [(h0, .inr (6, [h0_0, .ref h1, .ref h2, h0_3, h0_4, h0_5, h0_6])), (h1, .inl (ch1, 144, .inl fh1)), (h2, .inl (ch2, 4, .inl f_6))]) [0, 1, 2] rfl
        have hD9 := hD.sub (ws' := [(h0, .inr (6, [h0_0, .ref h1, .ref h2, h0_3, h0_4, h0_5, h0_6])), (h1, .inl (ch1, 144, .inl fh1)), (h2, .inl (ch2, 4, .inl f_6))]) [0, 1, 2] (by decide) rfl
        have hK9 := hK.sub (tys' := []) [] rfl
        refine W.widen (k := 0) (n := 0) (Nat.le_of_ble_eq_true rfl) (Nat.le_of_ble_eq_true rfl) ?_
        exact W.iret (v := n_5) hx hb hr (fun t ht hW => ⟨⟨n_5, (), rfl, trivial, ⟨f_6, by rw [ht]; exact hP9, va_K.moved hW.alike hK9, hD9⟩⟩, hS.F ht⟩) hS.2.2 dX6_sum_87
      · have k_10 : (4 : Int) > (i_4).toInt := z_nle c_8
        refine lv_aload_n hx hb dX6_sum_11 rfl (lv_at hl 2 rfl) ?_
        refine va_get (D := (dC, dI)) (ci := 6) (v := .ref h2) (C := RX6) (T := TX6) (N := 7) hx hb hts hiX6 hown hK hP 0 rfl rfl 2 (by decide) w__fieldLink_RX6_18_ShellHeap_Readers_ofBed_I_ (fun _ h9 => h9) rfl dX6_sum_12 ?_
        refine lv_iload hx hb dX6_sum_15 (lv_at hl 0 rfl) ?_
        refine lv_iconst (v := 0) hx hb dX6_sum_17 (by decide) ?_
        refine va_iast hx hb hK hP hD hS 2 1 rfl rfl (z_vpin (by omega) (by omega)) dX6_sum_18 (fun H_11 locs hP hD hS => ?_)
        have hP : va_P (dC, dI) vwCl [(h0, .inr (6, [h0_0, .ref h1, .ref h2, h0_3, h0_4, h0_5, h0_6])), (h1, .inl (ch1, 144, .inl fh1)), (h2, .inl (ch2, 4, .inl (upd f_6 (i_4 : Int32).toNatClampNeg 0)))] H_11 := hP
        have hD : va_D A [(h0, .inr (6, [h0_0, .ref h1, .ref h2, h0_3, h0_4, h0_5, h0_6])), (h1, .inl (ch1, 144, .inl fh1)), (h2, .inl (ch2, 4, .inl (upd f_6 (i_4 : Int32).toNatClampNeg 0)))] := hD
        generalize (upd f_6 (i_4 : Int32).toNatClampNeg 0) = f_12 at hP hD
        refine lv_iconst (v := 0) hx hb dX6_sum_19 (by decide) ?_
        refine lv_istore (lv' := [(5, .int 0), (4, .int i_4), (3, .int n_5), (0, .ref h0), (1, .int p1), (2, .int p2)]) hx hb dX6_sum_20 hl (by decide) rfl (fun ls hl => ?_)
        have loop_13 : ∀ (n_14 : Nat) (i_16 : Int32) (f_17 : Nat → Int32) (H : Heap) (locs : List Loc) (ls : Array Slot), (13 - (i_16).toInt).toNat < n_14 → (((0 : Int) ≤ (i_16).toInt ∧ (i_16).toInt ≤ (12 : Int))) → va_P (dC, dI) vwCl [(h0, .inr (6, [h0_0, .ref h1, .ref h2, h0_3, h0_4, h0_5, h0_6])), (h1, .inl (ch1, 144, .inl fh1)), (h2, .inl (ch2, 4, .inl f_17))] H → va_D A [(h0, .inr (6, [h0_0, .ref h1, .ref h2, h0_3, h0_4, h0_5, h0_6])), (h1, .inl (ch1, 144, .inl fh1)), (h2, .inl (ch2, 4, .inl f_17))] → va_S A s.heap H locs → lv_has ls 6 [(5, .int i_16), (4, .int i_4), (3, .int n_5), (0, .ref h0), (1, .int p1), (2, .int p2)] → W p l e ({ frames := 0, cells := 0, slots := 0, locals := 0 } : Room) s m ([.ref h0, .int p1, .int p2] : List Value).toArray below meth c H locs 0 0 QQ (F0 m 22 ls []) := by
          intro n_14
          induction n_14 with
          | zero => intro i_16 f_17 H locs ls hm; exact absurd hm (Nat.not_lt_zero _)
          | succ n_14 ih_15 =>
            intro i_16 f_17 H locs ls hm hF_18 hP hD hS hl
            refine lv_iload hx hb dX6_sum_22 (lv_at hl 0 rfl) ?_
            refine lv_bipush (v := 12) hx hb dX6_sum_24 (by decide) ?_
            refine lv_icmp_ge (tgt := 70) hx hb dX6_sum_26 (by decide) (fun c_19 => ?_) (fun c_19 => ?_)
            · have k_20 : (12 : Int) ≤ (i_16).toInt := z_le c_19
              obtain rfl : i_16 = 12 := z_eq' (show (i_16).toInt = (12 : Int) by omega)
              refine lv_iload_n hx hb dX6_sum_70 rfl (lv_at hl 2 rfl) ?_
              refine lv_aload_n hx hb dX6_sum_71 rfl (lv_at hl 3 rfl) ?_
              refine va_get (D := (dC, dI)) (ci := 6) (v := .ref h2) (C := RX6) (T := TX6) (N := 7) hx hb hts hiX6 hown hK hP 0 rfl rfl 2 (by decide) w__fieldLink_RX6_18_ShellHeap_Readers_ofBed_I_ (fun _ h9 => h9) rfl dX6_sum_72 ?_
              refine lv_iload hx hb dX6_sum_75 (lv_at hl 1 rfl) ?_
              refine va_iald hx hb hK hP 2 1 rfl rfl (z_vpin (by omega) (by omega)) dX6_sum_77 ?_
              refine lv_topi (fun z_21 ez_21 => ?_)
              refine lv_iadd hx hb dX6_sum_78 ?_
              refine lv_topi (fun z_22 ez_22 => ?_)
              refine lv_istore_n (lv' := [(3, .int z_22), (5, .int 12), (4, .int i_4), (0, .ref h0), (1, .int p1), (2, .int p2)]) hx hb dX6_sum_79 rfl hl (by decide) rfl (fun ls hl => ?_)
              obtain ⟨z_23, ez_23⟩ : ∃ y : Int32, y = i_4 + 1 := ⟨_, rfl⟩
              have kz_23 : (z_23).toInt = (i_4).toInt + (1 : Int) := by rw [ez_23]; exact z_add (b := 1) rfl rfl (by omega) (by omega)
              refine lv_iinc (v := z_23) (lv' := [(4, .int z_23), (3, .int z_22), (5, .int 12), (0, .ref h0), (1, .int p1), (2, .int p2)]) hx hb dX6_sum_80 hl (k := 2) rfl (by rw [ez_23]; rfl) (by decide) rfl (fun ls hl => ?_)
              refine lv_goto (tgt := 5) hx hb dX6_sum_83 (by decide) ?_
              exact ih_3 z_23 z_22 f_17 _ _ _ (show (5 - (z_23).toInt).toNat < n_2 by omega) (show ((0 : Int) ≤ (z_23).toInt ∧ (z_23).toInt ≤ (4 : Int)) by omega) hP hD hS (lv_sub hl [0, 1, 3, 4, 5] rfl)
            · have k_24 : (12 : Int) > (i_16).toInt := z_nle c_19
              refine lv_iload_n hx hb dX6_sum_29 rfl (lv_at hl 4 rfl) ?_
              refine lv_iload hx hb dX6_sum_30 (lv_at hl 0 rfl) ?_
              refine lv_ishr hx hb dX6_sum_32 ?_
              refine lv_topi (fun z_25 ez_25 => ?_)
              refine lv_iconst (v := 1) hx hb dX6_sum_33 (by decide) ?_
              refine lv_iand hx hb dX6_sum_34 ?_
              refine lv_topi (fun z_26 ez_26 => ?_)
              have kz_26 : (0 : Int) ≤ (z_26).toInt ∧ (z_26).toInt ≤ (1 : Int) := by rw [ez_26]; exact z_and _ 1 (by decide) (by decide)
              refine lv_if_eq (tgt := 64) hx hb dX6_sum_35 (by decide) (fun c_27 => ?_) (fun c_27 => ?_)
              · have k_28 : (z_26).toInt = (0 : Int) := z_eq c_27
                obtain rfl : z_26 = 0 := z_eq' (show (z_26).toInt = (0 : Int) by omega)
                obtain ⟨z_29, ez_29⟩ : ∃ y : Int32, y = i_16 + 1 := ⟨_, rfl⟩
                have kz_29 : (z_29).toInt = (i_16).toInt + (1 : Int) := by rw [ez_29]; exact z_add (b := 1) rfl rfl (by omega) (by omega)
                refine lv_iinc (v := z_29) (lv' := [(5, .int z_29), (4, .int i_4), (3, .int n_5), (0, .ref h0), (1, .int p1), (2, .int p2)]) hx hb dX6_sum_64 hl (k := 0) rfl (by rw [ez_29]; rfl) (by decide) rfl (fun ls hl => ?_)
                refine lv_goto (tgt := 22) hx hb dX6_sum_67 (by decide) ?_
                exact ih_15 z_29 f_17 _ _ _ (show (13 - (z_29).toInt).toNat < n_14 by omega) (show ((0 : Int) ≤ (z_29).toInt ∧ (z_29).toInt ≤ (12 : Int)) by omega) hP hD hS (lv_sub hl [0, 1, 2, 3, 4, 5] rfl)
              · have k_30 : (z_26).toInt ≠ (0 : Int) := z_ne c_27
                obtain rfl : z_26 = 1 := z_eq' (show (z_26).toInt = (1 : Int) by omega)
                refine lv_aload_n hx hb dX6_sum_38 rfl (lv_at hl 3 rfl) ?_
                refine va_get (D := (dC, dI)) (ci := 6) (v := .ref h2) (C := RX6) (T := TX6) (N := 7) hx hb hts hiX6 hown hK hP 0 rfl rfl 2 (by decide) w__fieldLink_RX6_18_ShellHeap_Readers_ofBed_I_ (fun _ h9 => h9) rfl dX6_sum_39 ?_
                refine lv_iload hx hb dX6_sum_42 (lv_at hl 1 rfl) ?_
                refine lv_dup2_11 hx hb dX6_sum_44 rfl rfl ?_
                refine va_iald hx hb hK hP 2 1 rfl rfl (z_vpin (by omega) (by omega)) dX6_sum_45 ?_
                refine lv_topi (fun z_31 ez_31 => ?_)
                refine lv_aload_n hx hb dX6_sum_46 rfl (lv_at hl 3 rfl) ?_
                refine va_get (D := (dC, dI)) (ci := 6) (v := .ref h1) (C := RX6) (T := TX6) (N := 7) hx hb hts hiX6 hown hK hP 0 rfl rfl 1 (by decide) w__fieldLink_RX6_15_ShellHeap_Readers_told_I_ (fun _ h9 => h9) rfl dX6_sum_47 ?_
                refine lv_iload hx hb dX6_sum_50 (lv_at hl 0 rfl) ?_
                refine lv_iconst (v := 3) hx hb dX6_sum_52 (by decide) ?_
                refine lv_imul hx hb dX6_sum_53 ?_
                refine lv_topi (fun z_32 ez_32 => ?_)
                have kz_32 : (z_32).toInt = (i_16).toInt * (3 : Int) := by rw [ez_32]; exact z_mul (a := (i_16).toInt) (b := (3 : Int)) rfl rfl (by omega) (by omega)
                refine lv_iload_n hx hb dX6_sum_54 rfl (lv_at hl 5 rfl) ?_
                refine lv_iadd hx hb dX6_sum_55 ?_
                refine lv_topi (fun z_33 ez_33 => ?_)
                have kz_33 : (z_33).toInt = (z_32).toInt + (p2).toInt := by rw [ez_33]; exact z_add (a := (z_32).toInt) (b := (p2).toInt) rfl rfl (by omega) (by omega)
                refine lv_iconst (v := 4) hx hb dX6_sum_56 (by decide) ?_
                refine lv_imul hx hb dX6_sum_57 ?_
                refine lv_topi (fun z_34 ez_34 => ?_)
                have kz_34 : (z_34).toInt = (z_33).toInt * (4 : Int) := by rw [ez_34]; exact z_mul (a := (z_33).toInt) (b := (4 : Int)) rfl rfl (by omega) (by omega)
                refine lv_iload hx hb dX6_sum_58 (lv_at hl 1 rfl) ?_
                refine lv_iadd hx hb dX6_sum_60 ?_
                refine lv_topi (fun z_35 ez_35 => ?_)
                have kz_35 : (z_35).toInt = (z_34).toInt + (i_4).toInt := by rw [ez_35]; exact z_add (a := (z_34).toInt) (b := (i_4).toInt) rfl rfl (by omega) (by omega)
                refine va_iald hx hb hK hP 1 0 rfl rfl (z_vpin (by omega) (by omega)) dX6_sum_61 ?_
                refine lv_topi (fun z_36 ez_36 => ?_)
                refine lv_iadd hx hb dX6_sum_62 ?_
                refine lv_topi (fun z_37 ez_37 => ?_)
                refine va_iast hx hb hK hP hD hS 2 1 rfl rfl (z_vpin (by omega) (by omega)) dX6_sum_63 (fun H_38 locs hP hD hS => ?_)
                have hP : va_P (dC, dI) vwCl [(h0, .inr (6, [h0_0, .ref h1, .ref h2, h0_3, h0_4, h0_5, h0_6])), (h1, .inl (ch1, 144, .inl fh1)), (h2, .inl (ch2, 4, .inl (upd f_17 (i_4 : Int32).toNatClampNeg z_37)))] H_38 := hP
                have hD : va_D A [(h0, .inr (6, [h0_0, .ref h1, .ref h2, h0_3, h0_4, h0_5, h0_6])), (h1, .inl (ch1, 144, .inl fh1)), (h2, .inl (ch2, 4, .inl (upd f_17 (i_4 : Int32).toNatClampNeg z_37)))] := hD
                generalize (upd f_17 (i_4 : Int32).toNatClampNeg z_37) = f_39 at hP hD
                obtain ⟨z_40, ez_40⟩ : ∃ y : Int32, y = i_16 + 1 := ⟨_, rfl⟩
                have kz_40 : (z_40).toInt = (i_16).toInt + (1 : Int) := by rw [ez_40]; exact z_add (b := 1) rfl rfl (by omega) (by omega)
                refine lv_iinc (v := z_40) (lv' := [(5, .int z_40), (4, .int i_4), (3, .int n_5), (0, .ref h0), (1, .int p1), (2, .int p2)]) hx hb dX6_sum_64 hl (k := 0) rfl (by rw [ez_40]; rfl) (by decide) rfl (fun ls hl => ?_)
                refine lv_goto (tgt := 22) hx hb dX6_sum_67 (by decide) ?_
                exact ih_15 z_40 f_39 _ _ _ (show (13 - (z_40).toInt).toNat < n_14 by omega) (show ((0 : Int) ≤ (z_40).toInt ∧ (z_40).toInt ≤ (12 : Int)) by omega) hP hD hS (lv_sub hl [0, 1, 2, 3, 4, 5] rfl)
        exact loop_13 _ 0 f_12 _ _ _ (Nat.lt_succ_self _) (show ((0 : Int) ≤ (0 : Int) ∧ (0 : Int) ≤ (12 : Int)) by omega) hP hD hS hl
  exact loop_1 _ 0 0 fh2 _ _ _ (Nat.lt_succ_self _) (show ((0 : Int) ≤ (0 : Int) ∧ (0 : Int) ≤ (4 : Int)) by omega) hP hD hS hl
def u_s_X6_missAt : List Cond := .code yX6_missAt cX6_missAt 5 (some .int) :: ([.fieldLink RX6 21 "ShellHeap$Readers" "gaps" "[I", .fieldLink RX6 24 "ShellHeap$Readers" "steps" "[I"] ++ wsX60)
set_option maxHeartbeats 4000000 in
set_option maxRecDepth 100000 in
theorem s_X6_missAt (l : Launch) (dC : Nat → ClassId) (dI : Nat → Nat → Nat) (sz : Nat) (h0 : Nat) (p1 : Int32) (h0_0 : Value) (h0_1 : Value) (h0_2 : Value) (h1 : Nat) (h2 : Nat) (h0_5 : Value) (h0_6 : Value) (ch1 : ClassId) (fh1 : Nat → Int32) (ch2 : ClassId) (fh2 : Nat → Int32) : Met l yX6_missAt u_s_X6_missAt ({ frames := 0, cells := 0, slots := 0, locals := 0 }) (va_Pc [.ref h0, .int p1] (z_C (dC, dI) vwCl [(h0, .inr (6, [h0_0, h0_1, h0_2, .ref h1, .ref h2, h0_5, h0_6])), (h1, .inl (ch1, 4, .inl fh1)), (h2, .inl (ch2, 4, .inl fh2))] [(ch1, .int), (ch2, .int)] sz)) (va_Qi (fun (r : Int32) (_ : Unit) => True) (fun (_ : Unit) (_ : State) => True) (va_A [] sz)) 0 0 (va_A [] sz) := by
  refine Met.ofW (cc := cX6_missAt) (maxL := 5) (ret := (some .int)) (by decide) rfl ?_
  intro p e s m args below meth c s₁ B hml hv
  obtain ⟨rfl, hsz, hP, hK, hD0⟩ := hv
  have hx := B.exec
  have hb := B.bytes
  have hr := B.returns
  have hts := atoms_spec (ws := u_s_X6_missAt) B.pre
  have hown : s.vm.findClass RX6 = some m.cls := findClass_of_methodNamed B.named
  have hlocks := B.notSynchronized
  subst hsz
  have hD := hD0
  generalize hAe : va_A [] s.heap.size = A
  have hA : ∀ q : Nat, s.heap.size ≤ q → A q := fun q h => by rw [← hAe]; exact Or.inr h
  have hS : va_S A s.heap s.heap [] := va_S.rf
  have hP : va_P (dC, dI) vwCl [(h0, .inr (6, [h0_0, h0_1, h0_2, .ref h1, .ref h2, h0_5, h0_6])), (h1, .inl (ch1, 4, .inl fh1)), (h2, .inl (ch2, 4, .inl fh2))] s.heap := hP
  have w__fieldLink_RX6_21_ShellHeap_Readers_gaps_I_ := hts (.fieldLink RX6 21 "ShellHeap$Readers" "gaps" "[I") (by decide +kernel)
  have hiX6 := show ∀ w ∈ u_ws RX6 TX6 7, w ∈ u_s_X6_missAt by decide +kernel
  have w__fieldLink_RX6_24_ShellHeap_Readers_steps_I_ := hts (.fieldLink RX6 24 "ShellHeap$Readers" "steps" "[I") (by decide +kernel)
  have krr_p1 := z_rng p1
  have hl := lv_entry ([.ref h0, .int p1]) (n := 5) (Nat.le_of_ble_eq_true rfl)
  rw [lg_entry_eq]
  generalize (lg_sl ([.ref h0, .int p1]) ++ List.replicate (5 - (lg_sl ([.ref h0, .int p1])).length) Slot.unset).toArray = ls at hl ⊢
  have hl : lv_has ls 5 [(0, .ref h0), (1, .int p1)] := hl
  refine z_nameQ (fun QQ hQQ => ?_)
  refine lv_iconst (v := 0) hx hb dX6_missAt_0 (by decide) ?_
  refine lv_istore_n (lv' := [(2, .int 0), (0, .ref h0), (1, .int p1)]) hx hb dX6_missAt_1 rfl hl (by decide) rfl (fun ls hl => ?_)
  refine lv_iconst (v := 0) hx hb dX6_missAt_2 (by decide) ?_
  refine lv_istore_n (lv' := [(3, .int 0), (2, .int 0), (0, .ref h0), (1, .int p1)]) hx hb dX6_missAt_3 rfl hl (by decide) rfl (fun ls hl => ?_)
  have loop_1 : ∀ (n_2 : Nat) (i_4 : Int32) (n_5 : Int32) (H : Heap) (locs : List Loc) (ls : Array Slot), (5 - (i_4).toInt).toNat < n_2 → (((0 : Int) ≤ (i_4).toInt ∧ (i_4).toInt ≤ (4 : Int))) → va_P (dC, dI) vwCl [(h0, .inr (6, [h0_0, h0_1, h0_2, .ref h1, .ref h2, h0_5, h0_6])), (h1, .inl (ch1, 4, .inl fh1)), (h2, .inl (ch2, 4, .inl fh2))] H → va_D (fun _ => True) [(h0, .inr (6, [h0_0, h0_1, h0_2, .ref h1, .ref h2, h0_5, h0_6])), (h1, .inl (ch1, 4, .inl fh1)), (h2, .inl (ch2, 4, .inl fh2))] → va_S A s.heap H locs → lv_has ls 5 [(3, .int i_4), (2, .int n_5), (0, .ref h0), (1, .int p1)] → W p l e ({ frames := 0, cells := 0, slots := 0, locals := 0 } : Room) s m ([.ref h0, .int p1] : List Value).toArray below meth c H locs 0 0 QQ (F0 m 4 ls []) := by
    intro n_2
    induction n_2 with
    | zero => intro i_4 n_5 H locs ls hm; exact absurd hm (Nat.not_lt_zero _)
    | succ n_2 ih_3 =>
      intro i_4 n_5 H locs ls hm hF_6 hP hD hS hl
      refine lv_iload_n hx hb dX6_missAt_4 rfl (lv_at hl 0 rfl) ?_
      refine lv_iconst (v := 4) hx hb dX6_missAt_5 (by decide) ?_
      refine lv_icmp_ge (tgt := 40) hx hb dX6_missAt_6 (by decide) (fun c_7 => ?_) (fun c_7 => ?_)
      · have k_8 : (4 : Int) ≤ (i_4).toInt := z_le c_7
        obtain rfl : i_4 = 4 := z_eq' (show (i_4).toInt = (4 : Int) by omega)
        refine lv_iload_n hx hb dX6_missAt_40 rfl (lv_at hl 1 rfl) ?_
        refine z_backQ hQQ ?_
        refine W.widen (k := 0) (n := 0) (Nat.le_of_ble_eq_true rfl) (Nat.le_of_ble_eq_true rfl) ?_
        exact W.iret (v := n_5) hx hb hr (fun t ht hW => ⟨⟨n_5, (), rfl, trivial, trivial⟩, hS.F ht⟩) hS.2.2 dX6_missAt_41
      · have k_9 : (4 : Int) > (i_4).toInt := z_nle c_7
        refine lv_aload_n hx hb dX6_missAt_9 rfl (lv_at hl 2 rfl) ?_
        refine va_get (D := (dC, dI)) (ci := 6) (v := .ref h1) (C := RX6) (T := TX6) (N := 7) hx hb hts hiX6 hown hK hP 0 rfl rfl 3 (by decide) w__fieldLink_RX6_21_ShellHeap_Readers_gaps_I_ (fun _ h9 => h9) rfl dX6_missAt_10 ?_
        refine lv_iload_n hx hb dX6_missAt_13 rfl (lv_at hl 0 rfl) ?_
        refine va_iald hx hb hK hP 1 0 rfl rfl (z_vpin (by omega) (by omega)) dX6_missAt_14 ?_
        refine lv_topi (fun z_10 ez_10 => ?_)
        refine lv_iload_n hx hb dX6_missAt_15 rfl (lv_at hl 3 rfl) ?_
        refine lv_aload_n hx hb dX6_missAt_16 rfl (lv_at hl 2 rfl) ?_
        refine va_get (D := (dC, dI)) (ci := 6) (v := .ref h2) (C := RX6) (T := TX6) (N := 7) hx hb hts hiX6 hown hK hP 0 rfl rfl 4 (by decide) w__fieldLink_RX6_24_ShellHeap_Readers_steps_I_ (fun _ h9 => h9) rfl dX6_missAt_17 ?_
        refine lv_iload_n hx hb dX6_missAt_20 rfl (lv_at hl 0 rfl) ?_
        refine va_iald hx hb hK hP 2 1 rfl rfl (z_vpin (by omega) (by omega)) dX6_missAt_21 ?_
        refine lv_topi (fun z_11 ez_11 => ?_)
        refine lv_imul hx hb dX6_missAt_22 ?_
        refine lv_topi (fun z_12 ez_12 => ?_)
        refine lv_isub hx hb dX6_missAt_23 ?_
        refine lv_topi (fun z_13 ez_13 => ?_)
        refine lv_istore (lv' := [(4, .int z_13), (3, .int i_4), (2, .int n_5), (0, .ref h0), (1, .int p1)]) hx hb dX6_missAt_24 hl (by decide) rfl (fun ls hl => ?_)
        refine lv_iload_n hx hb dX6_missAt_26 rfl (lv_at hl 2 rfl) ?_
        refine lv_iload hx hb dX6_missAt_27 (lv_at hl 0 rfl) ?_
        refine lv_iload hx hb dX6_missAt_29 (lv_at hl 0 rfl) ?_
        refine lv_imul hx hb dX6_missAt_31 ?_
        refine lv_topi (fun z_14 ez_14 => ?_)
        refine lv_iadd hx hb dX6_missAt_32 ?_
        refine lv_topi (fun z_15 ez_15 => ?_)
        refine lv_istore_n (lv' := [(2, .int z_15), (4, .int z_13), (3, .int i_4), (0, .ref h0), (1, .int p1)]) hx hb dX6_missAt_33 rfl hl (by decide) rfl (fun ls hl => ?_)
        obtain ⟨z_16, ez_16⟩ : ∃ y : Int32, y = i_4 + 1 := ⟨_, rfl⟩
        have kz_16 : (z_16).toInt = (i_4).toInt + (1 : Int) := by rw [ez_16]; exact z_add (b := 1) rfl rfl (by omega) (by omega)
        refine lv_iinc (v := z_16) (lv' := [(3, .int z_16), (2, .int z_15), (4, .int z_13), (0, .ref h0), (1, .int p1)]) hx hb dX6_missAt_34 hl (k := 2) rfl (by rw [ez_16]; rfl) (by decide) rfl (fun ls hl => ?_)
        refine lv_goto (tgt := 4) hx hb dX6_missAt_37 (by decide) ?_
        exact ih_3 z_16 z_15 _ _ _ (show (5 - (z_16).toInt).toNat < n_2 by omega) (show ((0 : Int) ≤ (z_16).toInt ∧ (z_16).toInt ≤ (4 : Int)) by omega) hP hD hS (lv_sub hl [0, 1, 3, 4] rfl)
  exact loop_1 _ 0 0 _ _ _ (Nat.lt_succ_self _) (show ((0 : Int) ≤ (0 : Int) ∧ (0 : Int) ≤ (4 : Int)) by omega) hP hD hS hl
def u_s_X6_tryPair : List Cond := .code yX6_tryPair cX6_tryPair 10 none :: ([.methodLink RX6 47 yX6_missAt, .instanceMethod yX6_missAt, .selects RX6 yX6_missAt yX6_missAt, .initialized RX6, .code yX6_missAt cX6_missAt 5 (some .int), .fieldLink RX6 21 "ShellHeap$Readers" "gaps" "[I", .fieldLink RX6 24 "ShellHeap$Readers" "steps" "[I", .fieldLink RX6 30 "ShellHeap$Readers" "miss" "I", .fieldLink RX6 27 "ShellHeap$Readers" "died" "[I", .methodLink RX6 42 Lib.Math.min.name, .static Lib.Math.min.name, .initialized "java/lang/Math", .code Lib.Math.min.name Lib.Math.min.code 2 (some .int), .fieldLink RX6 11 "ShellHeap$Readers" "rows" "[I", .fieldLink RX6 18 "ShellHeap$Readers" "ofBed" "[I"] ++ wsX60)
set_option maxRecDepth 20000 in
theorem gw_s_X6_tryPair_s_X6_missAt_47 : GoodIn u_s_X6_tryPair (wsV RX6 47 RX6 yX6_missAt u_s_X6_missAt) := goodIn_r _ [1, 2, 3, 4, 5, 6, 7, 16, 17, 18, 19, 20, 21, 22] (by decide +kernel) (by decide +kernel)
set_option maxHeartbeats 4000000 in
set_option maxRecDepth 100000 in
theorem s_X6_tryPair (l : Launch) (dC : Nat → ClassId) (dI : Nat → Nat → Nat) (sz : Nat) (h0 : Nat) (p1 : Int32) (p2 : Int32) (p3 : Int32) (p4 : Int32) (h1 : Nat) (h0_1 : Value) (h2 : Nat) (h3 : Nat) (h4 : Nat) (h5 : Nat) (rm : Int32) (ch1 : ClassId) (fh1 : Nat → Int32) (ch2 : ClassId) (fh2 : Nat → Int32) (ch3 : ClassId) (fh3 : Nat → Int32) (ch4 : ClassId) (fh4 : Nat → Int32) (ch5 : ClassId) (fh5 : Nat → Int32) (hB_p1 : ((0 : Int) ≤ (p1).toInt ∧ (p1).toInt ≤ (2 : Int))) : Met l yX6_tryPair u_s_X6_tryPair ({ frames := 1, cells := 0, slots := 0, locals := 24 }) (va_Pc [.ref h0, .int p1, .int p2, .int p3, .int p4] (z_C (dC, dI) vwCl [(h0, .inr (6, [.ref h1, h0_1, .ref h2, .ref h3, .ref h4, .ref h5, .int rm])), (h1, .inl (ch1, 48, .inl fh1)), (h2, .inl (ch2, 4, .inl fh2)), (h3, .inl (ch3, 4, .inl fh3)), (h4, .inl (ch4, 4, .inl fh4)), (h5, .inl (ch5, 4, .inl fh5))] [(ch1, .int), (ch2, .int), (ch3, .int), (ch4, .int), (ch5, .int)] sz)) (va_Qv (fun (_ : Unit) => True) (fun (_ : Unit) (t : State) => ∃ (n_h0_miss : Int32), ∃ (g_h3 : Nat → Int32), ∃ (g_h4 : Nat → Int32), ∃ (g_h5 : Nat → Int32), va_P (dC, dI) vwCl [(h0, .inr (6, [.ref h1, h0_1, .ref h2, .ref h3, .ref h4, .ref h5, .int n_h0_miss])), (h1, .inl (ch1, 48, .inl fh1)), (h2, .inl (ch2, 4, .inl fh2)), (h3, .inl (ch3, 4, .inl g_h3)), (h4, .inl (ch4, 4, .inl g_h4)), (h5, .inl (ch5, 4, .inl g_h5))] t.heap ∧ va_K (dC, dI) vwCl [] t ∧ va_D (va_A [(h0, .inr (6, [.ref h1, h0_1, .ref h2, .ref h3, .ref h4, .ref h5, .int rm])), (h1, .inl (ch1, 48, .inl fh1)), (h2, .inl (ch2, 4, .inl fh2)), (h3, .inl (ch3, 4, .inl fh3)), (h4, .inl (ch4, 4, .inl fh4)), (h5, .inl (ch5, 4, .inl fh5))] sz) [(h0, .inr (6, [.ref h1, h0_1, .ref h2, .ref h3, .ref h4, .ref h5, .int n_h0_miss])), (h1, .inl (ch1, 48, .inl fh1)), (h2, .inl (ch2, 4, .inl fh2)), (h3, .inl (ch3, 4, .inl g_h3)), (h4, .inl (ch4, 4, .inl g_h4)), (h5, .inl (ch5, 4, .inl g_h5))]) (va_A [(h0, .inr (6, [.ref h1, h0_1, .ref h2, .ref h3, .ref h4, .ref h5, .int rm])), (h1, .inl (ch1, 48, .inl fh1)), (h2, .inl (ch2, 4, .inl fh2)), (h3, .inl (ch3, 4, .inl fh3)), (h4, .inl (ch4, 4, .inl fh4)), (h5, .inl (ch5, 4, .inl fh5))] sz)) 0 0 (va_A [(h0, .inr (6, [.ref h1, h0_1, .ref h2, .ref h3, .ref h4, .ref h5, .int rm])), (h1, .inl (ch1, 48, .inl fh1)), (h2, .inl (ch2, 4, .inl fh2)), (h3, .inl (ch3, 4, .inl fh3)), (h4, .inl (ch4, 4, .inl fh4)), (h5, .inl (ch5, 4, .inl fh5))] sz) := by
  refine Met.ofW (cc := cX6_tryPair) (maxL := 10) (ret := none) (by decide) rfl ?_
  intro p e s m args below meth c s₁ B hml hv
  obtain ⟨rfl, hsz, hP, hK, hD0⟩ := hv
  have hx := B.exec
  have hb := B.bytes
  have hr := B.returns
  have hts := atoms_spec (ws := u_s_X6_tryPair) B.pre
  have hown : s.vm.findClass RX6 = some m.cls := findClass_of_methodNamed B.named
  have hlocks := B.notSynchronized
  subst hsz
  have hD := hD0.self (sz := s.heap.size)
  generalize hAe : va_A [(h0, .inr (6, [.ref h1, h0_1, .ref h2, .ref h3, .ref h4, .ref h5, .int rm])), (h1, .inl (ch1, 48, .inl fh1)), (h2, .inl (ch2, 4, .inl fh2)), (h3, .inl (ch3, 4, .inl fh3)), (h4, .inl (ch4, 4, .inl fh4)), (h5, .inl (ch5, 4, .inl fh5))] s.heap.size = A at hD ⊢
  have hA : ∀ q : Nat, s.heap.size ≤ q → A q := fun q h => by rw [← hAe]; exact Or.inr h
  have hS : va_S A s.heap s.heap [] := va_S.rf
  have hP : va_P (dC, dI) vwCl [(h0, .inr (6, [.ref h1, h0_1, .ref h2, .ref h3, .ref h4, .ref h5, .int rm])), (h1, .inl (ch1, 48, .inl fh1)), (h2, .inl (ch2, 4, .inl fh2)), (h3, .inl (ch3, 4, .inl fh3)), (h4, .inl (ch4, 4, .inl fh4)), (h5, .inl (ch5, 4, .inl fh5))] s.heap := hP
  have w__fieldLink_RX6_30_ShellHeap_Readers_miss_I_ := hts (.fieldLink RX6 30 "ShellHeap$Readers" "miss" "I") (by decide +kernel)
  have hiX6 := show ∀ w ∈ u_ws RX6 TX6 7, w ∈ u_s_X6_tryPair by decide +kernel
  have w__fieldLink_RX6_27_ShellHeap_Readers_died_I_ := hts (.fieldLink RX6 27 "ShellHeap$Readers" "died" "[I") (by decide +kernel)
  have w__methodLink_RX6_42_Lib_Math_min_name := hts (.methodLink RX6 42 Lib.Math.min.name) (by decide +kernel)
  have w__static_Lib_Math_min_name := hts (.static Lib.Math.min.name) (by decide +kernel)
  have w__initialized_java_lang_Math_ := hts (.initialized "java/lang/Math") (by decide +kernel)
  have w__code_Lib_Math_min_name_Lib_Math_min_code_2_some_int_ := hts (.code Lib.Math.min.name Lib.Math.min.code 2 (some .int)) (by decide +kernel)
  have w__fieldLink_RX6_11_ShellHeap_Readers_rows_I_ := hts (.fieldLink RX6 11 "ShellHeap$Readers" "rows" "[I") (by decide +kernel)
  have w__fieldLink_RX6_24_ShellHeap_Readers_steps_I_ := hts (.fieldLink RX6 24 "ShellHeap$Readers" "steps" "[I") (by decide +kernel)
  have w__fieldLink_RX6_21_ShellHeap_Readers_gaps_I_ := hts (.fieldLink RX6 21 "ShellHeap$Readers" "gaps" "[I") (by decide +kernel)
  have w__fieldLink_RX6_18_ShellHeap_Readers_ofBed_I_ := hts (.fieldLink RX6 18 "ShellHeap$Readers" "ofBed" "[I") (by decide +kernel)
  have krr_p2 := z_rng p2
  have krr_p3 := z_rng p3
  have krr_p4 := z_rng p4
  have hl := lv_entry ([.ref h0, .int p1, .int p2, .int p3, .int p4]) (n := 10) (Nat.le_of_ble_eq_true rfl)
  rw [lg_entry_eq]
  generalize (lg_sl ([.ref h0, .int p1, .int p2, .int p3, .int p4]) ++ List.replicate (10 - (lg_sl ([.ref h0, .int p1, .int p2, .int p3, .int p4])).length) Slot.unset).toArray = ls at hl ⊢
  have hl : lv_has ls 10 [(0, .ref h0), (1, .int p1), (2, .int p2), (3, .int p3), (4, .int p4)] := hl
  refine z_nameQ (fun QQ hQQ => ?_)
  refine lv_iload_n hx hb dX6_tryPair_0 rfl (lv_at hl 1 rfl) ?_
  refine lv_iconst (v := 4) hx hb dX6_tryPair_1 (by decide) ?_
  refine lv_imul hx hb dX6_tryPair_2 ?_
  refine lv_topi (fun z_1 ez_1 => ?_)
  have kz_1 : (z_1).toInt = (p1).toInt * (4 : Int) := by rw [ez_1]; exact z_mul (a := (p1).toInt) (b := (4 : Int)) rfl rfl (by omega) (by omega)
  refine lv_iconst (v := 4) hx hb dX6_tryPair_3 (by decide) ?_
  refine lv_imul hx hb dX6_tryPair_4 ?_
  refine lv_topi (fun z_2 ez_2 => ?_)
  have kz_2 : (z_2).toInt = (z_1).toInt * (4 : Int) := by rw [ez_2]; exact z_mul (a := (z_1).toInt) (b := (4 : Int)) rfl rfl (by omega) (by omega)
  refine lv_istore (lv' := [(5, .int z_2), (0, .ref h0), (1, .int p1), (2, .int p2), (3, .int p3), (4, .int p4)]) hx hb dX6_tryPair_5 hl (by decide) rfl (fun ls hl => ?_)
  refine lv_iconst (v := 0) hx hb dX6_tryPair_7 (by decide) ?_
  refine lv_istore (lv' := [(6, .int 0), (5, .int z_2), (0, .ref h0), (1, .int p1), (2, .int p2), (3, .int p3), (4, .int p4)]) hx hb dX6_tryPair_8 hl (by decide) rfl (fun ls hl => ?_)
  refine lv_iconst (v := 0) hx hb dX6_tryPair_10 (by decide) ?_
  refine lv_istore (lv' := [(7, .int 0), (6, .int 0), (5, .int z_2), (0, .ref h0), (1, .int p1), (2, .int p2), (3, .int p3), (4, .int p4)]) hx hb dX6_tryPair_11 hl (by decide) rfl (fun ls hl => ?_)
  refine lv_iconst (v := 0) hx hb dX6_tryPair_13 (by decide) ?_
  refine lv_istore (lv' := [(8, .int 0), (7, .int 0), (6, .int 0), (5, .int z_2), (0, .ref h0), (1, .int p1), (2, .int p2), (3, .int p3), (4, .int p4)]) hx hb dX6_tryPair_14 hl (by decide) rfl (fun ls hl => ?_)
  have loop_3 : ∀ (n_4 : Nat) (i_6 : Int32) (a_7 : Int32) (c_8 : Int32) (f_9 : Nat → Int32) (f_10 : Nat → Int32) (H : Heap) (locs : List Loc) (ls : Array Slot), (5 - (i_6).toInt).toNat < n_4 → (((0 : Int) ≤ (i_6).toInt ∧ (i_6).toInt ≤ (4 : Int))) → va_P (dC, dI) vwCl [(h0, .inr (6, [.ref h1, h0_1, .ref h2, .ref h3, .ref h4, .ref h5, .int rm])), (h1, .inl (ch1, 48, .inl fh1)), (h2, .inl (ch2, 4, .inl fh2)), (h3, .inl (ch3, 4, .inl f_9)), (h4, .inl (ch4, 4, .inl f_10)), (h5, .inl (ch5, 4, .inl fh5))] H → va_D A [(h0, .inr (6, [.ref h1, h0_1, .ref h2, .ref h3, .ref h4, .ref h5, .int rm])), (h1, .inl (ch1, 48, .inl fh1)), (h2, .inl (ch2, 4, .inl fh2)), (h3, .inl (ch3, 4, .inl f_9)), (h4, .inl (ch4, 4, .inl f_10)), (h5, .inl (ch5, 4, .inl fh5))] → va_S A s.heap H locs → lv_has ls 10 [(8, .int i_6), (7, .int c_8), (6, .int a_7), (5, .int z_2), (0, .ref h0), (1, .int p1), (2, .int p2), (3, .int p3), (4, .int p4)] → W p l e ({ frames := 1, cells := 0, slots := 0, locals := 24 } : Room) s m ([.ref h0, .int p1, .int p2, .int p3, .int p4] : List Value).toArray below meth c H locs 0 0 QQ (F0 m 16 ls []) := by
    intro n_4
    induction n_4 with
    | zero => intro i_6 a_7 c_8 f_9 f_10 H locs ls hm; exact absurd hm (Nat.not_lt_zero _)
    | succ n_4 ih_5 =>
      intro i_6 a_7 c_8 f_9 f_10 H locs ls hm hF_11 hP hD hS hl
      refine lv_iload hx hb dX6_tryPair_16 (lv_at hl 0 rfl) ?_
      refine lv_iconst (v := 4) hx hb dX6_tryPair_18 (by decide) ?_
      refine lv_icmp_ge (tgt := 157) hx hb dX6_tryPair_19 (by decide) (fun c_12 => ?_) (fun c_12 => ?_)
      · have k_13 : (4 : Int) ≤ (i_6).toInt := z_le c_12
        obtain rfl : i_6 = 4 := z_eq' (show (i_6).toInt = (4 : Int) by omega)
        refine lv_iload hx hb dX6_tryPair_157 (lv_at hl 1 rfl) ?_
        refine lv_if_le (tgt := 180) hx hb dX6_tryPair_159 (by decide) (fun c_14 => ?_) (fun c_14 => ?_)
        · have k_15 : (c_8).toInt ≤ (0 : Int) := z_le c_14
          refine lv_iconst (v := 0) hx hb dX6_tryPair_180 (by decide) ?_
          refine lv_istore (lv' := [(8, .int 0), (7, .int c_8), (6, .int a_7), (5, .int z_2), (0, .ref h0), (1, .int p1), (2, .int p2), (3, .int p3), (4, .int p4)]) hx hb dX6_tryPair_181 hl (by decide) rfl (fun ls hl => ?_)
          refine lv_aload_n hx hb dX6_tryPair_183 rfl (lv_at hl 4 rfl) ?_
          refine lv_iload hx hb dX6_tryPair_184 (lv_at hl 0 rfl) ?_
          have hPc := hP.sub (ws' := [(h0, .inr (6, [.ref h1, h0_1, .ref h2, .ref h3, .ref h4, .ref h5, .int rm])), (h3, .inl (ch3, 4, .inl f_9)), (h4, .inl (ch4, 4, .inl f_10))]) [0, 3, 4] rfl
          have hDc := hD.sub (ws' := [(h0, .inr (6, [.ref h1, h0_1, .ref h2, .ref h3, .ref h4, .ref h5, .int rm])), (h3, .inl (ch3, 4, .inl f_9)), (h4, .inl (ch4, 4, .inl f_10))]) [0, 3, 4] (by decide) rfl
          have hKc := hK.sub (tys' := [(ch3, .int), (ch4, .int)]) [2, 3] rfl
          have hFc := va_free (ws := []) (wc := []) (z_D0 _) hS hA [] rfl
          refine va_calli (va_runV (As := [.int 0]) (rest := []) ⟨hx, hb, hml, hown, hts⟩ (s_X6_missAt l dC dI H.size h0 0 (.ref h1) h0_1 (.ref h2) h3 h4 (.ref h5) (.int rm) ch3 f_9 ch4 f_10) (cwV 1 hts gw_s_X6_tryPair_s_X6_missAt_47 rfl rfl rfl (by decide +kernel) ⟨Nat.le_of_ble_eq_true rfl, Nat.le_of_ble_eq_true rfl⟩) ⟨z_blind, va_recv hKc hPc (ci := 6) (q0 := 0) rfl rfl, z_pre hPc hKc hDc⟩ rfl rfl hl.1 rfl (lv_room (Nat.le_of_ble_eq_true rfl)) dX6_tryPair_186 ⟨Nat.le_of_ble_eq_true rfl, Nat.le_of_ble_eq_true rfl⟩) hS (fun q _ h => hFc q h) hFc (fun r_17 u t H_16 locs ht hvm hw_18 hB hz1 hk1 hS => ?_)
          have hP := z_pure hP hk1
          have hP : va_P (dC, dI) vwCl [(h0, .inr (6, [.ref h1, h0_1, .ref h2, .ref h3, .ref h4, .ref h5, .int rm])), (h1, .inl (ch1, 48, .inl fh1)), (h2, .inl (ch2, 4, .inl fh2)), (h3, .inl (ch3, 4, .inl f_9)), (h4, .inl (ch4, 4, .inl f_10)), (h5, .inl (ch5, 4, .inl fh5))] H_16 := hP
          have hD : va_D A [(h0, .inr (6, [.ref h1, h0_1, .ref h2, .ref h3, .ref h4, .ref h5, .int rm])), (h1, .inl (ch1, 48, .inl fh1)), (h2, .inl (ch2, 4, .inl fh2)), (h3, .inl (ch3, 4, .inl f_9)), (h4, .inl (ch4, 4, .inl f_10)), (h5, .inl (ch5, 4, .inl fh5))] := hD
          clear hPc hDc hKc
          refine lv_istore (lv' := [(9, .int r_17), (8, .int 0), (7, .int c_8), (6, .int a_7), (5, .int z_2), (0, .ref h0), (1, .int p1), (2, .int p2), (3, .int p3), (4, .int p4)]) hx hb dX6_tryPair_189 hl (by decide) rfl (fun ls hl => ?_)
          refine lv_iload hx hb dX6_tryPair_191 (lv_at hl 1 rfl) ?_
          refine lv_iload hx hb dX6_tryPair_193 (lv_at hl 9 rfl) ?_
          refine lv_icmp_ge (tgt := 222) hx hb dX6_tryPair_195 (by decide) (fun c_19 => ?_) (fun c_19 => ?_)
          · have k_20 : (p4).toInt ≤ (0 : Int) := z_le c_19
            refine lv_aload_n hx hb dX6_tryPair_222 rfl (lv_at hl 5 rfl) ?_
            refine va_get (D := (dC, dI)) (ci := 6) (v := .int rm) (C := RX6) (T := TX6) (N := 7) hx hb hts hiX6 hown hK hP 0 rfl rfl 6 (by decide) w__fieldLink_RX6_30_ShellHeap_Readers_miss_I_ (fun _ h9 => h9) rfl dX6_tryPair_223 ?_
            refine lv_iconst (v := (-1)) hx hb dX6_tryPair_226 (by decide) ?_
            refine lv_icmp_eq (tgt := 239) hx hb dX6_tryPair_227 (by decide) (fun c_21 => ?_) (fun c_21 => ?_)
            · have k_22 : (rm).toInt = (-1 : Int) := z_eq c_21
              obtain rfl : rm = (-1) := z_eq' (show (rm).toInt = (-1 : Int) by omega)
              refine lv_aload_n hx hb dX6_tryPair_239 rfl (lv_at hl 5 rfl) ?_
              refine lv_iload hx hb dX6_tryPair_240 (lv_at hl 0 rfl) ?_
              refine va_put (D := (dC, dI)) (ci := 6) (v := .int r_17) (ty := .int) (C := RX6) (T := TX6) (N := 7) hx hb hts hiX6 tyX6 tyX6_ok nmX6 hown hK hP hD hS 0 rfl rfl 6 (by decide) w__fieldLink_RX6_30_ShellHeap_Readers_miss_I_ (fun _ h9 => h9) rfl (by decide +kernel) rfl rfl (Nat.le_of_ble_eq_true rfl) dX6_tryPair_242 (fun H_23 locs hP hD hS => ?_)
              have hP : va_P (dC, dI) vwCl [(h0, .inr (6, [.ref h1, h0_1, .ref h2, .ref h3, .ref h4, .ref h5, .int r_17])), (h1, .inl (ch1, 48, .inl fh1)), (h2, .inl (ch2, 4, .inl fh2)), (h3, .inl (ch3, 4, .inl f_9)), (h4, .inl (ch4, 4, .inl f_10)), (h5, .inl (ch5, 4, .inl fh5))] H_23 := hP
              have hD : va_D A [(h0, .inr (6, [.ref h1, h0_1, .ref h2, .ref h3, .ref h4, .ref h5, .int r_17])), (h1, .inl (ch1, 48, .inl fh1)), (h2, .inl (ch2, 4, .inl fh2)), (h3, .inl (ch3, 4, .inl f_9)), (h4, .inl (ch4, 4, .inl f_10)), (h5, .inl (ch5, 4, .inl fh5))] := hD
              refine lv_aload_n hx hb dX6_tryPair_245 rfl (lv_at hl 5 rfl) ?_
              refine va_get (D := (dC, dI)) (ci := 6) (v := .ref h5) (C := RX6) (T := TX6) (N := 7) hx hb hts hiX6 hown hK hP 0 rfl rfl 5 (by decide) w__fieldLink_RX6_27_ShellHeap_Readers_died_I_ (fun _ h9 => h9) rfl dX6_tryPair_246 ?_
              refine lv_iconst (v := 0) hx hb dX6_tryPair_249 (by decide) ?_
              refine lv_iload_n hx hb dX6_tryPair_250 rfl (lv_at hl 7 rfl) ?_
              refine va_iast hx hb hK hP hD hS 5 4 rfl rfl (by unfold vp_in; decide) dX6_tryPair_251 (fun H_24 locs hP hD hS => ?_)
              have hP : va_P (dC, dI) vwCl [(h0, .inr (6, [.ref h1, h0_1, .ref h2, .ref h3, .ref h4, .ref h5, .int r_17])), (h1, .inl (ch1, 48, .inl fh1)), (h2, .inl (ch2, 4, .inl fh2)), (h3, .inl (ch3, 4, .inl f_9)), (h4, .inl (ch4, 4, .inl f_10)), (h5, .inl (ch5, 4, .inl (upd fh5 (0 : Int32).toNatClampNeg p2)))] H_24 := hP
              have hD : va_D A [(h0, .inr (6, [.ref h1, h0_1, .ref h2, .ref h3, .ref h4, .ref h5, .int r_17])), (h1, .inl (ch1, 48, .inl fh1)), (h2, .inl (ch2, 4, .inl fh2)), (h3, .inl (ch3, 4, .inl f_9)), (h4, .inl (ch4, 4, .inl f_10)), (h5, .inl (ch5, 4, .inl (upd fh5 (0 : Int32).toNatClampNeg p2)))] := hD
              generalize (upd fh5 (0 : Int32).toNatClampNeg p2) = f_25 at hP hD
              refine lv_aload_n hx hb dX6_tryPair_252 rfl (lv_at hl 5 rfl) ?_
              refine va_get (D := (dC, dI)) (ci := 6) (v := .ref h5) (C := RX6) (T := TX6) (N := 7) hx hb hts hiX6 hown hK hP 0 rfl rfl 5 (by decide) w__fieldLink_RX6_27_ShellHeap_Readers_died_I_ (fun _ h9 => h9) rfl dX6_tryPair_253 ?_
              refine lv_iconst (v := 1) hx hb dX6_tryPair_256 (by decide) ?_
              refine lv_iload_n hx hb dX6_tryPair_257 rfl (lv_at hl 8 rfl) ?_
              refine va_iast hx hb hK hP hD hS 5 4 rfl rfl (by unfold vp_in; decide) dX6_tryPair_258 (fun H_26 locs hP hD hS => ?_)
              have hP : va_P (dC, dI) vwCl [(h0, .inr (6, [.ref h1, h0_1, .ref h2, .ref h3, .ref h4, .ref h5, .int r_17])), (h1, .inl (ch1, 48, .inl fh1)), (h2, .inl (ch2, 4, .inl fh2)), (h3, .inl (ch3, 4, .inl f_9)), (h4, .inl (ch4, 4, .inl f_10)), (h5, .inl (ch5, 4, .inl (upd f_25 (1 : Int32).toNatClampNeg p3)))] H_26 := hP
              have hD : va_D A [(h0, .inr (6, [.ref h1, h0_1, .ref h2, .ref h3, .ref h4, .ref h5, .int r_17])), (h1, .inl (ch1, 48, .inl fh1)), (h2, .inl (ch2, 4, .inl fh2)), (h3, .inl (ch3, 4, .inl f_9)), (h4, .inl (ch4, 4, .inl f_10)), (h5, .inl (ch5, 4, .inl (upd f_25 (1 : Int32).toNatClampNeg p3)))] := hD
              generalize (upd f_25 (1 : Int32).toNatClampNeg p3) = f_27 at hP hD
              refine lv_aload_n hx hb dX6_tryPair_259 rfl (lv_at hl 5 rfl) ?_
              refine va_get (D := (dC, dI)) (ci := 6) (v := .ref h5) (C := RX6) (T := TX6) (N := 7) hx hb hts hiX6 hown hK hP 0 rfl rfl 5 (by decide) w__fieldLink_RX6_27_ShellHeap_Readers_died_I_ (fun _ h9 => h9) rfl dX6_tryPair_260 ?_
              refine lv_iconst (v := 2) hx hb dX6_tryPair_263 (by decide) ?_
              refine lv_iload hx hb dX6_tryPair_264 (lv_at hl 1 rfl) ?_
              refine va_iast hx hb hK hP hD hS 5 4 rfl rfl (by unfold vp_in; decide) dX6_tryPair_266 (fun H_28 locs hP hD hS => ?_)
              have hP : va_P (dC, dI) vwCl [(h0, .inr (6, [.ref h1, h0_1, .ref h2, .ref h3, .ref h4, .ref h5, .int r_17])), (h1, .inl (ch1, 48, .inl fh1)), (h2, .inl (ch2, 4, .inl fh2)), (h3, .inl (ch3, 4, .inl f_9)), (h4, .inl (ch4, 4, .inl f_10)), (h5, .inl (ch5, 4, .inl (upd f_27 (2 : Int32).toNatClampNeg 0)))] H_28 := hP
              have hD : va_D A [(h0, .inr (6, [.ref h1, h0_1, .ref h2, .ref h3, .ref h4, .ref h5, .int r_17])), (h1, .inl (ch1, 48, .inl fh1)), (h2, .inl (ch2, 4, .inl fh2)), (h3, .inl (ch3, 4, .inl f_9)), (h4, .inl (ch4, 4, .inl f_10)), (h5, .inl (ch5, 4, .inl (upd f_27 (2 : Int32).toNatClampNeg 0)))] := hD
              generalize (upd f_27 (2 : Int32).toNatClampNeg 0) = f_29 at hP hD
              refine lv_aload_n hx hb dX6_tryPair_267 rfl (lv_at hl 5 rfl) ?_
              refine va_get (D := (dC, dI)) (ci := 6) (v := .ref h5) (C := RX6) (T := TX6) (N := 7) hx hb hts hiX6 hown hK hP 0 rfl rfl 5 (by decide) w__fieldLink_RX6_27_ShellHeap_Readers_died_I_ (fun _ h9 => h9) rfl dX6_tryPair_268 ?_
              refine lv_iconst (v := 3) hx hb dX6_tryPair_271 (by decide) ?_
              refine lv_iload hx hb dX6_tryPair_272 (lv_at hl 9 rfl) ?_
              refine lv_iload hx hb dX6_tryPair_274 (lv_at hl 1 rfl) ?_
              refine lv_isub hx hb dX6_tryPair_276 ?_
              refine lv_topi (fun z_30 ez_30 => ?_)
              have kr_z_30_p4 := z_rng p4
              have kz_30 : (z_30).toInt = (p4).toInt - (0 : Int) := by rw [ez_30]; exact z_sub (a := (p4).toInt) (b := (0 : Int)) rfl rfl (by omega) (by omega)
              refine va_iast hx hb hK hP hD hS 5 4 rfl rfl (by unfold vp_in; decide) dX6_tryPair_277 (fun H_31 locs hP hD hS => ?_)
              have hP : va_P (dC, dI) vwCl [(h0, .inr (6, [.ref h1, h0_1, .ref h2, .ref h3, .ref h4, .ref h5, .int r_17])), (h1, .inl (ch1, 48, .inl fh1)), (h2, .inl (ch2, 4, .inl fh2)), (h3, .inl (ch3, 4, .inl f_9)), (h4, .inl (ch4, 4, .inl f_10)), (h5, .inl (ch5, 4, .inl (upd f_29 (3 : Int32).toNatClampNeg z_30)))] H_31 := hP
              have hD : va_D A [(h0, .inr (6, [.ref h1, h0_1, .ref h2, .ref h3, .ref h4, .ref h5, .int r_17])), (h1, .inl (ch1, 48, .inl fh1)), (h2, .inl (ch2, 4, .inl fh2)), (h3, .inl (ch3, 4, .inl f_9)), (h4, .inl (ch4, 4, .inl f_10)), (h5, .inl (ch5, 4, .inl (upd f_29 (3 : Int32).toNatClampNeg z_30)))] := hD
              generalize (upd f_29 (3 : Int32).toNatClampNeg z_30) = f_32 at hP hD
              refine z_backQ hQQ ?_
              have hP9 := hP.sub (ws' := [(h0, .inr (6, [.ref h1, h0_1, .ref h2, .ref h3, .ref h4, .ref h5, .int r_17])), (h1, .inl (ch1, 48, .inl fh1)), (h2, .inl (ch2, 4, .inl fh2)), (h3, .inl (ch3, 4, .inl f_9)), (h4, .inl (ch4, 4, .inl f_10)), (h5, .inl (ch5, 4, .inl f_32))]) [0, 1, 2, 3, 4, 5] rfl
              have hD9 := hD.sub (ws' := [(h0, .inr (6, [.ref h1, h0_1, .ref h2, .ref h3, .ref h4, .ref h5, .int r_17])), (h1, .inl (ch1, 48, .inl fh1)), (h2, .inl (ch2, 4, .inl fh2)), (h3, .inl (ch3, 4, .inl f_9)), (h4, .inl (ch4, 4, .inl f_10)), (h5, .inl (ch5, 4, .inl f_32))]) [0, 1, 2, 3, 4, 5] (by decide) rfl
              have hK9 := hK.sub (tys' := []) [] rfl
              refine W.widen (k := 0) (n := 0) (Nat.le_of_ble_eq_true rfl) (Nat.le_of_ble_eq_true rfl) ?_
              exact W.vret hx hb hr (fun t ht hW => ⟨⟨(), rfl, trivial, ⟨r_17, f_9, f_10, f_32, by rw [ht]; exact hP9, va_K.moved hW.alike hK9, hD9⟩⟩, hS.F ht⟩) hS.2.2 dX6_tryPair_278
            · have k_33 : (rm).toInt ≠ (-1 : Int) := z_ne c_21
              refine lv_iload hx hb dX6_tryPair_230 (lv_at hl 0 rfl) ?_
              refine lv_aload_n hx hb dX6_tryPair_232 rfl (lv_at hl 5 rfl) ?_
              refine va_get (D := (dC, dI)) (ci := 6) (v := .int rm) (C := RX6) (T := TX6) (N := 7) hx hb hts hiX6 hown hK hP 0 rfl rfl 6 (by decide) w__fieldLink_RX6_30_ShellHeap_Readers_miss_I_ (fun _ h9 => h9) rfl dX6_tryPair_233 ?_
              refine lv_icmp_ge (tgt := 278) hx hb dX6_tryPair_236 (by decide) (fun c_34 => ?_) (fun c_34 => ?_)
              · have k_35 : (rm).toInt ≤ (r_17).toInt := z_le c_34
                refine z_backQ hQQ ?_
                have hP9 := hP.sub (ws' := [(h0, .inr (6, [.ref h1, h0_1, .ref h2, .ref h3, .ref h4, .ref h5, .int rm])), (h1, .inl (ch1, 48, .inl fh1)), (h2, .inl (ch2, 4, .inl fh2)), (h3, .inl (ch3, 4, .inl f_9)), (h4, .inl (ch4, 4, .inl f_10)), (h5, .inl (ch5, 4, .inl fh5))]) [0, 1, 2, 3, 4, 5] rfl
                have hD9 := hD.sub (ws' := [(h0, .inr (6, [.ref h1, h0_1, .ref h2, .ref h3, .ref h4, .ref h5, .int rm])), (h1, .inl (ch1, 48, .inl fh1)), (h2, .inl (ch2, 4, .inl fh2)), (h3, .inl (ch3, 4, .inl f_9)), (h4, .inl (ch4, 4, .inl f_10)), (h5, .inl (ch5, 4, .inl fh5))]) [0, 1, 2, 3, 4, 5] (by decide) rfl
                have hK9 := hK.sub (tys' := []) [] rfl
                refine W.widen (k := 0) (n := 0) (Nat.le_of_ble_eq_true rfl) (Nat.le_of_ble_eq_true rfl) ?_
                exact W.vret hx hb hr (fun t ht hW => ⟨⟨(), rfl, trivial, ⟨rm, f_9, f_10, fh5, by rw [ht]; exact hP9, va_K.moved hW.alike hK9, hD9⟩⟩, hS.F ht⟩) hS.2.2 dX6_tryPair_278
              · have k_36 : (rm).toInt > (r_17).toInt := z_nle c_34
                refine lv_aload_n hx hb dX6_tryPair_239 rfl (lv_at hl 5 rfl) ?_
                refine lv_iload hx hb dX6_tryPair_240 (lv_at hl 0 rfl) ?_
                refine va_put (D := (dC, dI)) (ci := 6) (v := .int r_17) (ty := .int) (C := RX6) (T := TX6) (N := 7) hx hb hts hiX6 tyX6 tyX6_ok nmX6 hown hK hP hD hS 0 rfl rfl 6 (by decide) w__fieldLink_RX6_30_ShellHeap_Readers_miss_I_ (fun _ h9 => h9) rfl (by decide +kernel) rfl rfl (Nat.le_of_ble_eq_true rfl) dX6_tryPair_242 (fun H_37 locs hP hD hS => ?_)
                have hP : va_P (dC, dI) vwCl [(h0, .inr (6, [.ref h1, h0_1, .ref h2, .ref h3, .ref h4, .ref h5, .int r_17])), (h1, .inl (ch1, 48, .inl fh1)), (h2, .inl (ch2, 4, .inl fh2)), (h3, .inl (ch3, 4, .inl f_9)), (h4, .inl (ch4, 4, .inl f_10)), (h5, .inl (ch5, 4, .inl fh5))] H_37 := hP
                have hD : va_D A [(h0, .inr (6, [.ref h1, h0_1, .ref h2, .ref h3, .ref h4, .ref h5, .int r_17])), (h1, .inl (ch1, 48, .inl fh1)), (h2, .inl (ch2, 4, .inl fh2)), (h3, .inl (ch3, 4, .inl f_9)), (h4, .inl (ch4, 4, .inl f_10)), (h5, .inl (ch5, 4, .inl fh5))] := hD
                refine lv_aload_n hx hb dX6_tryPair_245 rfl (lv_at hl 5 rfl) ?_
                refine va_get (D := (dC, dI)) (ci := 6) (v := .ref h5) (C := RX6) (T := TX6) (N := 7) hx hb hts hiX6 hown hK hP 0 rfl rfl 5 (by decide) w__fieldLink_RX6_27_ShellHeap_Readers_died_I_ (fun _ h9 => h9) rfl dX6_tryPair_246 ?_
                refine lv_iconst (v := 0) hx hb dX6_tryPair_249 (by decide) ?_
                refine lv_iload_n hx hb dX6_tryPair_250 rfl (lv_at hl 7 rfl) ?_
                refine va_iast hx hb hK hP hD hS 5 4 rfl rfl (by unfold vp_in; decide) dX6_tryPair_251 (fun H_38 locs hP hD hS => ?_)
                have hP : va_P (dC, dI) vwCl [(h0, .inr (6, [.ref h1, h0_1, .ref h2, .ref h3, .ref h4, .ref h5, .int r_17])), (h1, .inl (ch1, 48, .inl fh1)), (h2, .inl (ch2, 4, .inl fh2)), (h3, .inl (ch3, 4, .inl f_9)), (h4, .inl (ch4, 4, .inl f_10)), (h5, .inl (ch5, 4, .inl (upd fh5 (0 : Int32).toNatClampNeg p2)))] H_38 := hP
                have hD : va_D A [(h0, .inr (6, [.ref h1, h0_1, .ref h2, .ref h3, .ref h4, .ref h5, .int r_17])), (h1, .inl (ch1, 48, .inl fh1)), (h2, .inl (ch2, 4, .inl fh2)), (h3, .inl (ch3, 4, .inl f_9)), (h4, .inl (ch4, 4, .inl f_10)), (h5, .inl (ch5, 4, .inl (upd fh5 (0 : Int32).toNatClampNeg p2)))] := hD
                generalize (upd fh5 (0 : Int32).toNatClampNeg p2) = f_39 at hP hD
                refine lv_aload_n hx hb dX6_tryPair_252 rfl (lv_at hl 5 rfl) ?_
                refine va_get (D := (dC, dI)) (ci := 6) (v := .ref h5) (C := RX6) (T := TX6) (N := 7) hx hb hts hiX6 hown hK hP 0 rfl rfl 5 (by decide) w__fieldLink_RX6_27_ShellHeap_Readers_died_I_ (fun _ h9 => h9) rfl dX6_tryPair_253 ?_
                refine lv_iconst (v := 1) hx hb dX6_tryPair_256 (by decide) ?_
                refine lv_iload_n hx hb dX6_tryPair_257 rfl (lv_at hl 8 rfl) ?_
                refine va_iast hx hb hK hP hD hS 5 4 rfl rfl (by unfold vp_in; decide) dX6_tryPair_258 (fun H_40 locs hP hD hS => ?_)
                have hP : va_P (dC, dI) vwCl [(h0, .inr (6, [.ref h1, h0_1, .ref h2, .ref h3, .ref h4, .ref h5, .int r_17])), (h1, .inl (ch1, 48, .inl fh1)), (h2, .inl (ch2, 4, .inl fh2)), (h3, .inl (ch3, 4, .inl f_9)), (h4, .inl (ch4, 4, .inl f_10)), (h5, .inl (ch5, 4, .inl (upd f_39 (1 : Int32).toNatClampNeg p3)))] H_40 := hP
                have hD : va_D A [(h0, .inr (6, [.ref h1, h0_1, .ref h2, .ref h3, .ref h4, .ref h5, .int r_17])), (h1, .inl (ch1, 48, .inl fh1)), (h2, .inl (ch2, 4, .inl fh2)), (h3, .inl (ch3, 4, .inl f_9)), (h4, .inl (ch4, 4, .inl f_10)), (h5, .inl (ch5, 4, .inl (upd f_39 (1 : Int32).toNatClampNeg p3)))] := hD
                generalize (upd f_39 (1 : Int32).toNatClampNeg p3) = f_41 at hP hD
                refine lv_aload_n hx hb dX6_tryPair_259 rfl (lv_at hl 5 rfl) ?_
                refine va_get (D := (dC, dI)) (ci := 6) (v := .ref h5) (C := RX6) (T := TX6) (N := 7) hx hb hts hiX6 hown hK hP 0 rfl rfl 5 (by decide) w__fieldLink_RX6_27_ShellHeap_Readers_died_I_ (fun _ h9 => h9) rfl dX6_tryPair_260 ?_
                refine lv_iconst (v := 2) hx hb dX6_tryPair_263 (by decide) ?_
                refine lv_iload hx hb dX6_tryPair_264 (lv_at hl 1 rfl) ?_
                refine va_iast hx hb hK hP hD hS 5 4 rfl rfl (by unfold vp_in; decide) dX6_tryPair_266 (fun H_42 locs hP hD hS => ?_)
                have hP : va_P (dC, dI) vwCl [(h0, .inr (6, [.ref h1, h0_1, .ref h2, .ref h3, .ref h4, .ref h5, .int r_17])), (h1, .inl (ch1, 48, .inl fh1)), (h2, .inl (ch2, 4, .inl fh2)), (h3, .inl (ch3, 4, .inl f_9)), (h4, .inl (ch4, 4, .inl f_10)), (h5, .inl (ch5, 4, .inl (upd f_41 (2 : Int32).toNatClampNeg 0)))] H_42 := hP
                have hD : va_D A [(h0, .inr (6, [.ref h1, h0_1, .ref h2, .ref h3, .ref h4, .ref h5, .int r_17])), (h1, .inl (ch1, 48, .inl fh1)), (h2, .inl (ch2, 4, .inl fh2)), (h3, .inl (ch3, 4, .inl f_9)), (h4, .inl (ch4, 4, .inl f_10)), (h5, .inl (ch5, 4, .inl (upd f_41 (2 : Int32).toNatClampNeg 0)))] := hD
                generalize (upd f_41 (2 : Int32).toNatClampNeg 0) = f_43 at hP hD
                refine lv_aload_n hx hb dX6_tryPair_267 rfl (lv_at hl 5 rfl) ?_
                refine va_get (D := (dC, dI)) (ci := 6) (v := .ref h5) (C := RX6) (T := TX6) (N := 7) hx hb hts hiX6 hown hK hP 0 rfl rfl 5 (by decide) w__fieldLink_RX6_27_ShellHeap_Readers_died_I_ (fun _ h9 => h9) rfl dX6_tryPair_268 ?_
                refine lv_iconst (v := 3) hx hb dX6_tryPair_271 (by decide) ?_
                refine lv_iload hx hb dX6_tryPair_272 (lv_at hl 9 rfl) ?_
                refine lv_iload hx hb dX6_tryPair_274 (lv_at hl 1 rfl) ?_
                refine lv_isub hx hb dX6_tryPair_276 ?_
                refine lv_topi (fun z_44 ez_44 => ?_)
                have kr_z_44_p4 := z_rng p4
                have kz_44 : (z_44).toInt = (p4).toInt - (0 : Int) := by rw [ez_44]; exact z_sub (a := (p4).toInt) (b := (0 : Int)) rfl rfl (by omega) (by omega)
                refine va_iast hx hb hK hP hD hS 5 4 rfl rfl (by unfold vp_in; decide) dX6_tryPair_277 (fun H_45 locs hP hD hS => ?_)
                have hP : va_P (dC, dI) vwCl [(h0, .inr (6, [.ref h1, h0_1, .ref h2, .ref h3, .ref h4, .ref h5, .int r_17])), (h1, .inl (ch1, 48, .inl fh1)), (h2, .inl (ch2, 4, .inl fh2)), (h3, .inl (ch3, 4, .inl f_9)), (h4, .inl (ch4, 4, .inl f_10)), (h5, .inl (ch5, 4, .inl (upd f_43 (3 : Int32).toNatClampNeg z_44)))] H_45 := hP
                have hD : va_D A [(h0, .inr (6, [.ref h1, h0_1, .ref h2, .ref h3, .ref h4, .ref h5, .int r_17])), (h1, .inl (ch1, 48, .inl fh1)), (h2, .inl (ch2, 4, .inl fh2)), (h3, .inl (ch3, 4, .inl f_9)), (h4, .inl (ch4, 4, .inl f_10)), (h5, .inl (ch5, 4, .inl (upd f_43 (3 : Int32).toNatClampNeg z_44)))] := hD
                generalize (upd f_43 (3 : Int32).toNatClampNeg z_44) = f_46 at hP hD
                refine z_backQ hQQ ?_
                have hP9 := hP.sub (ws' := [(h0, .inr (6, [.ref h1, h0_1, .ref h2, .ref h3, .ref h4, .ref h5, .int r_17])), (h1, .inl (ch1, 48, .inl fh1)), (h2, .inl (ch2, 4, .inl fh2)), (h3, .inl (ch3, 4, .inl f_9)), (h4, .inl (ch4, 4, .inl f_10)), (h5, .inl (ch5, 4, .inl f_46))]) [0, 1, 2, 3, 4, 5] rfl
                have hD9 := hD.sub (ws' := [(h0, .inr (6, [.ref h1, h0_1, .ref h2, .ref h3, .ref h4, .ref h5, .int r_17])), (h1, .inl (ch1, 48, .inl fh1)), (h2, .inl (ch2, 4, .inl fh2)), (h3, .inl (ch3, 4, .inl f_9)), (h4, .inl (ch4, 4, .inl f_10)), (h5, .inl (ch5, 4, .inl f_46))]) [0, 1, 2, 3, 4, 5] (by decide) rfl
                have hK9 := hK.sub (tys' := []) [] rfl
                refine W.widen (k := 0) (n := 0) (Nat.le_of_ble_eq_true rfl) (Nat.le_of_ble_eq_true rfl) ?_
                exact W.vret hx hb hr (fun t ht hW => ⟨⟨(), rfl, trivial, ⟨r_17, f_9, f_10, f_46, by rw [ht]; exact hP9, va_K.moved hW.alike hK9, hD9⟩⟩, hS.F ht⟩) hS.2.2 dX6_tryPair_278
          · have k_47 : (p4).toInt > (0 : Int) := z_nle c_19
            refine lv_aload_n hx hb dX6_tryPair_198 rfl (lv_at hl 5 rfl) ?_
            refine lv_iload hx hb dX6_tryPair_199 (lv_at hl 1 rfl) ?_
            refine lv_iconst (v := 1) hx hb dX6_tryPair_201 (by decide) ?_
            refine lv_iadd hx hb dX6_tryPair_202 ?_
            refine lv_topi (fun x_48 e_49 => ?_)
            obtain rfl : x_48 = 1 := e_49.trans (by decide)
            have hPc := hP.sub (ws' := [(h0, .inr (6, [.ref h1, h0_1, .ref h2, .ref h3, .ref h4, .ref h5, .int rm])), (h3, .inl (ch3, 4, .inl f_9)), (h4, .inl (ch4, 4, .inl f_10))]) [0, 3, 4] rfl
            have hDc := hD.sub (ws' := [(h0, .inr (6, [.ref h1, h0_1, .ref h2, .ref h3, .ref h4, .ref h5, .int rm])), (h3, .inl (ch3, 4, .inl f_9)), (h4, .inl (ch4, 4, .inl f_10))]) [0, 3, 4] (by decide) rfl
            have hKc := hK.sub (tys' := [(ch3, .int), (ch4, .int)]) [2, 3] rfl
            have hFc := va_free (ws := []) (wc := []) (z_D0 _) hS hA [] rfl
            refine va_calli (va_runV (As := [.int 1]) (rest := []) ⟨hx, hb, hml, hown, hts⟩ (s_X6_missAt l dC dI H_16.size h0 1 (.ref h1) h0_1 (.ref h2) h3 h4 (.ref h5) (.int rm) ch3 f_9 ch4 f_10) (cwV 1 hts gw_s_X6_tryPair_s_X6_missAt_47 rfl rfl rfl (by decide +kernel) ⟨Nat.le_of_ble_eq_true rfl, Nat.le_of_ble_eq_true rfl⟩) ⟨z_blind, va_recv hKc hPc (ci := 6) (q0 := 0) rfl rfl, z_pre hPc hKc hDc⟩ rfl rfl hl.1 rfl (lv_room (Nat.le_of_ble_eq_true rfl)) dX6_tryPair_203 ⟨Nat.le_of_ble_eq_true rfl, Nat.le_of_ble_eq_true rfl⟩) hS (fun q _ h => hFc q h) hFc (fun r_51 u t H_50 locs ht hvm hw_52 hB hz1 hk1 hS => ?_)
            have hP := z_pure hP hk1
            have hP : va_P (dC, dI) vwCl [(h0, .inr (6, [.ref h1, h0_1, .ref h2, .ref h3, .ref h4, .ref h5, .int rm])), (h1, .inl (ch1, 48, .inl fh1)), (h2, .inl (ch2, 4, .inl fh2)), (h3, .inl (ch3, 4, .inl f_9)), (h4, .inl (ch4, 4, .inl f_10)), (h5, .inl (ch5, 4, .inl fh5))] H_50 := hP
            have hD : va_D A [(h0, .inr (6, [.ref h1, h0_1, .ref h2, .ref h3, .ref h4, .ref h5, .int rm])), (h1, .inl (ch1, 48, .inl fh1)), (h2, .inl (ch2, 4, .inl fh2)), (h3, .inl (ch3, 4, .inl f_9)), (h4, .inl (ch4, 4, .inl f_10)), (h5, .inl (ch5, 4, .inl fh5))] := hD
            clear hPc hDc hKc
            refine lv_iload hx hb dX6_tryPair_206 (lv_at hl 0 rfl) ?_
            refine lv_icmp_ge (tgt := 222) hx hb dX6_tryPair_208 (by decide) (fun c_53 => ?_) (fun c_53 => ?_)
            · have k_54 : (r_17).toInt ≤ (r_51).toInt := z_le c_53
              refine lv_aload_n hx hb dX6_tryPair_222 rfl (lv_at hl 5 rfl) ?_
              refine va_get (D := (dC, dI)) (ci := 6) (v := .int rm) (C := RX6) (T := TX6) (N := 7) hx hb hts hiX6 hown hK hP 0 rfl rfl 6 (by decide) w__fieldLink_RX6_30_ShellHeap_Readers_miss_I_ (fun _ h9 => h9) rfl dX6_tryPair_223 ?_
              refine lv_iconst (v := (-1)) hx hb dX6_tryPair_226 (by decide) ?_
              refine lv_icmp_eq (tgt := 239) hx hb dX6_tryPair_227 (by decide) (fun c_55 => ?_) (fun c_55 => ?_)
              · have k_56 : (rm).toInt = (-1 : Int) := z_eq c_55
                obtain rfl : rm = (-1) := z_eq' (show (rm).toInt = (-1 : Int) by omega)
                refine lv_aload_n hx hb dX6_tryPair_239 rfl (lv_at hl 5 rfl) ?_
                refine lv_iload hx hb dX6_tryPair_240 (lv_at hl 0 rfl) ?_
                refine va_put (D := (dC, dI)) (ci := 6) (v := .int r_17) (ty := .int) (C := RX6) (T := TX6) (N := 7) hx hb hts hiX6 tyX6 tyX6_ok nmX6 hown hK hP hD hS 0 rfl rfl 6 (by decide) w__fieldLink_RX6_30_ShellHeap_Readers_miss_I_ (fun _ h9 => h9) rfl (by decide +kernel) rfl rfl (Nat.le_of_ble_eq_true rfl) dX6_tryPair_242 (fun H_57 locs hP hD hS => ?_)
                have hP : va_P (dC, dI) vwCl [(h0, .inr (6, [.ref h1, h0_1, .ref h2, .ref h3, .ref h4, .ref h5, .int r_17])), (h1, .inl (ch1, 48, .inl fh1)), (h2, .inl (ch2, 4, .inl fh2)), (h3, .inl (ch3, 4, .inl f_9)), (h4, .inl (ch4, 4, .inl f_10)), (h5, .inl (ch5, 4, .inl fh5))] H_57 := hP
                have hD : va_D A [(h0, .inr (6, [.ref h1, h0_1, .ref h2, .ref h3, .ref h4, .ref h5, .int r_17])), (h1, .inl (ch1, 48, .inl fh1)), (h2, .inl (ch2, 4, .inl fh2)), (h3, .inl (ch3, 4, .inl f_9)), (h4, .inl (ch4, 4, .inl f_10)), (h5, .inl (ch5, 4, .inl fh5))] := hD
                refine lv_aload_n hx hb dX6_tryPair_245 rfl (lv_at hl 5 rfl) ?_
                refine va_get (D := (dC, dI)) (ci := 6) (v := .ref h5) (C := RX6) (T := TX6) (N := 7) hx hb hts hiX6 hown hK hP 0 rfl rfl 5 (by decide) w__fieldLink_RX6_27_ShellHeap_Readers_died_I_ (fun _ h9 => h9) rfl dX6_tryPair_246 ?_
                refine lv_iconst (v := 0) hx hb dX6_tryPair_249 (by decide) ?_
                refine lv_iload_n hx hb dX6_tryPair_250 rfl (lv_at hl 7 rfl) ?_
                refine va_iast hx hb hK hP hD hS 5 4 rfl rfl (by unfold vp_in; decide) dX6_tryPair_251 (fun H_58 locs hP hD hS => ?_)
                have hP : va_P (dC, dI) vwCl [(h0, .inr (6, [.ref h1, h0_1, .ref h2, .ref h3, .ref h4, .ref h5, .int r_17])), (h1, .inl (ch1, 48, .inl fh1)), (h2, .inl (ch2, 4, .inl fh2)), (h3, .inl (ch3, 4, .inl f_9)), (h4, .inl (ch4, 4, .inl f_10)), (h5, .inl (ch5, 4, .inl (upd fh5 (0 : Int32).toNatClampNeg p2)))] H_58 := hP
                have hD : va_D A [(h0, .inr (6, [.ref h1, h0_1, .ref h2, .ref h3, .ref h4, .ref h5, .int r_17])), (h1, .inl (ch1, 48, .inl fh1)), (h2, .inl (ch2, 4, .inl fh2)), (h3, .inl (ch3, 4, .inl f_9)), (h4, .inl (ch4, 4, .inl f_10)), (h5, .inl (ch5, 4, .inl (upd fh5 (0 : Int32).toNatClampNeg p2)))] := hD
                generalize (upd fh5 (0 : Int32).toNatClampNeg p2) = f_59 at hP hD
                refine lv_aload_n hx hb dX6_tryPair_252 rfl (lv_at hl 5 rfl) ?_
                refine va_get (D := (dC, dI)) (ci := 6) (v := .ref h5) (C := RX6) (T := TX6) (N := 7) hx hb hts hiX6 hown hK hP 0 rfl rfl 5 (by decide) w__fieldLink_RX6_27_ShellHeap_Readers_died_I_ (fun _ h9 => h9) rfl dX6_tryPair_253 ?_
                refine lv_iconst (v := 1) hx hb dX6_tryPair_256 (by decide) ?_
                refine lv_iload_n hx hb dX6_tryPair_257 rfl (lv_at hl 8 rfl) ?_
                refine va_iast hx hb hK hP hD hS 5 4 rfl rfl (by unfold vp_in; decide) dX6_tryPair_258 (fun H_60 locs hP hD hS => ?_)
                have hP : va_P (dC, dI) vwCl [(h0, .inr (6, [.ref h1, h0_1, .ref h2, .ref h3, .ref h4, .ref h5, .int r_17])), (h1, .inl (ch1, 48, .inl fh1)), (h2, .inl (ch2, 4, .inl fh2)), (h3, .inl (ch3, 4, .inl f_9)), (h4, .inl (ch4, 4, .inl f_10)), (h5, .inl (ch5, 4, .inl (upd f_59 (1 : Int32).toNatClampNeg p3)))] H_60 := hP
                have hD : va_D A [(h0, .inr (6, [.ref h1, h0_1, .ref h2, .ref h3, .ref h4, .ref h5, .int r_17])), (h1, .inl (ch1, 48, .inl fh1)), (h2, .inl (ch2, 4, .inl fh2)), (h3, .inl (ch3, 4, .inl f_9)), (h4, .inl (ch4, 4, .inl f_10)), (h5, .inl (ch5, 4, .inl (upd f_59 (1 : Int32).toNatClampNeg p3)))] := hD
                generalize (upd f_59 (1 : Int32).toNatClampNeg p3) = f_61 at hP hD
                refine lv_aload_n hx hb dX6_tryPair_259 rfl (lv_at hl 5 rfl) ?_
                refine va_get (D := (dC, dI)) (ci := 6) (v := .ref h5) (C := RX6) (T := TX6) (N := 7) hx hb hts hiX6 hown hK hP 0 rfl rfl 5 (by decide) w__fieldLink_RX6_27_ShellHeap_Readers_died_I_ (fun _ h9 => h9) rfl dX6_tryPair_260 ?_
                refine lv_iconst (v := 2) hx hb dX6_tryPair_263 (by decide) ?_
                refine lv_iload hx hb dX6_tryPair_264 (lv_at hl 1 rfl) ?_
                refine va_iast hx hb hK hP hD hS 5 4 rfl rfl (by unfold vp_in; decide) dX6_tryPair_266 (fun H_62 locs hP hD hS => ?_)
                have hP : va_P (dC, dI) vwCl [(h0, .inr (6, [.ref h1, h0_1, .ref h2, .ref h3, .ref h4, .ref h5, .int r_17])), (h1, .inl (ch1, 48, .inl fh1)), (h2, .inl (ch2, 4, .inl fh2)), (h3, .inl (ch3, 4, .inl f_9)), (h4, .inl (ch4, 4, .inl f_10)), (h5, .inl (ch5, 4, .inl (upd f_61 (2 : Int32).toNatClampNeg 0)))] H_62 := hP
                have hD : va_D A [(h0, .inr (6, [.ref h1, h0_1, .ref h2, .ref h3, .ref h4, .ref h5, .int r_17])), (h1, .inl (ch1, 48, .inl fh1)), (h2, .inl (ch2, 4, .inl fh2)), (h3, .inl (ch3, 4, .inl f_9)), (h4, .inl (ch4, 4, .inl f_10)), (h5, .inl (ch5, 4, .inl (upd f_61 (2 : Int32).toNatClampNeg 0)))] := hD
                generalize (upd f_61 (2 : Int32).toNatClampNeg 0) = f_63 at hP hD
                refine lv_aload_n hx hb dX6_tryPair_267 rfl (lv_at hl 5 rfl) ?_
                refine va_get (D := (dC, dI)) (ci := 6) (v := .ref h5) (C := RX6) (T := TX6) (N := 7) hx hb hts hiX6 hown hK hP 0 rfl rfl 5 (by decide) w__fieldLink_RX6_27_ShellHeap_Readers_died_I_ (fun _ h9 => h9) rfl dX6_tryPair_268 ?_
                refine lv_iconst (v := 3) hx hb dX6_tryPair_271 (by decide) ?_
                refine lv_iload hx hb dX6_tryPair_272 (lv_at hl 9 rfl) ?_
                refine lv_iload hx hb dX6_tryPair_274 (lv_at hl 1 rfl) ?_
                refine lv_isub hx hb dX6_tryPair_276 ?_
                refine lv_topi (fun z_64 ez_64 => ?_)
                have kr_z_64_p4 := z_rng p4
                have kz_64 : (z_64).toInt = (p4).toInt - (0 : Int) := by rw [ez_64]; exact z_sub (a := (p4).toInt) (b := (0 : Int)) rfl rfl (by omega) (by omega)
                refine va_iast hx hb hK hP hD hS 5 4 rfl rfl (by unfold vp_in; decide) dX6_tryPair_277 (fun H_65 locs hP hD hS => ?_)
                have hP : va_P (dC, dI) vwCl [(h0, .inr (6, [.ref h1, h0_1, .ref h2, .ref h3, .ref h4, .ref h5, .int r_17])), (h1, .inl (ch1, 48, .inl fh1)), (h2, .inl (ch2, 4, .inl fh2)), (h3, .inl (ch3, 4, .inl f_9)), (h4, .inl (ch4, 4, .inl f_10)), (h5, .inl (ch5, 4, .inl (upd f_63 (3 : Int32).toNatClampNeg z_64)))] H_65 := hP
                have hD : va_D A [(h0, .inr (6, [.ref h1, h0_1, .ref h2, .ref h3, .ref h4, .ref h5, .int r_17])), (h1, .inl (ch1, 48, .inl fh1)), (h2, .inl (ch2, 4, .inl fh2)), (h3, .inl (ch3, 4, .inl f_9)), (h4, .inl (ch4, 4, .inl f_10)), (h5, .inl (ch5, 4, .inl (upd f_63 (3 : Int32).toNatClampNeg z_64)))] := hD
                generalize (upd f_63 (3 : Int32).toNatClampNeg z_64) = f_66 at hP hD
                refine z_backQ hQQ ?_
                have hP9 := hP.sub (ws' := [(h0, .inr (6, [.ref h1, h0_1, .ref h2, .ref h3, .ref h4, .ref h5, .int r_17])), (h1, .inl (ch1, 48, .inl fh1)), (h2, .inl (ch2, 4, .inl fh2)), (h3, .inl (ch3, 4, .inl f_9)), (h4, .inl (ch4, 4, .inl f_10)), (h5, .inl (ch5, 4, .inl f_66))]) [0, 1, 2, 3, 4, 5] rfl
                have hD9 := hD.sub (ws' := [(h0, .inr (6, [.ref h1, h0_1, .ref h2, .ref h3, .ref h4, .ref h5, .int r_17])), (h1, .inl (ch1, 48, .inl fh1)), (h2, .inl (ch2, 4, .inl fh2)), (h3, .inl (ch3, 4, .inl f_9)), (h4, .inl (ch4, 4, .inl f_10)), (h5, .inl (ch5, 4, .inl f_66))]) [0, 1, 2, 3, 4, 5] (by decide) rfl
                have hK9 := hK.sub (tys' := []) [] rfl
                refine W.widen (k := 0) (n := 0) (Nat.le_of_ble_eq_true rfl) (Nat.le_of_ble_eq_true rfl) ?_
                exact W.vret hx hb hr (fun t ht hW => ⟨⟨(), rfl, trivial, ⟨r_17, f_9, f_10, f_66, by rw [ht]; exact hP9, va_K.moved hW.alike hK9, hD9⟩⟩, hS.F ht⟩) hS.2.2 dX6_tryPair_278
              · have k_67 : (rm).toInt ≠ (-1 : Int) := z_ne c_55
                refine lv_iload hx hb dX6_tryPair_230 (lv_at hl 0 rfl) ?_
                refine lv_aload_n hx hb dX6_tryPair_232 rfl (lv_at hl 5 rfl) ?_
                refine va_get (D := (dC, dI)) (ci := 6) (v := .int rm) (C := RX6) (T := TX6) (N := 7) hx hb hts hiX6 hown hK hP 0 rfl rfl 6 (by decide) w__fieldLink_RX6_30_ShellHeap_Readers_miss_I_ (fun _ h9 => h9) rfl dX6_tryPair_233 ?_
                refine lv_icmp_ge (tgt := 278) hx hb dX6_tryPair_236 (by decide) (fun c_68 => ?_) (fun c_68 => ?_)
                · have k_69 : (rm).toInt ≤ (r_17).toInt := z_le c_68
                  refine z_backQ hQQ ?_
                  have hP9 := hP.sub (ws' := [(h0, .inr (6, [.ref h1, h0_1, .ref h2, .ref h3, .ref h4, .ref h5, .int rm])), (h1, .inl (ch1, 48, .inl fh1)), (h2, .inl (ch2, 4, .inl fh2)), (h3, .inl (ch3, 4, .inl f_9)), (h4, .inl (ch4, 4, .inl f_10)), (h5, .inl (ch5, 4, .inl fh5))]) [0, 1, 2, 3, 4, 5] rfl
                  have hD9 := hD.sub (ws' := [(h0, .inr (6, [.ref h1, h0_1, .ref h2, .ref h3, .ref h4, .ref h5, .int rm])), (h1, .inl (ch1, 48, .inl fh1)), (h2, .inl (ch2, 4, .inl fh2)), (h3, .inl (ch3, 4, .inl f_9)), (h4, .inl (ch4, 4, .inl f_10)), (h5, .inl (ch5, 4, .inl fh5))]) [0, 1, 2, 3, 4, 5] (by decide) rfl
                  have hK9 := hK.sub (tys' := []) [] rfl
                  refine W.widen (k := 0) (n := 0) (Nat.le_of_ble_eq_true rfl) (Nat.le_of_ble_eq_true rfl) ?_
                  exact W.vret hx hb hr (fun t ht hW => ⟨⟨(), rfl, trivial, ⟨rm, f_9, f_10, fh5, by rw [ht]; exact hP9, va_K.moved hW.alike hK9, hD9⟩⟩, hS.F ht⟩) hS.2.2 dX6_tryPair_278
                · have k_70 : (rm).toInt > (r_17).toInt := z_nle c_68
                  refine lv_aload_n hx hb dX6_tryPair_239 rfl (lv_at hl 5 rfl) ?_
                  refine lv_iload hx hb dX6_tryPair_240 (lv_at hl 0 rfl) ?_
                  refine va_put (D := (dC, dI)) (ci := 6) (v := .int r_17) (ty := .int) (C := RX6) (T := TX6) (N := 7) hx hb hts hiX6 tyX6 tyX6_ok nmX6 hown hK hP hD hS 0 rfl rfl 6 (by decide) w__fieldLink_RX6_30_ShellHeap_Readers_miss_I_ (fun _ h9 => h9) rfl (by decide +kernel) rfl rfl (Nat.le_of_ble_eq_true rfl) dX6_tryPair_242 (fun H_71 locs hP hD hS => ?_)
                  have hP : va_P (dC, dI) vwCl [(h0, .inr (6, [.ref h1, h0_1, .ref h2, .ref h3, .ref h4, .ref h5, .int r_17])), (h1, .inl (ch1, 48, .inl fh1)), (h2, .inl (ch2, 4, .inl fh2)), (h3, .inl (ch3, 4, .inl f_9)), (h4, .inl (ch4, 4, .inl f_10)), (h5, .inl (ch5, 4, .inl fh5))] H_71 := hP
                  have hD : va_D A [(h0, .inr (6, [.ref h1, h0_1, .ref h2, .ref h3, .ref h4, .ref h5, .int r_17])), (h1, .inl (ch1, 48, .inl fh1)), (h2, .inl (ch2, 4, .inl fh2)), (h3, .inl (ch3, 4, .inl f_9)), (h4, .inl (ch4, 4, .inl f_10)), (h5, .inl (ch5, 4, .inl fh5))] := hD
                  refine lv_aload_n hx hb dX6_tryPair_245 rfl (lv_at hl 5 rfl) ?_
                  refine va_get (D := (dC, dI)) (ci := 6) (v := .ref h5) (C := RX6) (T := TX6) (N := 7) hx hb hts hiX6 hown hK hP 0 rfl rfl 5 (by decide) w__fieldLink_RX6_27_ShellHeap_Readers_died_I_ (fun _ h9 => h9) rfl dX6_tryPair_246 ?_
                  refine lv_iconst (v := 0) hx hb dX6_tryPair_249 (by decide) ?_
                  refine lv_iload_n hx hb dX6_tryPair_250 rfl (lv_at hl 7 rfl) ?_
                  refine va_iast hx hb hK hP hD hS 5 4 rfl rfl (by unfold vp_in; decide) dX6_tryPair_251 (fun H_72 locs hP hD hS => ?_)
                  have hP : va_P (dC, dI) vwCl [(h0, .inr (6, [.ref h1, h0_1, .ref h2, .ref h3, .ref h4, .ref h5, .int r_17])), (h1, .inl (ch1, 48, .inl fh1)), (h2, .inl (ch2, 4, .inl fh2)), (h3, .inl (ch3, 4, .inl f_9)), (h4, .inl (ch4, 4, .inl f_10)), (h5, .inl (ch5, 4, .inl (upd fh5 (0 : Int32).toNatClampNeg p2)))] H_72 := hP
                  have hD : va_D A [(h0, .inr (6, [.ref h1, h0_1, .ref h2, .ref h3, .ref h4, .ref h5, .int r_17])), (h1, .inl (ch1, 48, .inl fh1)), (h2, .inl (ch2, 4, .inl fh2)), (h3, .inl (ch3, 4, .inl f_9)), (h4, .inl (ch4, 4, .inl f_10)), (h5, .inl (ch5, 4, .inl (upd fh5 (0 : Int32).toNatClampNeg p2)))] := hD
                  generalize (upd fh5 (0 : Int32).toNatClampNeg p2) = f_73 at hP hD
                  refine lv_aload_n hx hb dX6_tryPair_252 rfl (lv_at hl 5 rfl) ?_
                  refine va_get (D := (dC, dI)) (ci := 6) (v := .ref h5) (C := RX6) (T := TX6) (N := 7) hx hb hts hiX6 hown hK hP 0 rfl rfl 5 (by decide) w__fieldLink_RX6_27_ShellHeap_Readers_died_I_ (fun _ h9 => h9) rfl dX6_tryPair_253 ?_
                  refine lv_iconst (v := 1) hx hb dX6_tryPair_256 (by decide) ?_
                  refine lv_iload_n hx hb dX6_tryPair_257 rfl (lv_at hl 8 rfl) ?_
                  refine va_iast hx hb hK hP hD hS 5 4 rfl rfl (by unfold vp_in; decide) dX6_tryPair_258 (fun H_74 locs hP hD hS => ?_)
                  have hP : va_P (dC, dI) vwCl [(h0, .inr (6, [.ref h1, h0_1, .ref h2, .ref h3, .ref h4, .ref h5, .int r_17])), (h1, .inl (ch1, 48, .inl fh1)), (h2, .inl (ch2, 4, .inl fh2)), (h3, .inl (ch3, 4, .inl f_9)), (h4, .inl (ch4, 4, .inl f_10)), (h5, .inl (ch5, 4, .inl (upd f_73 (1 : Int32).toNatClampNeg p3)))] H_74 := hP
                  have hD : va_D A [(h0, .inr (6, [.ref h1, h0_1, .ref h2, .ref h3, .ref h4, .ref h5, .int r_17])), (h1, .inl (ch1, 48, .inl fh1)), (h2, .inl (ch2, 4, .inl fh2)), (h3, .inl (ch3, 4, .inl f_9)), (h4, .inl (ch4, 4, .inl f_10)), (h5, .inl (ch5, 4, .inl (upd f_73 (1 : Int32).toNatClampNeg p3)))] := hD
                  generalize (upd f_73 (1 : Int32).toNatClampNeg p3) = f_75 at hP hD
                  refine lv_aload_n hx hb dX6_tryPair_259 rfl (lv_at hl 5 rfl) ?_
                  refine va_get (D := (dC, dI)) (ci := 6) (v := .ref h5) (C := RX6) (T := TX6) (N := 7) hx hb hts hiX6 hown hK hP 0 rfl rfl 5 (by decide) w__fieldLink_RX6_27_ShellHeap_Readers_died_I_ (fun _ h9 => h9) rfl dX6_tryPair_260 ?_
                  refine lv_iconst (v := 2) hx hb dX6_tryPair_263 (by decide) ?_
                  refine lv_iload hx hb dX6_tryPair_264 (lv_at hl 1 rfl) ?_
                  refine va_iast hx hb hK hP hD hS 5 4 rfl rfl (by unfold vp_in; decide) dX6_tryPair_266 (fun H_76 locs hP hD hS => ?_)
                  have hP : va_P (dC, dI) vwCl [(h0, .inr (6, [.ref h1, h0_1, .ref h2, .ref h3, .ref h4, .ref h5, .int r_17])), (h1, .inl (ch1, 48, .inl fh1)), (h2, .inl (ch2, 4, .inl fh2)), (h3, .inl (ch3, 4, .inl f_9)), (h4, .inl (ch4, 4, .inl f_10)), (h5, .inl (ch5, 4, .inl (upd f_75 (2 : Int32).toNatClampNeg 0)))] H_76 := hP
                  have hD : va_D A [(h0, .inr (6, [.ref h1, h0_1, .ref h2, .ref h3, .ref h4, .ref h5, .int r_17])), (h1, .inl (ch1, 48, .inl fh1)), (h2, .inl (ch2, 4, .inl fh2)), (h3, .inl (ch3, 4, .inl f_9)), (h4, .inl (ch4, 4, .inl f_10)), (h5, .inl (ch5, 4, .inl (upd f_75 (2 : Int32).toNatClampNeg 0)))] := hD
                  generalize (upd f_75 (2 : Int32).toNatClampNeg 0) = f_77 at hP hD
                  refine lv_aload_n hx hb dX6_tryPair_267 rfl (lv_at hl 5 rfl) ?_
                  refine va_get (D := (dC, dI)) (ci := 6) (v := .ref h5) (C := RX6) (T := TX6) (N := 7) hx hb hts hiX6 hown hK hP 0 rfl rfl 5 (by decide) w__fieldLink_RX6_27_ShellHeap_Readers_died_I_ (fun _ h9 => h9) rfl dX6_tryPair_268 ?_
                  refine lv_iconst (v := 3) hx hb dX6_tryPair_271 (by decide) ?_
                  refine lv_iload hx hb dX6_tryPair_272 (lv_at hl 9 rfl) ?_
                  refine lv_iload hx hb dX6_tryPair_274 (lv_at hl 1 rfl) ?_
                  refine lv_isub hx hb dX6_tryPair_276 ?_
                  refine lv_topi (fun z_78 ez_78 => ?_)
                  have kr_z_78_p4 := z_rng p4
                  have kz_78 : (z_78).toInt = (p4).toInt - (0 : Int) := by rw [ez_78]; exact z_sub (a := (p4).toInt) (b := (0 : Int)) rfl rfl (by omega) (by omega)
                  refine va_iast hx hb hK hP hD hS 5 4 rfl rfl (by unfold vp_in; decide) dX6_tryPair_277 (fun H_79 locs hP hD hS => ?_)
                  have hP : va_P (dC, dI) vwCl [(h0, .inr (6, [.ref h1, h0_1, .ref h2, .ref h3, .ref h4, .ref h5, .int r_17])), (h1, .inl (ch1, 48, .inl fh1)), (h2, .inl (ch2, 4, .inl fh2)), (h3, .inl (ch3, 4, .inl f_9)), (h4, .inl (ch4, 4, .inl f_10)), (h5, .inl (ch5, 4, .inl (upd f_77 (3 : Int32).toNatClampNeg z_78)))] H_79 := hP
                  have hD : va_D A [(h0, .inr (6, [.ref h1, h0_1, .ref h2, .ref h3, .ref h4, .ref h5, .int r_17])), (h1, .inl (ch1, 48, .inl fh1)), (h2, .inl (ch2, 4, .inl fh2)), (h3, .inl (ch3, 4, .inl f_9)), (h4, .inl (ch4, 4, .inl f_10)), (h5, .inl (ch5, 4, .inl (upd f_77 (3 : Int32).toNatClampNeg z_78)))] := hD
                  generalize (upd f_77 (3 : Int32).toNatClampNeg z_78) = f_80 at hP hD
                  refine z_backQ hQQ ?_
                  have hP9 := hP.sub (ws' := [(h0, .inr (6, [.ref h1, h0_1, .ref h2, .ref h3, .ref h4, .ref h5, .int r_17])), (h1, .inl (ch1, 48, .inl fh1)), (h2, .inl (ch2, 4, .inl fh2)), (h3, .inl (ch3, 4, .inl f_9)), (h4, .inl (ch4, 4, .inl f_10)), (h5, .inl (ch5, 4, .inl f_80))]) [0, 1, 2, 3, 4, 5] rfl
                  have hD9 := hD.sub (ws' := [(h0, .inr (6, [.ref h1, h0_1, .ref h2, .ref h3, .ref h4, .ref h5, .int r_17])), (h1, .inl (ch1, 48, .inl fh1)), (h2, .inl (ch2, 4, .inl fh2)), (h3, .inl (ch3, 4, .inl f_9)), (h4, .inl (ch4, 4, .inl f_10)), (h5, .inl (ch5, 4, .inl f_80))]) [0, 1, 2, 3, 4, 5] (by decide) rfl
                  have hK9 := hK.sub (tys' := []) [] rfl
                  refine W.widen (k := 0) (n := 0) (Nat.le_of_ble_eq_true rfl) (Nat.le_of_ble_eq_true rfl) ?_
                  exact W.vret hx hb hr (fun t ht hW => ⟨⟨(), rfl, trivial, ⟨r_17, f_9, f_10, f_80, by rw [ht]; exact hP9, va_K.moved hW.alike hK9, hD9⟩⟩, hS.F ht⟩) hS.2.2 dX6_tryPair_278
            · have k_81 : (r_17).toInt > (r_51).toInt := z_nle c_53
              refine lv_iinc (v := 1) (lv' := [(8, .int 1), (9, .int r_17), (7, .int c_8), (6, .int a_7), (5, .int z_2), (0, .ref h0), (1, .int p1), (2, .int p2), (3, .int p3), (4, .int p4)]) hx hb dX6_tryPair_211 hl (k := 1) rfl (by decide) (by decide) rfl (fun ls hl => ?_)
              refine lv_aload_n hx hb dX6_tryPair_214 rfl (lv_at hl 5 rfl) ?_
              refine lv_iload hx hb dX6_tryPair_215 (lv_at hl 0 rfl) ?_
              have hPc := hP.sub (ws' := [(h0, .inr (6, [.ref h1, h0_1, .ref h2, .ref h3, .ref h4, .ref h5, .int rm])), (h3, .inl (ch3, 4, .inl f_9)), (h4, .inl (ch4, 4, .inl f_10))]) [0, 3, 4] rfl
              have hDc := hD.sub (ws' := [(h0, .inr (6, [.ref h1, h0_1, .ref h2, .ref h3, .ref h4, .ref h5, .int rm])), (h3, .inl (ch3, 4, .inl f_9)), (h4, .inl (ch4, 4, .inl f_10))]) [0, 3, 4] (by decide) rfl
              have hKc := hK.sub (tys' := [(ch3, .int), (ch4, .int)]) [2, 3] rfl
              have hFc := va_free (ws := []) (wc := []) (z_D0 _) hS hA [] rfl
              refine va_calli (va_runV (As := [.int 1]) (rest := []) ⟨hx, hb, hml, hown, hts⟩ (s_X6_missAt l dC dI H_50.size h0 1 (.ref h1) h0_1 (.ref h2) h3 h4 (.ref h5) (.int rm) ch3 f_9 ch4 f_10) (cwV 1 hts gw_s_X6_tryPair_s_X6_missAt_47 rfl rfl rfl (by decide +kernel) ⟨Nat.le_of_ble_eq_true rfl, Nat.le_of_ble_eq_true rfl⟩) ⟨z_blind, va_recv hKc hPc (ci := 6) (q0 := 0) rfl rfl, z_pre hPc hKc hDc⟩ rfl rfl hl.1 rfl (lv_room (Nat.le_of_ble_eq_true rfl)) dX6_tryPair_217 ⟨Nat.le_of_ble_eq_true rfl, Nat.le_of_ble_eq_true rfl⟩) hS (fun q _ h => hFc q h) hFc (fun r_83 u t H_82 locs ht hvm hw_84 hB hz1 hk1 hS => ?_)
              have hP := z_pure hP hk1
              have hP : va_P (dC, dI) vwCl [(h0, .inr (6, [.ref h1, h0_1, .ref h2, .ref h3, .ref h4, .ref h5, .int rm])), (h1, .inl (ch1, 48, .inl fh1)), (h2, .inl (ch2, 4, .inl fh2)), (h3, .inl (ch3, 4, .inl f_9)), (h4, .inl (ch4, 4, .inl f_10)), (h5, .inl (ch5, 4, .inl fh5))] H_82 := hP
              have hD : va_D A [(h0, .inr (6, [.ref h1, h0_1, .ref h2, .ref h3, .ref h4, .ref h5, .int rm])), (h1, .inl (ch1, 48, .inl fh1)), (h2, .inl (ch2, 4, .inl fh2)), (h3, .inl (ch3, 4, .inl f_9)), (h4, .inl (ch4, 4, .inl f_10)), (h5, .inl (ch5, 4, .inl fh5))] := hD
              clear hPc hDc hKc
              refine lv_istore (lv' := [(9, .int r_83), (8, .int 1), (7, .int c_8), (6, .int a_7), (5, .int z_2), (0, .ref h0), (1, .int p1), (2, .int p2), (3, .int p3), (4, .int p4)]) hx hb dX6_tryPair_220 hl (by decide) rfl (fun ls hl => ?_)
              refine lv_aload_n hx hb dX6_tryPair_222 rfl (lv_at hl 5 rfl) ?_
              refine va_get (D := (dC, dI)) (ci := 6) (v := .int rm) (C := RX6) (T := TX6) (N := 7) hx hb hts hiX6 hown hK hP 0 rfl rfl 6 (by decide) w__fieldLink_RX6_30_ShellHeap_Readers_miss_I_ (fun _ h9 => h9) rfl dX6_tryPair_223 ?_
              refine lv_iconst (v := (-1)) hx hb dX6_tryPair_226 (by decide) ?_
              refine lv_icmp_eq (tgt := 239) hx hb dX6_tryPair_227 (by decide) (fun c_85 => ?_) (fun c_85 => ?_)
              · have k_86 : (rm).toInt = (-1 : Int) := z_eq c_85
                obtain rfl : rm = (-1) := z_eq' (show (rm).toInt = (-1 : Int) by omega)
                refine lv_aload_n hx hb dX6_tryPair_239 rfl (lv_at hl 5 rfl) ?_
                refine lv_iload hx hb dX6_tryPair_240 (lv_at hl 0 rfl) ?_
                refine va_put (D := (dC, dI)) (ci := 6) (v := .int r_83) (ty := .int) (C := RX6) (T := TX6) (N := 7) hx hb hts hiX6 tyX6 tyX6_ok nmX6 hown hK hP hD hS 0 rfl rfl 6 (by decide) w__fieldLink_RX6_30_ShellHeap_Readers_miss_I_ (fun _ h9 => h9) rfl (by decide +kernel) rfl rfl (Nat.le_of_ble_eq_true rfl) dX6_tryPair_242 (fun H_87 locs hP hD hS => ?_)
                have hP : va_P (dC, dI) vwCl [(h0, .inr (6, [.ref h1, h0_1, .ref h2, .ref h3, .ref h4, .ref h5, .int r_83])), (h1, .inl (ch1, 48, .inl fh1)), (h2, .inl (ch2, 4, .inl fh2)), (h3, .inl (ch3, 4, .inl f_9)), (h4, .inl (ch4, 4, .inl f_10)), (h5, .inl (ch5, 4, .inl fh5))] H_87 := hP
                have hD : va_D A [(h0, .inr (6, [.ref h1, h0_1, .ref h2, .ref h3, .ref h4, .ref h5, .int r_83])), (h1, .inl (ch1, 48, .inl fh1)), (h2, .inl (ch2, 4, .inl fh2)), (h3, .inl (ch3, 4, .inl f_9)), (h4, .inl (ch4, 4, .inl f_10)), (h5, .inl (ch5, 4, .inl fh5))] := hD
                refine lv_aload_n hx hb dX6_tryPair_245 rfl (lv_at hl 5 rfl) ?_
                refine va_get (D := (dC, dI)) (ci := 6) (v := .ref h5) (C := RX6) (T := TX6) (N := 7) hx hb hts hiX6 hown hK hP 0 rfl rfl 5 (by decide) w__fieldLink_RX6_27_ShellHeap_Readers_died_I_ (fun _ h9 => h9) rfl dX6_tryPair_246 ?_
                refine lv_iconst (v := 0) hx hb dX6_tryPair_249 (by decide) ?_
                refine lv_iload_n hx hb dX6_tryPair_250 rfl (lv_at hl 7 rfl) ?_
                refine va_iast hx hb hK hP hD hS 5 4 rfl rfl (by unfold vp_in; decide) dX6_tryPair_251 (fun H_88 locs hP hD hS => ?_)
                have hP : va_P (dC, dI) vwCl [(h0, .inr (6, [.ref h1, h0_1, .ref h2, .ref h3, .ref h4, .ref h5, .int r_83])), (h1, .inl (ch1, 48, .inl fh1)), (h2, .inl (ch2, 4, .inl fh2)), (h3, .inl (ch3, 4, .inl f_9)), (h4, .inl (ch4, 4, .inl f_10)), (h5, .inl (ch5, 4, .inl (upd fh5 (0 : Int32).toNatClampNeg p2)))] H_88 := hP
                have hD : va_D A [(h0, .inr (6, [.ref h1, h0_1, .ref h2, .ref h3, .ref h4, .ref h5, .int r_83])), (h1, .inl (ch1, 48, .inl fh1)), (h2, .inl (ch2, 4, .inl fh2)), (h3, .inl (ch3, 4, .inl f_9)), (h4, .inl (ch4, 4, .inl f_10)), (h5, .inl (ch5, 4, .inl (upd fh5 (0 : Int32).toNatClampNeg p2)))] := hD
                generalize (upd fh5 (0 : Int32).toNatClampNeg p2) = f_89 at hP hD
                refine lv_aload_n hx hb dX6_tryPair_252 rfl (lv_at hl 5 rfl) ?_
                refine va_get (D := (dC, dI)) (ci := 6) (v := .ref h5) (C := RX6) (T := TX6) (N := 7) hx hb hts hiX6 hown hK hP 0 rfl rfl 5 (by decide) w__fieldLink_RX6_27_ShellHeap_Readers_died_I_ (fun _ h9 => h9) rfl dX6_tryPair_253 ?_
                refine lv_iconst (v := 1) hx hb dX6_tryPair_256 (by decide) ?_
                refine lv_iload_n hx hb dX6_tryPair_257 rfl (lv_at hl 8 rfl) ?_
                refine va_iast hx hb hK hP hD hS 5 4 rfl rfl (by unfold vp_in; decide) dX6_tryPair_258 (fun H_90 locs hP hD hS => ?_)
                have hP : va_P (dC, dI) vwCl [(h0, .inr (6, [.ref h1, h0_1, .ref h2, .ref h3, .ref h4, .ref h5, .int r_83])), (h1, .inl (ch1, 48, .inl fh1)), (h2, .inl (ch2, 4, .inl fh2)), (h3, .inl (ch3, 4, .inl f_9)), (h4, .inl (ch4, 4, .inl f_10)), (h5, .inl (ch5, 4, .inl (upd f_89 (1 : Int32).toNatClampNeg p3)))] H_90 := hP
                have hD : va_D A [(h0, .inr (6, [.ref h1, h0_1, .ref h2, .ref h3, .ref h4, .ref h5, .int r_83])), (h1, .inl (ch1, 48, .inl fh1)), (h2, .inl (ch2, 4, .inl fh2)), (h3, .inl (ch3, 4, .inl f_9)), (h4, .inl (ch4, 4, .inl f_10)), (h5, .inl (ch5, 4, .inl (upd f_89 (1 : Int32).toNatClampNeg p3)))] := hD
                generalize (upd f_89 (1 : Int32).toNatClampNeg p3) = f_91 at hP hD
                refine lv_aload_n hx hb dX6_tryPair_259 rfl (lv_at hl 5 rfl) ?_
                refine va_get (D := (dC, dI)) (ci := 6) (v := .ref h5) (C := RX6) (T := TX6) (N := 7) hx hb hts hiX6 hown hK hP 0 rfl rfl 5 (by decide) w__fieldLink_RX6_27_ShellHeap_Readers_died_I_ (fun _ h9 => h9) rfl dX6_tryPair_260 ?_
                refine lv_iconst (v := 2) hx hb dX6_tryPair_263 (by decide) ?_
                refine lv_iload hx hb dX6_tryPair_264 (lv_at hl 1 rfl) ?_
                refine va_iast hx hb hK hP hD hS 5 4 rfl rfl (by unfold vp_in; decide) dX6_tryPair_266 (fun H_92 locs hP hD hS => ?_)
                have hP : va_P (dC, dI) vwCl [(h0, .inr (6, [.ref h1, h0_1, .ref h2, .ref h3, .ref h4, .ref h5, .int r_83])), (h1, .inl (ch1, 48, .inl fh1)), (h2, .inl (ch2, 4, .inl fh2)), (h3, .inl (ch3, 4, .inl f_9)), (h4, .inl (ch4, 4, .inl f_10)), (h5, .inl (ch5, 4, .inl (upd f_91 (2 : Int32).toNatClampNeg 1)))] H_92 := hP
                have hD : va_D A [(h0, .inr (6, [.ref h1, h0_1, .ref h2, .ref h3, .ref h4, .ref h5, .int r_83])), (h1, .inl (ch1, 48, .inl fh1)), (h2, .inl (ch2, 4, .inl fh2)), (h3, .inl (ch3, 4, .inl f_9)), (h4, .inl (ch4, 4, .inl f_10)), (h5, .inl (ch5, 4, .inl (upd f_91 (2 : Int32).toNatClampNeg 1)))] := hD
                generalize (upd f_91 (2 : Int32).toNatClampNeg 1) = f_93 at hP hD
                refine lv_aload_n hx hb dX6_tryPair_267 rfl (lv_at hl 5 rfl) ?_
                refine va_get (D := (dC, dI)) (ci := 6) (v := .ref h5) (C := RX6) (T := TX6) (N := 7) hx hb hts hiX6 hown hK hP 0 rfl rfl 5 (by decide) w__fieldLink_RX6_27_ShellHeap_Readers_died_I_ (fun _ h9 => h9) rfl dX6_tryPair_268 ?_
                refine lv_iconst (v := 3) hx hb dX6_tryPair_271 (by decide) ?_
                refine lv_iload hx hb dX6_tryPair_272 (lv_at hl 9 rfl) ?_
                refine lv_iload hx hb dX6_tryPair_274 (lv_at hl 1 rfl) ?_
                refine lv_isub hx hb dX6_tryPair_276 ?_
                refine lv_topi (fun z_94 ez_94 => ?_)
                have kr_z_94_p4 := z_rng p4
                have kz_94 : (z_94).toInt = (p4).toInt - (1 : Int) := by rw [ez_94]; exact z_sub (a := (p4).toInt) (b := (1 : Int)) rfl rfl (by omega) (by omega)
                refine va_iast hx hb hK hP hD hS 5 4 rfl rfl (by unfold vp_in; decide) dX6_tryPair_277 (fun H_95 locs hP hD hS => ?_)
                have hP : va_P (dC, dI) vwCl [(h0, .inr (6, [.ref h1, h0_1, .ref h2, .ref h3, .ref h4, .ref h5, .int r_83])), (h1, .inl (ch1, 48, .inl fh1)), (h2, .inl (ch2, 4, .inl fh2)), (h3, .inl (ch3, 4, .inl f_9)), (h4, .inl (ch4, 4, .inl f_10)), (h5, .inl (ch5, 4, .inl (upd f_93 (3 : Int32).toNatClampNeg z_94)))] H_95 := hP
                have hD : va_D A [(h0, .inr (6, [.ref h1, h0_1, .ref h2, .ref h3, .ref h4, .ref h5, .int r_83])), (h1, .inl (ch1, 48, .inl fh1)), (h2, .inl (ch2, 4, .inl fh2)), (h3, .inl (ch3, 4, .inl f_9)), (h4, .inl (ch4, 4, .inl f_10)), (h5, .inl (ch5, 4, .inl (upd f_93 (3 : Int32).toNatClampNeg z_94)))] := hD
                generalize (upd f_93 (3 : Int32).toNatClampNeg z_94) = f_96 at hP hD
                refine z_backQ hQQ ?_
                have hP9 := hP.sub (ws' := [(h0, .inr (6, [.ref h1, h0_1, .ref h2, .ref h3, .ref h4, .ref h5, .int r_83])), (h1, .inl (ch1, 48, .inl fh1)), (h2, .inl (ch2, 4, .inl fh2)), (h3, .inl (ch3, 4, .inl f_9)), (h4, .inl (ch4, 4, .inl f_10)), (h5, .inl (ch5, 4, .inl f_96))]) [0, 1, 2, 3, 4, 5] rfl
                have hD9 := hD.sub (ws' := [(h0, .inr (6, [.ref h1, h0_1, .ref h2, .ref h3, .ref h4, .ref h5, .int r_83])), (h1, .inl (ch1, 48, .inl fh1)), (h2, .inl (ch2, 4, .inl fh2)), (h3, .inl (ch3, 4, .inl f_9)), (h4, .inl (ch4, 4, .inl f_10)), (h5, .inl (ch5, 4, .inl f_96))]) [0, 1, 2, 3, 4, 5] (by decide) rfl
                have hK9 := hK.sub (tys' := []) [] rfl
                refine W.widen (k := 0) (n := 0) (Nat.le_of_ble_eq_true rfl) (Nat.le_of_ble_eq_true rfl) ?_
                exact W.vret hx hb hr (fun t ht hW => ⟨⟨(), rfl, trivial, ⟨r_83, f_9, f_10, f_96, by rw [ht]; exact hP9, va_K.moved hW.alike hK9, hD9⟩⟩, hS.F ht⟩) hS.2.2 dX6_tryPair_278
              · have k_97 : (rm).toInt ≠ (-1 : Int) := z_ne c_85
                refine lv_iload hx hb dX6_tryPair_230 (lv_at hl 0 rfl) ?_
                refine lv_aload_n hx hb dX6_tryPair_232 rfl (lv_at hl 5 rfl) ?_
                refine va_get (D := (dC, dI)) (ci := 6) (v := .int rm) (C := RX6) (T := TX6) (N := 7) hx hb hts hiX6 hown hK hP 0 rfl rfl 6 (by decide) w__fieldLink_RX6_30_ShellHeap_Readers_miss_I_ (fun _ h9 => h9) rfl dX6_tryPair_233 ?_
                refine lv_icmp_ge (tgt := 278) hx hb dX6_tryPair_236 (by decide) (fun c_98 => ?_) (fun c_98 => ?_)
                · have k_99 : (rm).toInt ≤ (r_83).toInt := z_le c_98
                  refine z_backQ hQQ ?_
                  have hP9 := hP.sub (ws' := [(h0, .inr (6, [.ref h1, h0_1, .ref h2, .ref h3, .ref h4, .ref h5, .int rm])), (h1, .inl (ch1, 48, .inl fh1)), (h2, .inl (ch2, 4, .inl fh2)), (h3, .inl (ch3, 4, .inl f_9)), (h4, .inl (ch4, 4, .inl f_10)), (h5, .inl (ch5, 4, .inl fh5))]) [0, 1, 2, 3, 4, 5] rfl
                  have hD9 := hD.sub (ws' := [(h0, .inr (6, [.ref h1, h0_1, .ref h2, .ref h3, .ref h4, .ref h5, .int rm])), (h1, .inl (ch1, 48, .inl fh1)), (h2, .inl (ch2, 4, .inl fh2)), (h3, .inl (ch3, 4, .inl f_9)), (h4, .inl (ch4, 4, .inl f_10)), (h5, .inl (ch5, 4, .inl fh5))]) [0, 1, 2, 3, 4, 5] (by decide) rfl
                  have hK9 := hK.sub (tys' := []) [] rfl
                  refine W.widen (k := 0) (n := 0) (Nat.le_of_ble_eq_true rfl) (Nat.le_of_ble_eq_true rfl) ?_
                  exact W.vret hx hb hr (fun t ht hW => ⟨⟨(), rfl, trivial, ⟨rm, f_9, f_10, fh5, by rw [ht]; exact hP9, va_K.moved hW.alike hK9, hD9⟩⟩, hS.F ht⟩) hS.2.2 dX6_tryPair_278
                · have k_100 : (rm).toInt > (r_83).toInt := z_nle c_98
                  refine lv_aload_n hx hb dX6_tryPair_239 rfl (lv_at hl 5 rfl) ?_
                  refine lv_iload hx hb dX6_tryPair_240 (lv_at hl 0 rfl) ?_
                  refine va_put (D := (dC, dI)) (ci := 6) (v := .int r_83) (ty := .int) (C := RX6) (T := TX6) (N := 7) hx hb hts hiX6 tyX6 tyX6_ok nmX6 hown hK hP hD hS 0 rfl rfl 6 (by decide) w__fieldLink_RX6_30_ShellHeap_Readers_miss_I_ (fun _ h9 => h9) rfl (by decide +kernel) rfl rfl (Nat.le_of_ble_eq_true rfl) dX6_tryPair_242 (fun H_101 locs hP hD hS => ?_)
                  have hP : va_P (dC, dI) vwCl [(h0, .inr (6, [.ref h1, h0_1, .ref h2, .ref h3, .ref h4, .ref h5, .int r_83])), (h1, .inl (ch1, 48, .inl fh1)), (h2, .inl (ch2, 4, .inl fh2)), (h3, .inl (ch3, 4, .inl f_9)), (h4, .inl (ch4, 4, .inl f_10)), (h5, .inl (ch5, 4, .inl fh5))] H_101 := hP
                  have hD : va_D A [(h0, .inr (6, [.ref h1, h0_1, .ref h2, .ref h3, .ref h4, .ref h5, .int r_83])), (h1, .inl (ch1, 48, .inl fh1)), (h2, .inl (ch2, 4, .inl fh2)), (h3, .inl (ch3, 4, .inl f_9)), (h4, .inl (ch4, 4, .inl f_10)), (h5, .inl (ch5, 4, .inl fh5))] := hD
                  refine lv_aload_n hx hb dX6_tryPair_245 rfl (lv_at hl 5 rfl) ?_
                  refine va_get (D := (dC, dI)) (ci := 6) (v := .ref h5) (C := RX6) (T := TX6) (N := 7) hx hb hts hiX6 hown hK hP 0 rfl rfl 5 (by decide) w__fieldLink_RX6_27_ShellHeap_Readers_died_I_ (fun _ h9 => h9) rfl dX6_tryPair_246 ?_
                  refine lv_iconst (v := 0) hx hb dX6_tryPair_249 (by decide) ?_
                  refine lv_iload_n hx hb dX6_tryPair_250 rfl (lv_at hl 7 rfl) ?_
                  refine va_iast hx hb hK hP hD hS 5 4 rfl rfl (by unfold vp_in; decide) dX6_tryPair_251 (fun H_102 locs hP hD hS => ?_)
                  have hP : va_P (dC, dI) vwCl [(h0, .inr (6, [.ref h1, h0_1, .ref h2, .ref h3, .ref h4, .ref h5, .int r_83])), (h1, .inl (ch1, 48, .inl fh1)), (h2, .inl (ch2, 4, .inl fh2)), (h3, .inl (ch3, 4, .inl f_9)), (h4, .inl (ch4, 4, .inl f_10)), (h5, .inl (ch5, 4, .inl (upd fh5 (0 : Int32).toNatClampNeg p2)))] H_102 := hP
                  have hD : va_D A [(h0, .inr (6, [.ref h1, h0_1, .ref h2, .ref h3, .ref h4, .ref h5, .int r_83])), (h1, .inl (ch1, 48, .inl fh1)), (h2, .inl (ch2, 4, .inl fh2)), (h3, .inl (ch3, 4, .inl f_9)), (h4, .inl (ch4, 4, .inl f_10)), (h5, .inl (ch5, 4, .inl (upd fh5 (0 : Int32).toNatClampNeg p2)))] := hD
                  generalize (upd fh5 (0 : Int32).toNatClampNeg p2) = f_103 at hP hD
                  refine lv_aload_n hx hb dX6_tryPair_252 rfl (lv_at hl 5 rfl) ?_
                  refine va_get (D := (dC, dI)) (ci := 6) (v := .ref h5) (C := RX6) (T := TX6) (N := 7) hx hb hts hiX6 hown hK hP 0 rfl rfl 5 (by decide) w__fieldLink_RX6_27_ShellHeap_Readers_died_I_ (fun _ h9 => h9) rfl dX6_tryPair_253 ?_
                  refine lv_iconst (v := 1) hx hb dX6_tryPair_256 (by decide) ?_
                  refine lv_iload_n hx hb dX6_tryPair_257 rfl (lv_at hl 8 rfl) ?_
                  refine va_iast hx hb hK hP hD hS 5 4 rfl rfl (by unfold vp_in; decide) dX6_tryPair_258 (fun H_104 locs hP hD hS => ?_)
                  have hP : va_P (dC, dI) vwCl [(h0, .inr (6, [.ref h1, h0_1, .ref h2, .ref h3, .ref h4, .ref h5, .int r_83])), (h1, .inl (ch1, 48, .inl fh1)), (h2, .inl (ch2, 4, .inl fh2)), (h3, .inl (ch3, 4, .inl f_9)), (h4, .inl (ch4, 4, .inl f_10)), (h5, .inl (ch5, 4, .inl (upd f_103 (1 : Int32).toNatClampNeg p3)))] H_104 := hP
                  have hD : va_D A [(h0, .inr (6, [.ref h1, h0_1, .ref h2, .ref h3, .ref h4, .ref h5, .int r_83])), (h1, .inl (ch1, 48, .inl fh1)), (h2, .inl (ch2, 4, .inl fh2)), (h3, .inl (ch3, 4, .inl f_9)), (h4, .inl (ch4, 4, .inl f_10)), (h5, .inl (ch5, 4, .inl (upd f_103 (1 : Int32).toNatClampNeg p3)))] := hD
                  generalize (upd f_103 (1 : Int32).toNatClampNeg p3) = f_105 at hP hD
                  refine lv_aload_n hx hb dX6_tryPair_259 rfl (lv_at hl 5 rfl) ?_
                  refine va_get (D := (dC, dI)) (ci := 6) (v := .ref h5) (C := RX6) (T := TX6) (N := 7) hx hb hts hiX6 hown hK hP 0 rfl rfl 5 (by decide) w__fieldLink_RX6_27_ShellHeap_Readers_died_I_ (fun _ h9 => h9) rfl dX6_tryPair_260 ?_
                  refine lv_iconst (v := 2) hx hb dX6_tryPair_263 (by decide) ?_
                  refine lv_iload hx hb dX6_tryPair_264 (lv_at hl 1 rfl) ?_
                  refine va_iast hx hb hK hP hD hS 5 4 rfl rfl (by unfold vp_in; decide) dX6_tryPair_266 (fun H_106 locs hP hD hS => ?_)
                  have hP : va_P (dC, dI) vwCl [(h0, .inr (6, [.ref h1, h0_1, .ref h2, .ref h3, .ref h4, .ref h5, .int r_83])), (h1, .inl (ch1, 48, .inl fh1)), (h2, .inl (ch2, 4, .inl fh2)), (h3, .inl (ch3, 4, .inl f_9)), (h4, .inl (ch4, 4, .inl f_10)), (h5, .inl (ch5, 4, .inl (upd f_105 (2 : Int32).toNatClampNeg 1)))] H_106 := hP
                  have hD : va_D A [(h0, .inr (6, [.ref h1, h0_1, .ref h2, .ref h3, .ref h4, .ref h5, .int r_83])), (h1, .inl (ch1, 48, .inl fh1)), (h2, .inl (ch2, 4, .inl fh2)), (h3, .inl (ch3, 4, .inl f_9)), (h4, .inl (ch4, 4, .inl f_10)), (h5, .inl (ch5, 4, .inl (upd f_105 (2 : Int32).toNatClampNeg 1)))] := hD
                  generalize (upd f_105 (2 : Int32).toNatClampNeg 1) = f_107 at hP hD
                  refine lv_aload_n hx hb dX6_tryPair_267 rfl (lv_at hl 5 rfl) ?_
                  refine va_get (D := (dC, dI)) (ci := 6) (v := .ref h5) (C := RX6) (T := TX6) (N := 7) hx hb hts hiX6 hown hK hP 0 rfl rfl 5 (by decide) w__fieldLink_RX6_27_ShellHeap_Readers_died_I_ (fun _ h9 => h9) rfl dX6_tryPair_268 ?_
                  refine lv_iconst (v := 3) hx hb dX6_tryPair_271 (by decide) ?_
                  refine lv_iload hx hb dX6_tryPair_272 (lv_at hl 9 rfl) ?_
                  refine lv_iload hx hb dX6_tryPair_274 (lv_at hl 1 rfl) ?_
                  refine lv_isub hx hb dX6_tryPair_276 ?_
                  refine lv_topi (fun z_108 ez_108 => ?_)
                  have kr_z_108_p4 := z_rng p4
                  have kz_108 : (z_108).toInt = (p4).toInt - (1 : Int) := by rw [ez_108]; exact z_sub (a := (p4).toInt) (b := (1 : Int)) rfl rfl (by omega) (by omega)
                  refine va_iast hx hb hK hP hD hS 5 4 rfl rfl (by unfold vp_in; decide) dX6_tryPair_277 (fun H_109 locs hP hD hS => ?_)
                  have hP : va_P (dC, dI) vwCl [(h0, .inr (6, [.ref h1, h0_1, .ref h2, .ref h3, .ref h4, .ref h5, .int r_83])), (h1, .inl (ch1, 48, .inl fh1)), (h2, .inl (ch2, 4, .inl fh2)), (h3, .inl (ch3, 4, .inl f_9)), (h4, .inl (ch4, 4, .inl f_10)), (h5, .inl (ch5, 4, .inl (upd f_107 (3 : Int32).toNatClampNeg z_108)))] H_109 := hP
                  have hD : va_D A [(h0, .inr (6, [.ref h1, h0_1, .ref h2, .ref h3, .ref h4, .ref h5, .int r_83])), (h1, .inl (ch1, 48, .inl fh1)), (h2, .inl (ch2, 4, .inl fh2)), (h3, .inl (ch3, 4, .inl f_9)), (h4, .inl (ch4, 4, .inl f_10)), (h5, .inl (ch5, 4, .inl (upd f_107 (3 : Int32).toNatClampNeg z_108)))] := hD
                  generalize (upd f_107 (3 : Int32).toNatClampNeg z_108) = f_110 at hP hD
                  refine z_backQ hQQ ?_
                  have hP9 := hP.sub (ws' := [(h0, .inr (6, [.ref h1, h0_1, .ref h2, .ref h3, .ref h4, .ref h5, .int r_83])), (h1, .inl (ch1, 48, .inl fh1)), (h2, .inl (ch2, 4, .inl fh2)), (h3, .inl (ch3, 4, .inl f_9)), (h4, .inl (ch4, 4, .inl f_10)), (h5, .inl (ch5, 4, .inl f_110))]) [0, 1, 2, 3, 4, 5] rfl
                  have hD9 := hD.sub (ws' := [(h0, .inr (6, [.ref h1, h0_1, .ref h2, .ref h3, .ref h4, .ref h5, .int r_83])), (h1, .inl (ch1, 48, .inl fh1)), (h2, .inl (ch2, 4, .inl fh2)), (h3, .inl (ch3, 4, .inl f_9)), (h4, .inl (ch4, 4, .inl f_10)), (h5, .inl (ch5, 4, .inl f_110))]) [0, 1, 2, 3, 4, 5] (by decide) rfl
                  have hK9 := hK.sub (tys' := []) [] rfl
                  refine W.widen (k := 0) (n := 0) (Nat.le_of_ble_eq_true rfl) (Nat.le_of_ble_eq_true rfl) ?_
                  exact W.vret hx hb hr (fun t ht hW => ⟨⟨(), rfl, trivial, ⟨r_83, f_9, f_10, f_110, by rw [ht]; exact hP9, va_K.moved hW.alike hK9, hD9⟩⟩, hS.F ht⟩) hS.2.2 dX6_tryPair_278
        · have k_111 : (c_8).toInt > (0 : Int) := z_nle c_14
          refine lv_iload hx hb dX6_tryPair_162 (lv_at hl 2 rfl) ?_
          refine lv_if_le (tgt := 180) hx hb dX6_tryPair_164 (by decide) (fun c_112 => ?_) (fun c_112 => ?_)
          · have k_113 : (a_7).toInt ≤ (0 : Int) := z_le c_112
            refine lv_iconst (v := 0) hx hb dX6_tryPair_180 (by decide) ?_
            refine lv_istore (lv' := [(8, .int 0), (7, .int c_8), (6, .int a_7), (5, .int z_2), (0, .ref h0), (1, .int p1), (2, .int p2), (3, .int p3), (4, .int p4)]) hx hb dX6_tryPair_181 hl (by decide) rfl (fun ls hl => ?_)
            refine lv_aload_n hx hb dX6_tryPair_183 rfl (lv_at hl 4 rfl) ?_
            refine lv_iload hx hb dX6_tryPair_184 (lv_at hl 0 rfl) ?_
            have hPc := hP.sub (ws' := [(h0, .inr (6, [.ref h1, h0_1, .ref h2, .ref h3, .ref h4, .ref h5, .int rm])), (h3, .inl (ch3, 4, .inl f_9)), (h4, .inl (ch4, 4, .inl f_10))]) [0, 3, 4] rfl
            have hDc := hD.sub (ws' := [(h0, .inr (6, [.ref h1, h0_1, .ref h2, .ref h3, .ref h4, .ref h5, .int rm])), (h3, .inl (ch3, 4, .inl f_9)), (h4, .inl (ch4, 4, .inl f_10))]) [0, 3, 4] (by decide) rfl
            have hKc := hK.sub (tys' := [(ch3, .int), (ch4, .int)]) [2, 3] rfl
            have hFc := va_free (ws := []) (wc := []) (z_D0 _) hS hA [] rfl
            refine va_calli (va_runV (As := [.int 0]) (rest := []) ⟨hx, hb, hml, hown, hts⟩ (s_X6_missAt l dC dI H.size h0 0 (.ref h1) h0_1 (.ref h2) h3 h4 (.ref h5) (.int rm) ch3 f_9 ch4 f_10) (cwV 1 hts gw_s_X6_tryPair_s_X6_missAt_47 rfl rfl rfl (by decide +kernel) ⟨Nat.le_of_ble_eq_true rfl, Nat.le_of_ble_eq_true rfl⟩) ⟨z_blind, va_recv hKc hPc (ci := 6) (q0 := 0) rfl rfl, z_pre hPc hKc hDc⟩ rfl rfl hl.1 rfl (lv_room (Nat.le_of_ble_eq_true rfl)) dX6_tryPair_186 ⟨Nat.le_of_ble_eq_true rfl, Nat.le_of_ble_eq_true rfl⟩) hS (fun q _ h => hFc q h) hFc (fun r_115 u t H_114 locs ht hvm hw_116 hB hz1 hk1 hS => ?_)
            have hP := z_pure hP hk1
            have hP : va_P (dC, dI) vwCl [(h0, .inr (6, [.ref h1, h0_1, .ref h2, .ref h3, .ref h4, .ref h5, .int rm])), (h1, .inl (ch1, 48, .inl fh1)), (h2, .inl (ch2, 4, .inl fh2)), (h3, .inl (ch3, 4, .inl f_9)), (h4, .inl (ch4, 4, .inl f_10)), (h5, .inl (ch5, 4, .inl fh5))] H_114 := hP
            have hD : va_D A [(h0, .inr (6, [.ref h1, h0_1, .ref h2, .ref h3, .ref h4, .ref h5, .int rm])), (h1, .inl (ch1, 48, .inl fh1)), (h2, .inl (ch2, 4, .inl fh2)), (h3, .inl (ch3, 4, .inl f_9)), (h4, .inl (ch4, 4, .inl f_10)), (h5, .inl (ch5, 4, .inl fh5))] := hD
            clear hPc hDc hKc
            refine lv_istore (lv' := [(9, .int r_115), (8, .int 0), (7, .int c_8), (6, .int a_7), (5, .int z_2), (0, .ref h0), (1, .int p1), (2, .int p2), (3, .int p3), (4, .int p4)]) hx hb dX6_tryPair_189 hl (by decide) rfl (fun ls hl => ?_)
            refine lv_iload hx hb dX6_tryPair_191 (lv_at hl 1 rfl) ?_
            refine lv_iload hx hb dX6_tryPair_193 (lv_at hl 9 rfl) ?_
            refine lv_icmp_ge (tgt := 222) hx hb dX6_tryPair_195 (by decide) (fun c_117 => ?_) (fun c_117 => ?_)
            · have k_118 : (p4).toInt ≤ (0 : Int) := z_le c_117
              refine lv_aload_n hx hb dX6_tryPair_222 rfl (lv_at hl 5 rfl) ?_
              refine va_get (D := (dC, dI)) (ci := 6) (v := .int rm) (C := RX6) (T := TX6) (N := 7) hx hb hts hiX6 hown hK hP 0 rfl rfl 6 (by decide) w__fieldLink_RX6_30_ShellHeap_Readers_miss_I_ (fun _ h9 => h9) rfl dX6_tryPair_223 ?_
              refine lv_iconst (v := (-1)) hx hb dX6_tryPair_226 (by decide) ?_
              refine lv_icmp_eq (tgt := 239) hx hb dX6_tryPair_227 (by decide) (fun c_119 => ?_) (fun c_119 => ?_)
              · have k_120 : (rm).toInt = (-1 : Int) := z_eq c_119
                obtain rfl : rm = (-1) := z_eq' (show (rm).toInt = (-1 : Int) by omega)
                refine lv_aload_n hx hb dX6_tryPair_239 rfl (lv_at hl 5 rfl) ?_
                refine lv_iload hx hb dX6_tryPair_240 (lv_at hl 0 rfl) ?_
                refine va_put (D := (dC, dI)) (ci := 6) (v := .int r_115) (ty := .int) (C := RX6) (T := TX6) (N := 7) hx hb hts hiX6 tyX6 tyX6_ok nmX6 hown hK hP hD hS 0 rfl rfl 6 (by decide) w__fieldLink_RX6_30_ShellHeap_Readers_miss_I_ (fun _ h9 => h9) rfl (by decide +kernel) rfl rfl (Nat.le_of_ble_eq_true rfl) dX6_tryPair_242 (fun H_121 locs hP hD hS => ?_)
                have hP : va_P (dC, dI) vwCl [(h0, .inr (6, [.ref h1, h0_1, .ref h2, .ref h3, .ref h4, .ref h5, .int r_115])), (h1, .inl (ch1, 48, .inl fh1)), (h2, .inl (ch2, 4, .inl fh2)), (h3, .inl (ch3, 4, .inl f_9)), (h4, .inl (ch4, 4, .inl f_10)), (h5, .inl (ch5, 4, .inl fh5))] H_121 := hP
                have hD : va_D A [(h0, .inr (6, [.ref h1, h0_1, .ref h2, .ref h3, .ref h4, .ref h5, .int r_115])), (h1, .inl (ch1, 48, .inl fh1)), (h2, .inl (ch2, 4, .inl fh2)), (h3, .inl (ch3, 4, .inl f_9)), (h4, .inl (ch4, 4, .inl f_10)), (h5, .inl (ch5, 4, .inl fh5))] := hD
                refine lv_aload_n hx hb dX6_tryPair_245 rfl (lv_at hl 5 rfl) ?_
                refine va_get (D := (dC, dI)) (ci := 6) (v := .ref h5) (C := RX6) (T := TX6) (N := 7) hx hb hts hiX6 hown hK hP 0 rfl rfl 5 (by decide) w__fieldLink_RX6_27_ShellHeap_Readers_died_I_ (fun _ h9 => h9) rfl dX6_tryPair_246 ?_
                refine lv_iconst (v := 0) hx hb dX6_tryPair_249 (by decide) ?_
                refine lv_iload_n hx hb dX6_tryPair_250 rfl (lv_at hl 7 rfl) ?_
                refine va_iast hx hb hK hP hD hS 5 4 rfl rfl (by unfold vp_in; decide) dX6_tryPair_251 (fun H_122 locs hP hD hS => ?_)
                have hP : va_P (dC, dI) vwCl [(h0, .inr (6, [.ref h1, h0_1, .ref h2, .ref h3, .ref h4, .ref h5, .int r_115])), (h1, .inl (ch1, 48, .inl fh1)), (h2, .inl (ch2, 4, .inl fh2)), (h3, .inl (ch3, 4, .inl f_9)), (h4, .inl (ch4, 4, .inl f_10)), (h5, .inl (ch5, 4, .inl (upd fh5 (0 : Int32).toNatClampNeg p2)))] H_122 := hP
                have hD : va_D A [(h0, .inr (6, [.ref h1, h0_1, .ref h2, .ref h3, .ref h4, .ref h5, .int r_115])), (h1, .inl (ch1, 48, .inl fh1)), (h2, .inl (ch2, 4, .inl fh2)), (h3, .inl (ch3, 4, .inl f_9)), (h4, .inl (ch4, 4, .inl f_10)), (h5, .inl (ch5, 4, .inl (upd fh5 (0 : Int32).toNatClampNeg p2)))] := hD
                generalize (upd fh5 (0 : Int32).toNatClampNeg p2) = f_123 at hP hD
                refine lv_aload_n hx hb dX6_tryPair_252 rfl (lv_at hl 5 rfl) ?_
                refine va_get (D := (dC, dI)) (ci := 6) (v := .ref h5) (C := RX6) (T := TX6) (N := 7) hx hb hts hiX6 hown hK hP 0 rfl rfl 5 (by decide) w__fieldLink_RX6_27_ShellHeap_Readers_died_I_ (fun _ h9 => h9) rfl dX6_tryPair_253 ?_
                refine lv_iconst (v := 1) hx hb dX6_tryPair_256 (by decide) ?_
                refine lv_iload_n hx hb dX6_tryPair_257 rfl (lv_at hl 8 rfl) ?_
                refine va_iast hx hb hK hP hD hS 5 4 rfl rfl (by unfold vp_in; decide) dX6_tryPair_258 (fun H_124 locs hP hD hS => ?_)
                have hP : va_P (dC, dI) vwCl [(h0, .inr (6, [.ref h1, h0_1, .ref h2, .ref h3, .ref h4, .ref h5, .int r_115])), (h1, .inl (ch1, 48, .inl fh1)), (h2, .inl (ch2, 4, .inl fh2)), (h3, .inl (ch3, 4, .inl f_9)), (h4, .inl (ch4, 4, .inl f_10)), (h5, .inl (ch5, 4, .inl (upd f_123 (1 : Int32).toNatClampNeg p3)))] H_124 := hP
                have hD : va_D A [(h0, .inr (6, [.ref h1, h0_1, .ref h2, .ref h3, .ref h4, .ref h5, .int r_115])), (h1, .inl (ch1, 48, .inl fh1)), (h2, .inl (ch2, 4, .inl fh2)), (h3, .inl (ch3, 4, .inl f_9)), (h4, .inl (ch4, 4, .inl f_10)), (h5, .inl (ch5, 4, .inl (upd f_123 (1 : Int32).toNatClampNeg p3)))] := hD
                generalize (upd f_123 (1 : Int32).toNatClampNeg p3) = f_125 at hP hD
                refine lv_aload_n hx hb dX6_tryPair_259 rfl (lv_at hl 5 rfl) ?_
                refine va_get (D := (dC, dI)) (ci := 6) (v := .ref h5) (C := RX6) (T := TX6) (N := 7) hx hb hts hiX6 hown hK hP 0 rfl rfl 5 (by decide) w__fieldLink_RX6_27_ShellHeap_Readers_died_I_ (fun _ h9 => h9) rfl dX6_tryPair_260 ?_
                refine lv_iconst (v := 2) hx hb dX6_tryPair_263 (by decide) ?_
                refine lv_iload hx hb dX6_tryPair_264 (lv_at hl 1 rfl) ?_
                refine va_iast hx hb hK hP hD hS 5 4 rfl rfl (by unfold vp_in; decide) dX6_tryPair_266 (fun H_126 locs hP hD hS => ?_)
                have hP : va_P (dC, dI) vwCl [(h0, .inr (6, [.ref h1, h0_1, .ref h2, .ref h3, .ref h4, .ref h5, .int r_115])), (h1, .inl (ch1, 48, .inl fh1)), (h2, .inl (ch2, 4, .inl fh2)), (h3, .inl (ch3, 4, .inl f_9)), (h4, .inl (ch4, 4, .inl f_10)), (h5, .inl (ch5, 4, .inl (upd f_125 (2 : Int32).toNatClampNeg 0)))] H_126 := hP
                have hD : va_D A [(h0, .inr (6, [.ref h1, h0_1, .ref h2, .ref h3, .ref h4, .ref h5, .int r_115])), (h1, .inl (ch1, 48, .inl fh1)), (h2, .inl (ch2, 4, .inl fh2)), (h3, .inl (ch3, 4, .inl f_9)), (h4, .inl (ch4, 4, .inl f_10)), (h5, .inl (ch5, 4, .inl (upd f_125 (2 : Int32).toNatClampNeg 0)))] := hD
                generalize (upd f_125 (2 : Int32).toNatClampNeg 0) = f_127 at hP hD
                refine lv_aload_n hx hb dX6_tryPair_267 rfl (lv_at hl 5 rfl) ?_
                refine va_get (D := (dC, dI)) (ci := 6) (v := .ref h5) (C := RX6) (T := TX6) (N := 7) hx hb hts hiX6 hown hK hP 0 rfl rfl 5 (by decide) w__fieldLink_RX6_27_ShellHeap_Readers_died_I_ (fun _ h9 => h9) rfl dX6_tryPair_268 ?_
                refine lv_iconst (v := 3) hx hb dX6_tryPair_271 (by decide) ?_
                refine lv_iload hx hb dX6_tryPair_272 (lv_at hl 9 rfl) ?_
                refine lv_iload hx hb dX6_tryPair_274 (lv_at hl 1 rfl) ?_
                refine lv_isub hx hb dX6_tryPair_276 ?_
                refine lv_topi (fun z_128 ez_128 => ?_)
                have kr_z_128_p4 := z_rng p4
                have kz_128 : (z_128).toInt = (p4).toInt - (0 : Int) := by rw [ez_128]; exact z_sub (a := (p4).toInt) (b := (0 : Int)) rfl rfl (by omega) (by omega)
                refine va_iast hx hb hK hP hD hS 5 4 rfl rfl (by unfold vp_in; decide) dX6_tryPair_277 (fun H_129 locs hP hD hS => ?_)
                have hP : va_P (dC, dI) vwCl [(h0, .inr (6, [.ref h1, h0_1, .ref h2, .ref h3, .ref h4, .ref h5, .int r_115])), (h1, .inl (ch1, 48, .inl fh1)), (h2, .inl (ch2, 4, .inl fh2)), (h3, .inl (ch3, 4, .inl f_9)), (h4, .inl (ch4, 4, .inl f_10)), (h5, .inl (ch5, 4, .inl (upd f_127 (3 : Int32).toNatClampNeg z_128)))] H_129 := hP
                have hD : va_D A [(h0, .inr (6, [.ref h1, h0_1, .ref h2, .ref h3, .ref h4, .ref h5, .int r_115])), (h1, .inl (ch1, 48, .inl fh1)), (h2, .inl (ch2, 4, .inl fh2)), (h3, .inl (ch3, 4, .inl f_9)), (h4, .inl (ch4, 4, .inl f_10)), (h5, .inl (ch5, 4, .inl (upd f_127 (3 : Int32).toNatClampNeg z_128)))] := hD
                generalize (upd f_127 (3 : Int32).toNatClampNeg z_128) = f_130 at hP hD
                refine z_backQ hQQ ?_
                have hP9 := hP.sub (ws' := [(h0, .inr (6, [.ref h1, h0_1, .ref h2, .ref h3, .ref h4, .ref h5, .int r_115])), (h1, .inl (ch1, 48, .inl fh1)), (h2, .inl (ch2, 4, .inl fh2)), (h3, .inl (ch3, 4, .inl f_9)), (h4, .inl (ch4, 4, .inl f_10)), (h5, .inl (ch5, 4, .inl f_130))]) [0, 1, 2, 3, 4, 5] rfl
                have hD9 := hD.sub (ws' := [(h0, .inr (6, [.ref h1, h0_1, .ref h2, .ref h3, .ref h4, .ref h5, .int r_115])), (h1, .inl (ch1, 48, .inl fh1)), (h2, .inl (ch2, 4, .inl fh2)), (h3, .inl (ch3, 4, .inl f_9)), (h4, .inl (ch4, 4, .inl f_10)), (h5, .inl (ch5, 4, .inl f_130))]) [0, 1, 2, 3, 4, 5] (by decide) rfl
                have hK9 := hK.sub (tys' := []) [] rfl
                refine W.widen (k := 0) (n := 0) (Nat.le_of_ble_eq_true rfl) (Nat.le_of_ble_eq_true rfl) ?_
                exact W.vret hx hb hr (fun t ht hW => ⟨⟨(), rfl, trivial, ⟨r_115, f_9, f_10, f_130, by rw [ht]; exact hP9, va_K.moved hW.alike hK9, hD9⟩⟩, hS.F ht⟩) hS.2.2 dX6_tryPair_278
              · have k_131 : (rm).toInt ≠ (-1 : Int) := z_ne c_119
                refine lv_iload hx hb dX6_tryPair_230 (lv_at hl 0 rfl) ?_
                refine lv_aload_n hx hb dX6_tryPair_232 rfl (lv_at hl 5 rfl) ?_
                refine va_get (D := (dC, dI)) (ci := 6) (v := .int rm) (C := RX6) (T := TX6) (N := 7) hx hb hts hiX6 hown hK hP 0 rfl rfl 6 (by decide) w__fieldLink_RX6_30_ShellHeap_Readers_miss_I_ (fun _ h9 => h9) rfl dX6_tryPair_233 ?_
                refine lv_icmp_ge (tgt := 278) hx hb dX6_tryPair_236 (by decide) (fun c_132 => ?_) (fun c_132 => ?_)
                · have k_133 : (rm).toInt ≤ (r_115).toInt := z_le c_132
                  refine z_backQ hQQ ?_
                  have hP9 := hP.sub (ws' := [(h0, .inr (6, [.ref h1, h0_1, .ref h2, .ref h3, .ref h4, .ref h5, .int rm])), (h1, .inl (ch1, 48, .inl fh1)), (h2, .inl (ch2, 4, .inl fh2)), (h3, .inl (ch3, 4, .inl f_9)), (h4, .inl (ch4, 4, .inl f_10)), (h5, .inl (ch5, 4, .inl fh5))]) [0, 1, 2, 3, 4, 5] rfl
                  have hD9 := hD.sub (ws' := [(h0, .inr (6, [.ref h1, h0_1, .ref h2, .ref h3, .ref h4, .ref h5, .int rm])), (h1, .inl (ch1, 48, .inl fh1)), (h2, .inl (ch2, 4, .inl fh2)), (h3, .inl (ch3, 4, .inl f_9)), (h4, .inl (ch4, 4, .inl f_10)), (h5, .inl (ch5, 4, .inl fh5))]) [0, 1, 2, 3, 4, 5] (by decide) rfl
                  have hK9 := hK.sub (tys' := []) [] rfl
                  refine W.widen (k := 0) (n := 0) (Nat.le_of_ble_eq_true rfl) (Nat.le_of_ble_eq_true rfl) ?_
                  exact W.vret hx hb hr (fun t ht hW => ⟨⟨(), rfl, trivial, ⟨rm, f_9, f_10, fh5, by rw [ht]; exact hP9, va_K.moved hW.alike hK9, hD9⟩⟩, hS.F ht⟩) hS.2.2 dX6_tryPair_278
                · have k_134 : (rm).toInt > (r_115).toInt := z_nle c_132
                  refine lv_aload_n hx hb dX6_tryPair_239 rfl (lv_at hl 5 rfl) ?_
                  refine lv_iload hx hb dX6_tryPair_240 (lv_at hl 0 rfl) ?_
                  refine va_put (D := (dC, dI)) (ci := 6) (v := .int r_115) (ty := .int) (C := RX6) (T := TX6) (N := 7) hx hb hts hiX6 tyX6 tyX6_ok nmX6 hown hK hP hD hS 0 rfl rfl 6 (by decide) w__fieldLink_RX6_30_ShellHeap_Readers_miss_I_ (fun _ h9 => h9) rfl (by decide +kernel) rfl rfl (Nat.le_of_ble_eq_true rfl) dX6_tryPair_242 (fun H_135 locs hP hD hS => ?_)
                  have hP : va_P (dC, dI) vwCl [(h0, .inr (6, [.ref h1, h0_1, .ref h2, .ref h3, .ref h4, .ref h5, .int r_115])), (h1, .inl (ch1, 48, .inl fh1)), (h2, .inl (ch2, 4, .inl fh2)), (h3, .inl (ch3, 4, .inl f_9)), (h4, .inl (ch4, 4, .inl f_10)), (h5, .inl (ch5, 4, .inl fh5))] H_135 := hP
                  have hD : va_D A [(h0, .inr (6, [.ref h1, h0_1, .ref h2, .ref h3, .ref h4, .ref h5, .int r_115])), (h1, .inl (ch1, 48, .inl fh1)), (h2, .inl (ch2, 4, .inl fh2)), (h3, .inl (ch3, 4, .inl f_9)), (h4, .inl (ch4, 4, .inl f_10)), (h5, .inl (ch5, 4, .inl fh5))] := hD
                  refine lv_aload_n hx hb dX6_tryPair_245 rfl (lv_at hl 5 rfl) ?_
                  refine va_get (D := (dC, dI)) (ci := 6) (v := .ref h5) (C := RX6) (T := TX6) (N := 7) hx hb hts hiX6 hown hK hP 0 rfl rfl 5 (by decide) w__fieldLink_RX6_27_ShellHeap_Readers_died_I_ (fun _ h9 => h9) rfl dX6_tryPair_246 ?_
                  refine lv_iconst (v := 0) hx hb dX6_tryPair_249 (by decide) ?_
                  refine lv_iload_n hx hb dX6_tryPair_250 rfl (lv_at hl 7 rfl) ?_
                  refine va_iast hx hb hK hP hD hS 5 4 rfl rfl (by unfold vp_in; decide) dX6_tryPair_251 (fun H_136 locs hP hD hS => ?_)
                  have hP : va_P (dC, dI) vwCl [(h0, .inr (6, [.ref h1, h0_1, .ref h2, .ref h3, .ref h4, .ref h5, .int r_115])), (h1, .inl (ch1, 48, .inl fh1)), (h2, .inl (ch2, 4, .inl fh2)), (h3, .inl (ch3, 4, .inl f_9)), (h4, .inl (ch4, 4, .inl f_10)), (h5, .inl (ch5, 4, .inl (upd fh5 (0 : Int32).toNatClampNeg p2)))] H_136 := hP
                  have hD : va_D A [(h0, .inr (6, [.ref h1, h0_1, .ref h2, .ref h3, .ref h4, .ref h5, .int r_115])), (h1, .inl (ch1, 48, .inl fh1)), (h2, .inl (ch2, 4, .inl fh2)), (h3, .inl (ch3, 4, .inl f_9)), (h4, .inl (ch4, 4, .inl f_10)), (h5, .inl (ch5, 4, .inl (upd fh5 (0 : Int32).toNatClampNeg p2)))] := hD
                  generalize (upd fh5 (0 : Int32).toNatClampNeg p2) = f_137 at hP hD
                  refine lv_aload_n hx hb dX6_tryPair_252 rfl (lv_at hl 5 rfl) ?_
                  refine va_get (D := (dC, dI)) (ci := 6) (v := .ref h5) (C := RX6) (T := TX6) (N := 7) hx hb hts hiX6 hown hK hP 0 rfl rfl 5 (by decide) w__fieldLink_RX6_27_ShellHeap_Readers_died_I_ (fun _ h9 => h9) rfl dX6_tryPair_253 ?_
                  refine lv_iconst (v := 1) hx hb dX6_tryPair_256 (by decide) ?_
                  refine lv_iload_n hx hb dX6_tryPair_257 rfl (lv_at hl 8 rfl) ?_
                  refine va_iast hx hb hK hP hD hS 5 4 rfl rfl (by unfold vp_in; decide) dX6_tryPair_258 (fun H_138 locs hP hD hS => ?_)
                  have hP : va_P (dC, dI) vwCl [(h0, .inr (6, [.ref h1, h0_1, .ref h2, .ref h3, .ref h4, .ref h5, .int r_115])), (h1, .inl (ch1, 48, .inl fh1)), (h2, .inl (ch2, 4, .inl fh2)), (h3, .inl (ch3, 4, .inl f_9)), (h4, .inl (ch4, 4, .inl f_10)), (h5, .inl (ch5, 4, .inl (upd f_137 (1 : Int32).toNatClampNeg p3)))] H_138 := hP
                  have hD : va_D A [(h0, .inr (6, [.ref h1, h0_1, .ref h2, .ref h3, .ref h4, .ref h5, .int r_115])), (h1, .inl (ch1, 48, .inl fh1)), (h2, .inl (ch2, 4, .inl fh2)), (h3, .inl (ch3, 4, .inl f_9)), (h4, .inl (ch4, 4, .inl f_10)), (h5, .inl (ch5, 4, .inl (upd f_137 (1 : Int32).toNatClampNeg p3)))] := hD
                  generalize (upd f_137 (1 : Int32).toNatClampNeg p3) = f_139 at hP hD
                  refine lv_aload_n hx hb dX6_tryPair_259 rfl (lv_at hl 5 rfl) ?_
                  refine va_get (D := (dC, dI)) (ci := 6) (v := .ref h5) (C := RX6) (T := TX6) (N := 7) hx hb hts hiX6 hown hK hP 0 rfl rfl 5 (by decide) w__fieldLink_RX6_27_ShellHeap_Readers_died_I_ (fun _ h9 => h9) rfl dX6_tryPair_260 ?_
                  refine lv_iconst (v := 2) hx hb dX6_tryPair_263 (by decide) ?_
                  refine lv_iload hx hb dX6_tryPair_264 (lv_at hl 1 rfl) ?_
                  refine va_iast hx hb hK hP hD hS 5 4 rfl rfl (by unfold vp_in; decide) dX6_tryPair_266 (fun H_140 locs hP hD hS => ?_)
                  have hP : va_P (dC, dI) vwCl [(h0, .inr (6, [.ref h1, h0_1, .ref h2, .ref h3, .ref h4, .ref h5, .int r_115])), (h1, .inl (ch1, 48, .inl fh1)), (h2, .inl (ch2, 4, .inl fh2)), (h3, .inl (ch3, 4, .inl f_9)), (h4, .inl (ch4, 4, .inl f_10)), (h5, .inl (ch5, 4, .inl (upd f_139 (2 : Int32).toNatClampNeg 0)))] H_140 := hP
                  have hD : va_D A [(h0, .inr (6, [.ref h1, h0_1, .ref h2, .ref h3, .ref h4, .ref h5, .int r_115])), (h1, .inl (ch1, 48, .inl fh1)), (h2, .inl (ch2, 4, .inl fh2)), (h3, .inl (ch3, 4, .inl f_9)), (h4, .inl (ch4, 4, .inl f_10)), (h5, .inl (ch5, 4, .inl (upd f_139 (2 : Int32).toNatClampNeg 0)))] := hD
                  generalize (upd f_139 (2 : Int32).toNatClampNeg 0) = f_141 at hP hD
                  refine lv_aload_n hx hb dX6_tryPair_267 rfl (lv_at hl 5 rfl) ?_
                  refine va_get (D := (dC, dI)) (ci := 6) (v := .ref h5) (C := RX6) (T := TX6) (N := 7) hx hb hts hiX6 hown hK hP 0 rfl rfl 5 (by decide) w__fieldLink_RX6_27_ShellHeap_Readers_died_I_ (fun _ h9 => h9) rfl dX6_tryPair_268 ?_
                  refine lv_iconst (v := 3) hx hb dX6_tryPair_271 (by decide) ?_
                  refine lv_iload hx hb dX6_tryPair_272 (lv_at hl 9 rfl) ?_
                  refine lv_iload hx hb dX6_tryPair_274 (lv_at hl 1 rfl) ?_
                  refine lv_isub hx hb dX6_tryPair_276 ?_
                  refine lv_topi (fun z_142 ez_142 => ?_)
                  have kr_z_142_p4 := z_rng p4
                  have kz_142 : (z_142).toInt = (p4).toInt - (0 : Int) := by rw [ez_142]; exact z_sub (a := (p4).toInt) (b := (0 : Int)) rfl rfl (by omega) (by omega)
                  refine va_iast hx hb hK hP hD hS 5 4 rfl rfl (by unfold vp_in; decide) dX6_tryPair_277 (fun H_143 locs hP hD hS => ?_)
                  have hP : va_P (dC, dI) vwCl [(h0, .inr (6, [.ref h1, h0_1, .ref h2, .ref h3, .ref h4, .ref h5, .int r_115])), (h1, .inl (ch1, 48, .inl fh1)), (h2, .inl (ch2, 4, .inl fh2)), (h3, .inl (ch3, 4, .inl f_9)), (h4, .inl (ch4, 4, .inl f_10)), (h5, .inl (ch5, 4, .inl (upd f_141 (3 : Int32).toNatClampNeg z_142)))] H_143 := hP
                  have hD : va_D A [(h0, .inr (6, [.ref h1, h0_1, .ref h2, .ref h3, .ref h4, .ref h5, .int r_115])), (h1, .inl (ch1, 48, .inl fh1)), (h2, .inl (ch2, 4, .inl fh2)), (h3, .inl (ch3, 4, .inl f_9)), (h4, .inl (ch4, 4, .inl f_10)), (h5, .inl (ch5, 4, .inl (upd f_141 (3 : Int32).toNatClampNeg z_142)))] := hD
                  generalize (upd f_141 (3 : Int32).toNatClampNeg z_142) = f_144 at hP hD
                  refine z_backQ hQQ ?_
                  have hP9 := hP.sub (ws' := [(h0, .inr (6, [.ref h1, h0_1, .ref h2, .ref h3, .ref h4, .ref h5, .int r_115])), (h1, .inl (ch1, 48, .inl fh1)), (h2, .inl (ch2, 4, .inl fh2)), (h3, .inl (ch3, 4, .inl f_9)), (h4, .inl (ch4, 4, .inl f_10)), (h5, .inl (ch5, 4, .inl f_144))]) [0, 1, 2, 3, 4, 5] rfl
                  have hD9 := hD.sub (ws' := [(h0, .inr (6, [.ref h1, h0_1, .ref h2, .ref h3, .ref h4, .ref h5, .int r_115])), (h1, .inl (ch1, 48, .inl fh1)), (h2, .inl (ch2, 4, .inl fh2)), (h3, .inl (ch3, 4, .inl f_9)), (h4, .inl (ch4, 4, .inl f_10)), (h5, .inl (ch5, 4, .inl f_144))]) [0, 1, 2, 3, 4, 5] (by decide) rfl
                  have hK9 := hK.sub (tys' := []) [] rfl
                  refine W.widen (k := 0) (n := 0) (Nat.le_of_ble_eq_true rfl) (Nat.le_of_ble_eq_true rfl) ?_
                  exact W.vret hx hb hr (fun t ht hW => ⟨⟨(), rfl, trivial, ⟨r_115, f_9, f_10, f_144, by rw [ht]; exact hP9, va_K.moved hW.alike hK9, hD9⟩⟩, hS.F ht⟩) hS.2.2 dX6_tryPair_278
            · have k_145 : (p4).toInt > (0 : Int) := z_nle c_117
              refine lv_aload_n hx hb dX6_tryPair_198 rfl (lv_at hl 5 rfl) ?_
              refine lv_iload hx hb dX6_tryPair_199 (lv_at hl 1 rfl) ?_
              refine lv_iconst (v := 1) hx hb dX6_tryPair_201 (by decide) ?_
              refine lv_iadd hx hb dX6_tryPair_202 ?_
              refine lv_topi (fun x_146 e_147 => ?_)
              obtain rfl : x_146 = 1 := e_147.trans (by decide)
              have hPc := hP.sub (ws' := [(h0, .inr (6, [.ref h1, h0_1, .ref h2, .ref h3, .ref h4, .ref h5, .int rm])), (h3, .inl (ch3, 4, .inl f_9)), (h4, .inl (ch4, 4, .inl f_10))]) [0, 3, 4] rfl
              have hDc := hD.sub (ws' := [(h0, .inr (6, [.ref h1, h0_1, .ref h2, .ref h3, .ref h4, .ref h5, .int rm])), (h3, .inl (ch3, 4, .inl f_9)), (h4, .inl (ch4, 4, .inl f_10))]) [0, 3, 4] (by decide) rfl
              have hKc := hK.sub (tys' := [(ch3, .int), (ch4, .int)]) [2, 3] rfl
              have hFc := va_free (ws := []) (wc := []) (z_D0 _) hS hA [] rfl
              refine va_calli (va_runV (As := [.int 1]) (rest := []) ⟨hx, hb, hml, hown, hts⟩ (s_X6_missAt l dC dI H_114.size h0 1 (.ref h1) h0_1 (.ref h2) h3 h4 (.ref h5) (.int rm) ch3 f_9 ch4 f_10) (cwV 1 hts gw_s_X6_tryPair_s_X6_missAt_47 rfl rfl rfl (by decide +kernel) ⟨Nat.le_of_ble_eq_true rfl, Nat.le_of_ble_eq_true rfl⟩) ⟨z_blind, va_recv hKc hPc (ci := 6) (q0 := 0) rfl rfl, z_pre hPc hKc hDc⟩ rfl rfl hl.1 rfl (lv_room (Nat.le_of_ble_eq_true rfl)) dX6_tryPair_203 ⟨Nat.le_of_ble_eq_true rfl, Nat.le_of_ble_eq_true rfl⟩) hS (fun q _ h => hFc q h) hFc (fun r_149 u t H_148 locs ht hvm hw_150 hB hz1 hk1 hS => ?_)
              have hP := z_pure hP hk1
              have hP : va_P (dC, dI) vwCl [(h0, .inr (6, [.ref h1, h0_1, .ref h2, .ref h3, .ref h4, .ref h5, .int rm])), (h1, .inl (ch1, 48, .inl fh1)), (h2, .inl (ch2, 4, .inl fh2)), (h3, .inl (ch3, 4, .inl f_9)), (h4, .inl (ch4, 4, .inl f_10)), (h5, .inl (ch5, 4, .inl fh5))] H_148 := hP
              have hD : va_D A [(h0, .inr (6, [.ref h1, h0_1, .ref h2, .ref h3, .ref h4, .ref h5, .int rm])), (h1, .inl (ch1, 48, .inl fh1)), (h2, .inl (ch2, 4, .inl fh2)), (h3, .inl (ch3, 4, .inl f_9)), (h4, .inl (ch4, 4, .inl f_10)), (h5, .inl (ch5, 4, .inl fh5))] := hD
              clear hPc hDc hKc
              refine lv_iload hx hb dX6_tryPair_206 (lv_at hl 0 rfl) ?_
              refine lv_icmp_ge (tgt := 222) hx hb dX6_tryPair_208 (by decide) (fun c_151 => ?_) (fun c_151 => ?_)
              · have k_152 : (r_115).toInt ≤ (r_149).toInt := z_le c_151
                refine lv_aload_n hx hb dX6_tryPair_222 rfl (lv_at hl 5 rfl) ?_
                refine va_get (D := (dC, dI)) (ci := 6) (v := .int rm) (C := RX6) (T := TX6) (N := 7) hx hb hts hiX6 hown hK hP 0 rfl rfl 6 (by decide) w__fieldLink_RX6_30_ShellHeap_Readers_miss_I_ (fun _ h9 => h9) rfl dX6_tryPair_223 ?_
                refine lv_iconst (v := (-1)) hx hb dX6_tryPair_226 (by decide) ?_
                refine lv_icmp_eq (tgt := 239) hx hb dX6_tryPair_227 (by decide) (fun c_153 => ?_) (fun c_153 => ?_)
                · have k_154 : (rm).toInt = (-1 : Int) := z_eq c_153
                  obtain rfl : rm = (-1) := z_eq' (show (rm).toInt = (-1 : Int) by omega)
                  refine lv_aload_n hx hb dX6_tryPair_239 rfl (lv_at hl 5 rfl) ?_
                  refine lv_iload hx hb dX6_tryPair_240 (lv_at hl 0 rfl) ?_
                  refine va_put (D := (dC, dI)) (ci := 6) (v := .int r_115) (ty := .int) (C := RX6) (T := TX6) (N := 7) hx hb hts hiX6 tyX6 tyX6_ok nmX6 hown hK hP hD hS 0 rfl rfl 6 (by decide) w__fieldLink_RX6_30_ShellHeap_Readers_miss_I_ (fun _ h9 => h9) rfl (by decide +kernel) rfl rfl (Nat.le_of_ble_eq_true rfl) dX6_tryPair_242 (fun H_155 locs hP hD hS => ?_)
                  have hP : va_P (dC, dI) vwCl [(h0, .inr (6, [.ref h1, h0_1, .ref h2, .ref h3, .ref h4, .ref h5, .int r_115])), (h1, .inl (ch1, 48, .inl fh1)), (h2, .inl (ch2, 4, .inl fh2)), (h3, .inl (ch3, 4, .inl f_9)), (h4, .inl (ch4, 4, .inl f_10)), (h5, .inl (ch5, 4, .inl fh5))] H_155 := hP
                  have hD : va_D A [(h0, .inr (6, [.ref h1, h0_1, .ref h2, .ref h3, .ref h4, .ref h5, .int r_115])), (h1, .inl (ch1, 48, .inl fh1)), (h2, .inl (ch2, 4, .inl fh2)), (h3, .inl (ch3, 4, .inl f_9)), (h4, .inl (ch4, 4, .inl f_10)), (h5, .inl (ch5, 4, .inl fh5))] := hD
                  refine lv_aload_n hx hb dX6_tryPair_245 rfl (lv_at hl 5 rfl) ?_
                  refine va_get (D := (dC, dI)) (ci := 6) (v := .ref h5) (C := RX6) (T := TX6) (N := 7) hx hb hts hiX6 hown hK hP 0 rfl rfl 5 (by decide) w__fieldLink_RX6_27_ShellHeap_Readers_died_I_ (fun _ h9 => h9) rfl dX6_tryPair_246 ?_
                  refine lv_iconst (v := 0) hx hb dX6_tryPair_249 (by decide) ?_
                  refine lv_iload_n hx hb dX6_tryPair_250 rfl (lv_at hl 7 rfl) ?_
                  refine va_iast hx hb hK hP hD hS 5 4 rfl rfl (by unfold vp_in; decide) dX6_tryPair_251 (fun H_156 locs hP hD hS => ?_)
                  have hP : va_P (dC, dI) vwCl [(h0, .inr (6, [.ref h1, h0_1, .ref h2, .ref h3, .ref h4, .ref h5, .int r_115])), (h1, .inl (ch1, 48, .inl fh1)), (h2, .inl (ch2, 4, .inl fh2)), (h3, .inl (ch3, 4, .inl f_9)), (h4, .inl (ch4, 4, .inl f_10)), (h5, .inl (ch5, 4, .inl (upd fh5 (0 : Int32).toNatClampNeg p2)))] H_156 := hP
                  have hD : va_D A [(h0, .inr (6, [.ref h1, h0_1, .ref h2, .ref h3, .ref h4, .ref h5, .int r_115])), (h1, .inl (ch1, 48, .inl fh1)), (h2, .inl (ch2, 4, .inl fh2)), (h3, .inl (ch3, 4, .inl f_9)), (h4, .inl (ch4, 4, .inl f_10)), (h5, .inl (ch5, 4, .inl (upd fh5 (0 : Int32).toNatClampNeg p2)))] := hD
                  generalize (upd fh5 (0 : Int32).toNatClampNeg p2) = f_157 at hP hD
                  refine lv_aload_n hx hb dX6_tryPair_252 rfl (lv_at hl 5 rfl) ?_
                  refine va_get (D := (dC, dI)) (ci := 6) (v := .ref h5) (C := RX6) (T := TX6) (N := 7) hx hb hts hiX6 hown hK hP 0 rfl rfl 5 (by decide) w__fieldLink_RX6_27_ShellHeap_Readers_died_I_ (fun _ h9 => h9) rfl dX6_tryPair_253 ?_
                  refine lv_iconst (v := 1) hx hb dX6_tryPair_256 (by decide) ?_
                  refine lv_iload_n hx hb dX6_tryPair_257 rfl (lv_at hl 8 rfl) ?_
                  refine va_iast hx hb hK hP hD hS 5 4 rfl rfl (by unfold vp_in; decide) dX6_tryPair_258 (fun H_158 locs hP hD hS => ?_)
                  have hP : va_P (dC, dI) vwCl [(h0, .inr (6, [.ref h1, h0_1, .ref h2, .ref h3, .ref h4, .ref h5, .int r_115])), (h1, .inl (ch1, 48, .inl fh1)), (h2, .inl (ch2, 4, .inl fh2)), (h3, .inl (ch3, 4, .inl f_9)), (h4, .inl (ch4, 4, .inl f_10)), (h5, .inl (ch5, 4, .inl (upd f_157 (1 : Int32).toNatClampNeg p3)))] H_158 := hP
                  have hD : va_D A [(h0, .inr (6, [.ref h1, h0_1, .ref h2, .ref h3, .ref h4, .ref h5, .int r_115])), (h1, .inl (ch1, 48, .inl fh1)), (h2, .inl (ch2, 4, .inl fh2)), (h3, .inl (ch3, 4, .inl f_9)), (h4, .inl (ch4, 4, .inl f_10)), (h5, .inl (ch5, 4, .inl (upd f_157 (1 : Int32).toNatClampNeg p3)))] := hD
                  generalize (upd f_157 (1 : Int32).toNatClampNeg p3) = f_159 at hP hD
                  refine lv_aload_n hx hb dX6_tryPair_259 rfl (lv_at hl 5 rfl) ?_
                  refine va_get (D := (dC, dI)) (ci := 6) (v := .ref h5) (C := RX6) (T := TX6) (N := 7) hx hb hts hiX6 hown hK hP 0 rfl rfl 5 (by decide) w__fieldLink_RX6_27_ShellHeap_Readers_died_I_ (fun _ h9 => h9) rfl dX6_tryPair_260 ?_
                  refine lv_iconst (v := 2) hx hb dX6_tryPair_263 (by decide) ?_
                  refine lv_iload hx hb dX6_tryPair_264 (lv_at hl 1 rfl) ?_
                  refine va_iast hx hb hK hP hD hS 5 4 rfl rfl (by unfold vp_in; decide) dX6_tryPair_266 (fun H_160 locs hP hD hS => ?_)
                  have hP : va_P (dC, dI) vwCl [(h0, .inr (6, [.ref h1, h0_1, .ref h2, .ref h3, .ref h4, .ref h5, .int r_115])), (h1, .inl (ch1, 48, .inl fh1)), (h2, .inl (ch2, 4, .inl fh2)), (h3, .inl (ch3, 4, .inl f_9)), (h4, .inl (ch4, 4, .inl f_10)), (h5, .inl (ch5, 4, .inl (upd f_159 (2 : Int32).toNatClampNeg 0)))] H_160 := hP
                  have hD : va_D A [(h0, .inr (6, [.ref h1, h0_1, .ref h2, .ref h3, .ref h4, .ref h5, .int r_115])), (h1, .inl (ch1, 48, .inl fh1)), (h2, .inl (ch2, 4, .inl fh2)), (h3, .inl (ch3, 4, .inl f_9)), (h4, .inl (ch4, 4, .inl f_10)), (h5, .inl (ch5, 4, .inl (upd f_159 (2 : Int32).toNatClampNeg 0)))] := hD
                  generalize (upd f_159 (2 : Int32).toNatClampNeg 0) = f_161 at hP hD
                  refine lv_aload_n hx hb dX6_tryPair_267 rfl (lv_at hl 5 rfl) ?_
                  refine va_get (D := (dC, dI)) (ci := 6) (v := .ref h5) (C := RX6) (T := TX6) (N := 7) hx hb hts hiX6 hown hK hP 0 rfl rfl 5 (by decide) w__fieldLink_RX6_27_ShellHeap_Readers_died_I_ (fun _ h9 => h9) rfl dX6_tryPair_268 ?_
                  refine lv_iconst (v := 3) hx hb dX6_tryPair_271 (by decide) ?_
                  refine lv_iload hx hb dX6_tryPair_272 (lv_at hl 9 rfl) ?_
                  refine lv_iload hx hb dX6_tryPair_274 (lv_at hl 1 rfl) ?_
                  refine lv_isub hx hb dX6_tryPair_276 ?_
                  refine lv_topi (fun z_162 ez_162 => ?_)
                  have kr_z_162_p4 := z_rng p4
                  have kz_162 : (z_162).toInt = (p4).toInt - (0 : Int) := by rw [ez_162]; exact z_sub (a := (p4).toInt) (b := (0 : Int)) rfl rfl (by omega) (by omega)
                  refine va_iast hx hb hK hP hD hS 5 4 rfl rfl (by unfold vp_in; decide) dX6_tryPair_277 (fun H_163 locs hP hD hS => ?_)
                  have hP : va_P (dC, dI) vwCl [(h0, .inr (6, [.ref h1, h0_1, .ref h2, .ref h3, .ref h4, .ref h5, .int r_115])), (h1, .inl (ch1, 48, .inl fh1)), (h2, .inl (ch2, 4, .inl fh2)), (h3, .inl (ch3, 4, .inl f_9)), (h4, .inl (ch4, 4, .inl f_10)), (h5, .inl (ch5, 4, .inl (upd f_161 (3 : Int32).toNatClampNeg z_162)))] H_163 := hP
                  have hD : va_D A [(h0, .inr (6, [.ref h1, h0_1, .ref h2, .ref h3, .ref h4, .ref h5, .int r_115])), (h1, .inl (ch1, 48, .inl fh1)), (h2, .inl (ch2, 4, .inl fh2)), (h3, .inl (ch3, 4, .inl f_9)), (h4, .inl (ch4, 4, .inl f_10)), (h5, .inl (ch5, 4, .inl (upd f_161 (3 : Int32).toNatClampNeg z_162)))] := hD
                  generalize (upd f_161 (3 : Int32).toNatClampNeg z_162) = f_164 at hP hD
                  refine z_backQ hQQ ?_
                  have hP9 := hP.sub (ws' := [(h0, .inr (6, [.ref h1, h0_1, .ref h2, .ref h3, .ref h4, .ref h5, .int r_115])), (h1, .inl (ch1, 48, .inl fh1)), (h2, .inl (ch2, 4, .inl fh2)), (h3, .inl (ch3, 4, .inl f_9)), (h4, .inl (ch4, 4, .inl f_10)), (h5, .inl (ch5, 4, .inl f_164))]) [0, 1, 2, 3, 4, 5] rfl
                  have hD9 := hD.sub (ws' := [(h0, .inr (6, [.ref h1, h0_1, .ref h2, .ref h3, .ref h4, .ref h5, .int r_115])), (h1, .inl (ch1, 48, .inl fh1)), (h2, .inl (ch2, 4, .inl fh2)), (h3, .inl (ch3, 4, .inl f_9)), (h4, .inl (ch4, 4, .inl f_10)), (h5, .inl (ch5, 4, .inl f_164))]) [0, 1, 2, 3, 4, 5] (by decide) rfl
                  have hK9 := hK.sub (tys' := []) [] rfl
                  refine W.widen (k := 0) (n := 0) (Nat.le_of_ble_eq_true rfl) (Nat.le_of_ble_eq_true rfl) ?_
                  exact W.vret hx hb hr (fun t ht hW => ⟨⟨(), rfl, trivial, ⟨r_115, f_9, f_10, f_164, by rw [ht]; exact hP9, va_K.moved hW.alike hK9, hD9⟩⟩, hS.F ht⟩) hS.2.2 dX6_tryPair_278
                · have k_165 : (rm).toInt ≠ (-1 : Int) := z_ne c_153
                  refine lv_iload hx hb dX6_tryPair_230 (lv_at hl 0 rfl) ?_
                  refine lv_aload_n hx hb dX6_tryPair_232 rfl (lv_at hl 5 rfl) ?_
                  refine va_get (D := (dC, dI)) (ci := 6) (v := .int rm) (C := RX6) (T := TX6) (N := 7) hx hb hts hiX6 hown hK hP 0 rfl rfl 6 (by decide) w__fieldLink_RX6_30_ShellHeap_Readers_miss_I_ (fun _ h9 => h9) rfl dX6_tryPair_233 ?_
                  refine lv_icmp_ge (tgt := 278) hx hb dX6_tryPair_236 (by decide) (fun c_166 => ?_) (fun c_166 => ?_)
                  · have k_167 : (rm).toInt ≤ (r_115).toInt := z_le c_166
                    refine z_backQ hQQ ?_
                    have hP9 := hP.sub (ws' := [(h0, .inr (6, [.ref h1, h0_1, .ref h2, .ref h3, .ref h4, .ref h5, .int rm])), (h1, .inl (ch1, 48, .inl fh1)), (h2, .inl (ch2, 4, .inl fh2)), (h3, .inl (ch3, 4, .inl f_9)), (h4, .inl (ch4, 4, .inl f_10)), (h5, .inl (ch5, 4, .inl fh5))]) [0, 1, 2, 3, 4, 5] rfl
                    have hD9 := hD.sub (ws' := [(h0, .inr (6, [.ref h1, h0_1, .ref h2, .ref h3, .ref h4, .ref h5, .int rm])), (h1, .inl (ch1, 48, .inl fh1)), (h2, .inl (ch2, 4, .inl fh2)), (h3, .inl (ch3, 4, .inl f_9)), (h4, .inl (ch4, 4, .inl f_10)), (h5, .inl (ch5, 4, .inl fh5))]) [0, 1, 2, 3, 4, 5] (by decide) rfl
                    have hK9 := hK.sub (tys' := []) [] rfl
                    refine W.widen (k := 0) (n := 0) (Nat.le_of_ble_eq_true rfl) (Nat.le_of_ble_eq_true rfl) ?_
                    exact W.vret hx hb hr (fun t ht hW => ⟨⟨(), rfl, trivial, ⟨rm, f_9, f_10, fh5, by rw [ht]; exact hP9, va_K.moved hW.alike hK9, hD9⟩⟩, hS.F ht⟩) hS.2.2 dX6_tryPair_278
                  · have k_168 : (rm).toInt > (r_115).toInt := z_nle c_166
                    refine lv_aload_n hx hb dX6_tryPair_239 rfl (lv_at hl 5 rfl) ?_
                    refine lv_iload hx hb dX6_tryPair_240 (lv_at hl 0 rfl) ?_
                    refine va_put (D := (dC, dI)) (ci := 6) (v := .int r_115) (ty := .int) (C := RX6) (T := TX6) (N := 7) hx hb hts hiX6 tyX6 tyX6_ok nmX6 hown hK hP hD hS 0 rfl rfl 6 (by decide) w__fieldLink_RX6_30_ShellHeap_Readers_miss_I_ (fun _ h9 => h9) rfl (by decide +kernel) rfl rfl (Nat.le_of_ble_eq_true rfl) dX6_tryPair_242 (fun H_169 locs hP hD hS => ?_)
                    have hP : va_P (dC, dI) vwCl [(h0, .inr (6, [.ref h1, h0_1, .ref h2, .ref h3, .ref h4, .ref h5, .int r_115])), (h1, .inl (ch1, 48, .inl fh1)), (h2, .inl (ch2, 4, .inl fh2)), (h3, .inl (ch3, 4, .inl f_9)), (h4, .inl (ch4, 4, .inl f_10)), (h5, .inl (ch5, 4, .inl fh5))] H_169 := hP
                    have hD : va_D A [(h0, .inr (6, [.ref h1, h0_1, .ref h2, .ref h3, .ref h4, .ref h5, .int r_115])), (h1, .inl (ch1, 48, .inl fh1)), (h2, .inl (ch2, 4, .inl fh2)), (h3, .inl (ch3, 4, .inl f_9)), (h4, .inl (ch4, 4, .inl f_10)), (h5, .inl (ch5, 4, .inl fh5))] := hD
                    refine lv_aload_n hx hb dX6_tryPair_245 rfl (lv_at hl 5 rfl) ?_
                    refine va_get (D := (dC, dI)) (ci := 6) (v := .ref h5) (C := RX6) (T := TX6) (N := 7) hx hb hts hiX6 hown hK hP 0 rfl rfl 5 (by decide) w__fieldLink_RX6_27_ShellHeap_Readers_died_I_ (fun _ h9 => h9) rfl dX6_tryPair_246 ?_
                    refine lv_iconst (v := 0) hx hb dX6_tryPair_249 (by decide) ?_
                    refine lv_iload_n hx hb dX6_tryPair_250 rfl (lv_at hl 7 rfl) ?_
                    refine va_iast hx hb hK hP hD hS 5 4 rfl rfl (by unfold vp_in; decide) dX6_tryPair_251 (fun H_170 locs hP hD hS => ?_)
                    have hP : va_P (dC, dI) vwCl [(h0, .inr (6, [.ref h1, h0_1, .ref h2, .ref h3, .ref h4, .ref h5, .int r_115])), (h1, .inl (ch1, 48, .inl fh1)), (h2, .inl (ch2, 4, .inl fh2)), (h3, .inl (ch3, 4, .inl f_9)), (h4, .inl (ch4, 4, .inl f_10)), (h5, .inl (ch5, 4, .inl (upd fh5 (0 : Int32).toNatClampNeg p2)))] H_170 := hP
                    have hD : va_D A [(h0, .inr (6, [.ref h1, h0_1, .ref h2, .ref h3, .ref h4, .ref h5, .int r_115])), (h1, .inl (ch1, 48, .inl fh1)), (h2, .inl (ch2, 4, .inl fh2)), (h3, .inl (ch3, 4, .inl f_9)), (h4, .inl (ch4, 4, .inl f_10)), (h5, .inl (ch5, 4, .inl (upd fh5 (0 : Int32).toNatClampNeg p2)))] := hD
                    generalize (upd fh5 (0 : Int32).toNatClampNeg p2) = f_171 at hP hD
                    refine lv_aload_n hx hb dX6_tryPair_252 rfl (lv_at hl 5 rfl) ?_
                    refine va_get (D := (dC, dI)) (ci := 6) (v := .ref h5) (C := RX6) (T := TX6) (N := 7) hx hb hts hiX6 hown hK hP 0 rfl rfl 5 (by decide) w__fieldLink_RX6_27_ShellHeap_Readers_died_I_ (fun _ h9 => h9) rfl dX6_tryPair_253 ?_
                    refine lv_iconst (v := 1) hx hb dX6_tryPair_256 (by decide) ?_
                    refine lv_iload_n hx hb dX6_tryPair_257 rfl (lv_at hl 8 rfl) ?_
                    refine va_iast hx hb hK hP hD hS 5 4 rfl rfl (by unfold vp_in; decide) dX6_tryPair_258 (fun H_172 locs hP hD hS => ?_)
                    have hP : va_P (dC, dI) vwCl [(h0, .inr (6, [.ref h1, h0_1, .ref h2, .ref h3, .ref h4, .ref h5, .int r_115])), (h1, .inl (ch1, 48, .inl fh1)), (h2, .inl (ch2, 4, .inl fh2)), (h3, .inl (ch3, 4, .inl f_9)), (h4, .inl (ch4, 4, .inl f_10)), (h5, .inl (ch5, 4, .inl (upd f_171 (1 : Int32).toNatClampNeg p3)))] H_172 := hP
                    have hD : va_D A [(h0, .inr (6, [.ref h1, h0_1, .ref h2, .ref h3, .ref h4, .ref h5, .int r_115])), (h1, .inl (ch1, 48, .inl fh1)), (h2, .inl (ch2, 4, .inl fh2)), (h3, .inl (ch3, 4, .inl f_9)), (h4, .inl (ch4, 4, .inl f_10)), (h5, .inl (ch5, 4, .inl (upd f_171 (1 : Int32).toNatClampNeg p3)))] := hD
                    generalize (upd f_171 (1 : Int32).toNatClampNeg p3) = f_173 at hP hD
                    refine lv_aload_n hx hb dX6_tryPair_259 rfl (lv_at hl 5 rfl) ?_
                    refine va_get (D := (dC, dI)) (ci := 6) (v := .ref h5) (C := RX6) (T := TX6) (N := 7) hx hb hts hiX6 hown hK hP 0 rfl rfl 5 (by decide) w__fieldLink_RX6_27_ShellHeap_Readers_died_I_ (fun _ h9 => h9) rfl dX6_tryPair_260 ?_
                    refine lv_iconst (v := 2) hx hb dX6_tryPair_263 (by decide) ?_
                    refine lv_iload hx hb dX6_tryPair_264 (lv_at hl 1 rfl) ?_
                    refine va_iast hx hb hK hP hD hS 5 4 rfl rfl (by unfold vp_in; decide) dX6_tryPair_266 (fun H_174 locs hP hD hS => ?_)
                    have hP : va_P (dC, dI) vwCl [(h0, .inr (6, [.ref h1, h0_1, .ref h2, .ref h3, .ref h4, .ref h5, .int r_115])), (h1, .inl (ch1, 48, .inl fh1)), (h2, .inl (ch2, 4, .inl fh2)), (h3, .inl (ch3, 4, .inl f_9)), (h4, .inl (ch4, 4, .inl f_10)), (h5, .inl (ch5, 4, .inl (upd f_173 (2 : Int32).toNatClampNeg 0)))] H_174 := hP
                    have hD : va_D A [(h0, .inr (6, [.ref h1, h0_1, .ref h2, .ref h3, .ref h4, .ref h5, .int r_115])), (h1, .inl (ch1, 48, .inl fh1)), (h2, .inl (ch2, 4, .inl fh2)), (h3, .inl (ch3, 4, .inl f_9)), (h4, .inl (ch4, 4, .inl f_10)), (h5, .inl (ch5, 4, .inl (upd f_173 (2 : Int32).toNatClampNeg 0)))] := hD
                    generalize (upd f_173 (2 : Int32).toNatClampNeg 0) = f_175 at hP hD
                    refine lv_aload_n hx hb dX6_tryPair_267 rfl (lv_at hl 5 rfl) ?_
                    refine va_get (D := (dC, dI)) (ci := 6) (v := .ref h5) (C := RX6) (T := TX6) (N := 7) hx hb hts hiX6 hown hK hP 0 rfl rfl 5 (by decide) w__fieldLink_RX6_27_ShellHeap_Readers_died_I_ (fun _ h9 => h9) rfl dX6_tryPair_268 ?_
                    refine lv_iconst (v := 3) hx hb dX6_tryPair_271 (by decide) ?_
                    refine lv_iload hx hb dX6_tryPair_272 (lv_at hl 9 rfl) ?_
                    refine lv_iload hx hb dX6_tryPair_274 (lv_at hl 1 rfl) ?_
                    refine lv_isub hx hb dX6_tryPair_276 ?_
                    refine lv_topi (fun z_176 ez_176 => ?_)
                    have kr_z_176_p4 := z_rng p4
                    have kz_176 : (z_176).toInt = (p4).toInt - (0 : Int) := by rw [ez_176]; exact z_sub (a := (p4).toInt) (b := (0 : Int)) rfl rfl (by omega) (by omega)
                    refine va_iast hx hb hK hP hD hS 5 4 rfl rfl (by unfold vp_in; decide) dX6_tryPair_277 (fun H_177 locs hP hD hS => ?_)
                    have hP : va_P (dC, dI) vwCl [(h0, .inr (6, [.ref h1, h0_1, .ref h2, .ref h3, .ref h4, .ref h5, .int r_115])), (h1, .inl (ch1, 48, .inl fh1)), (h2, .inl (ch2, 4, .inl fh2)), (h3, .inl (ch3, 4, .inl f_9)), (h4, .inl (ch4, 4, .inl f_10)), (h5, .inl (ch5, 4, .inl (upd f_175 (3 : Int32).toNatClampNeg z_176)))] H_177 := hP
                    have hD : va_D A [(h0, .inr (6, [.ref h1, h0_1, .ref h2, .ref h3, .ref h4, .ref h5, .int r_115])), (h1, .inl (ch1, 48, .inl fh1)), (h2, .inl (ch2, 4, .inl fh2)), (h3, .inl (ch3, 4, .inl f_9)), (h4, .inl (ch4, 4, .inl f_10)), (h5, .inl (ch5, 4, .inl (upd f_175 (3 : Int32).toNatClampNeg z_176)))] := hD
                    generalize (upd f_175 (3 : Int32).toNatClampNeg z_176) = f_178 at hP hD
                    refine z_backQ hQQ ?_
                    have hP9 := hP.sub (ws' := [(h0, .inr (6, [.ref h1, h0_1, .ref h2, .ref h3, .ref h4, .ref h5, .int r_115])), (h1, .inl (ch1, 48, .inl fh1)), (h2, .inl (ch2, 4, .inl fh2)), (h3, .inl (ch3, 4, .inl f_9)), (h4, .inl (ch4, 4, .inl f_10)), (h5, .inl (ch5, 4, .inl f_178))]) [0, 1, 2, 3, 4, 5] rfl
                    have hD9 := hD.sub (ws' := [(h0, .inr (6, [.ref h1, h0_1, .ref h2, .ref h3, .ref h4, .ref h5, .int r_115])), (h1, .inl (ch1, 48, .inl fh1)), (h2, .inl (ch2, 4, .inl fh2)), (h3, .inl (ch3, 4, .inl f_9)), (h4, .inl (ch4, 4, .inl f_10)), (h5, .inl (ch5, 4, .inl f_178))]) [0, 1, 2, 3, 4, 5] (by decide) rfl
                    have hK9 := hK.sub (tys' := []) [] rfl
                    refine W.widen (k := 0) (n := 0) (Nat.le_of_ble_eq_true rfl) (Nat.le_of_ble_eq_true rfl) ?_
                    exact W.vret hx hb hr (fun t ht hW => ⟨⟨(), rfl, trivial, ⟨r_115, f_9, f_10, f_178, by rw [ht]; exact hP9, va_K.moved hW.alike hK9, hD9⟩⟩, hS.F ht⟩) hS.2.2 dX6_tryPair_278
              · have k_179 : (r_115).toInt > (r_149).toInt := z_nle c_151
                refine lv_iinc (v := 1) (lv' := [(8, .int 1), (9, .int r_115), (7, .int c_8), (6, .int a_7), (5, .int z_2), (0, .ref h0), (1, .int p1), (2, .int p2), (3, .int p3), (4, .int p4)]) hx hb dX6_tryPair_211 hl (k := 1) rfl (by decide) (by decide) rfl (fun ls hl => ?_)
                refine lv_aload_n hx hb dX6_tryPair_214 rfl (lv_at hl 5 rfl) ?_
                refine lv_iload hx hb dX6_tryPair_215 (lv_at hl 0 rfl) ?_
                have hPc := hP.sub (ws' := [(h0, .inr (6, [.ref h1, h0_1, .ref h2, .ref h3, .ref h4, .ref h5, .int rm])), (h3, .inl (ch3, 4, .inl f_9)), (h4, .inl (ch4, 4, .inl f_10))]) [0, 3, 4] rfl
                have hDc := hD.sub (ws' := [(h0, .inr (6, [.ref h1, h0_1, .ref h2, .ref h3, .ref h4, .ref h5, .int rm])), (h3, .inl (ch3, 4, .inl f_9)), (h4, .inl (ch4, 4, .inl f_10))]) [0, 3, 4] (by decide) rfl
                have hKc := hK.sub (tys' := [(ch3, .int), (ch4, .int)]) [2, 3] rfl
                have hFc := va_free (ws := []) (wc := []) (z_D0 _) hS hA [] rfl
                refine va_calli (va_runV (As := [.int 1]) (rest := []) ⟨hx, hb, hml, hown, hts⟩ (s_X6_missAt l dC dI H_148.size h0 1 (.ref h1) h0_1 (.ref h2) h3 h4 (.ref h5) (.int rm) ch3 f_9 ch4 f_10) (cwV 1 hts gw_s_X6_tryPair_s_X6_missAt_47 rfl rfl rfl (by decide +kernel) ⟨Nat.le_of_ble_eq_true rfl, Nat.le_of_ble_eq_true rfl⟩) ⟨z_blind, va_recv hKc hPc (ci := 6) (q0 := 0) rfl rfl, z_pre hPc hKc hDc⟩ rfl rfl hl.1 rfl (lv_room (Nat.le_of_ble_eq_true rfl)) dX6_tryPair_217 ⟨Nat.le_of_ble_eq_true rfl, Nat.le_of_ble_eq_true rfl⟩) hS (fun q _ h => hFc q h) hFc (fun r_181 u t H_180 locs ht hvm hw_182 hB hz1 hk1 hS => ?_)
                have hP := z_pure hP hk1
                have hP : va_P (dC, dI) vwCl [(h0, .inr (6, [.ref h1, h0_1, .ref h2, .ref h3, .ref h4, .ref h5, .int rm])), (h1, .inl (ch1, 48, .inl fh1)), (h2, .inl (ch2, 4, .inl fh2)), (h3, .inl (ch3, 4, .inl f_9)), (h4, .inl (ch4, 4, .inl f_10)), (h5, .inl (ch5, 4, .inl fh5))] H_180 := hP
                have hD : va_D A [(h0, .inr (6, [.ref h1, h0_1, .ref h2, .ref h3, .ref h4, .ref h5, .int rm])), (h1, .inl (ch1, 48, .inl fh1)), (h2, .inl (ch2, 4, .inl fh2)), (h3, .inl (ch3, 4, .inl f_9)), (h4, .inl (ch4, 4, .inl f_10)), (h5, .inl (ch5, 4, .inl fh5))] := hD
                clear hPc hDc hKc
                refine lv_istore (lv' := [(9, .int r_181), (8, .int 1), (7, .int c_8), (6, .int a_7), (5, .int z_2), (0, .ref h0), (1, .int p1), (2, .int p2), (3, .int p3), (4, .int p4)]) hx hb dX6_tryPair_220 hl (by decide) rfl (fun ls hl => ?_)
                refine lv_aload_n hx hb dX6_tryPair_222 rfl (lv_at hl 5 rfl) ?_
                refine va_get (D := (dC, dI)) (ci := 6) (v := .int rm) (C := RX6) (T := TX6) (N := 7) hx hb hts hiX6 hown hK hP 0 rfl rfl 6 (by decide) w__fieldLink_RX6_30_ShellHeap_Readers_miss_I_ (fun _ h9 => h9) rfl dX6_tryPair_223 ?_
                refine lv_iconst (v := (-1)) hx hb dX6_tryPair_226 (by decide) ?_
                refine lv_icmp_eq (tgt := 239) hx hb dX6_tryPair_227 (by decide) (fun c_183 => ?_) (fun c_183 => ?_)
                · have k_184 : (rm).toInt = (-1 : Int) := z_eq c_183
                  obtain rfl : rm = (-1) := z_eq' (show (rm).toInt = (-1 : Int) by omega)
                  refine lv_aload_n hx hb dX6_tryPair_239 rfl (lv_at hl 5 rfl) ?_
                  refine lv_iload hx hb dX6_tryPair_240 (lv_at hl 0 rfl) ?_
                  refine va_put (D := (dC, dI)) (ci := 6) (v := .int r_181) (ty := .int) (C := RX6) (T := TX6) (N := 7) hx hb hts hiX6 tyX6 tyX6_ok nmX6 hown hK hP hD hS 0 rfl rfl 6 (by decide) w__fieldLink_RX6_30_ShellHeap_Readers_miss_I_ (fun _ h9 => h9) rfl (by decide +kernel) rfl rfl (Nat.le_of_ble_eq_true rfl) dX6_tryPair_242 (fun H_185 locs hP hD hS => ?_)
                  have hP : va_P (dC, dI) vwCl [(h0, .inr (6, [.ref h1, h0_1, .ref h2, .ref h3, .ref h4, .ref h5, .int r_181])), (h1, .inl (ch1, 48, .inl fh1)), (h2, .inl (ch2, 4, .inl fh2)), (h3, .inl (ch3, 4, .inl f_9)), (h4, .inl (ch4, 4, .inl f_10)), (h5, .inl (ch5, 4, .inl fh5))] H_185 := hP
                  have hD : va_D A [(h0, .inr (6, [.ref h1, h0_1, .ref h2, .ref h3, .ref h4, .ref h5, .int r_181])), (h1, .inl (ch1, 48, .inl fh1)), (h2, .inl (ch2, 4, .inl fh2)), (h3, .inl (ch3, 4, .inl f_9)), (h4, .inl (ch4, 4, .inl f_10)), (h5, .inl (ch5, 4, .inl fh5))] := hD
                  refine lv_aload_n hx hb dX6_tryPair_245 rfl (lv_at hl 5 rfl) ?_
                  refine va_get (D := (dC, dI)) (ci := 6) (v := .ref h5) (C := RX6) (T := TX6) (N := 7) hx hb hts hiX6 hown hK hP 0 rfl rfl 5 (by decide) w__fieldLink_RX6_27_ShellHeap_Readers_died_I_ (fun _ h9 => h9) rfl dX6_tryPair_246 ?_
                  refine lv_iconst (v := 0) hx hb dX6_tryPair_249 (by decide) ?_
                  refine lv_iload_n hx hb dX6_tryPair_250 rfl (lv_at hl 7 rfl) ?_
                  refine va_iast hx hb hK hP hD hS 5 4 rfl rfl (by unfold vp_in; decide) dX6_tryPair_251 (fun H_186 locs hP hD hS => ?_)
                  have hP : va_P (dC, dI) vwCl [(h0, .inr (6, [.ref h1, h0_1, .ref h2, .ref h3, .ref h4, .ref h5, .int r_181])), (h1, .inl (ch1, 48, .inl fh1)), (h2, .inl (ch2, 4, .inl fh2)), (h3, .inl (ch3, 4, .inl f_9)), (h4, .inl (ch4, 4, .inl f_10)), (h5, .inl (ch5, 4, .inl (upd fh5 (0 : Int32).toNatClampNeg p2)))] H_186 := hP
                  have hD : va_D A [(h0, .inr (6, [.ref h1, h0_1, .ref h2, .ref h3, .ref h4, .ref h5, .int r_181])), (h1, .inl (ch1, 48, .inl fh1)), (h2, .inl (ch2, 4, .inl fh2)), (h3, .inl (ch3, 4, .inl f_9)), (h4, .inl (ch4, 4, .inl f_10)), (h5, .inl (ch5, 4, .inl (upd fh5 (0 : Int32).toNatClampNeg p2)))] := hD
                  generalize (upd fh5 (0 : Int32).toNatClampNeg p2) = f_187 at hP hD
                  refine lv_aload_n hx hb dX6_tryPair_252 rfl (lv_at hl 5 rfl) ?_
                  refine va_get (D := (dC, dI)) (ci := 6) (v := .ref h5) (C := RX6) (T := TX6) (N := 7) hx hb hts hiX6 hown hK hP 0 rfl rfl 5 (by decide) w__fieldLink_RX6_27_ShellHeap_Readers_died_I_ (fun _ h9 => h9) rfl dX6_tryPair_253 ?_
                  refine lv_iconst (v := 1) hx hb dX6_tryPair_256 (by decide) ?_
                  refine lv_iload_n hx hb dX6_tryPair_257 rfl (lv_at hl 8 rfl) ?_
                  refine va_iast hx hb hK hP hD hS 5 4 rfl rfl (by unfold vp_in; decide) dX6_tryPair_258 (fun H_188 locs hP hD hS => ?_)
                  have hP : va_P (dC, dI) vwCl [(h0, .inr (6, [.ref h1, h0_1, .ref h2, .ref h3, .ref h4, .ref h5, .int r_181])), (h1, .inl (ch1, 48, .inl fh1)), (h2, .inl (ch2, 4, .inl fh2)), (h3, .inl (ch3, 4, .inl f_9)), (h4, .inl (ch4, 4, .inl f_10)), (h5, .inl (ch5, 4, .inl (upd f_187 (1 : Int32).toNatClampNeg p3)))] H_188 := hP
                  have hD : va_D A [(h0, .inr (6, [.ref h1, h0_1, .ref h2, .ref h3, .ref h4, .ref h5, .int r_181])), (h1, .inl (ch1, 48, .inl fh1)), (h2, .inl (ch2, 4, .inl fh2)), (h3, .inl (ch3, 4, .inl f_9)), (h4, .inl (ch4, 4, .inl f_10)), (h5, .inl (ch5, 4, .inl (upd f_187 (1 : Int32).toNatClampNeg p3)))] := hD
                  generalize (upd f_187 (1 : Int32).toNatClampNeg p3) = f_189 at hP hD
                  refine lv_aload_n hx hb dX6_tryPair_259 rfl (lv_at hl 5 rfl) ?_
                  refine va_get (D := (dC, dI)) (ci := 6) (v := .ref h5) (C := RX6) (T := TX6) (N := 7) hx hb hts hiX6 hown hK hP 0 rfl rfl 5 (by decide) w__fieldLink_RX6_27_ShellHeap_Readers_died_I_ (fun _ h9 => h9) rfl dX6_tryPair_260 ?_
                  refine lv_iconst (v := 2) hx hb dX6_tryPair_263 (by decide) ?_
                  refine lv_iload hx hb dX6_tryPair_264 (lv_at hl 1 rfl) ?_
                  refine va_iast hx hb hK hP hD hS 5 4 rfl rfl (by unfold vp_in; decide) dX6_tryPair_266 (fun H_190 locs hP hD hS => ?_)
                  have hP : va_P (dC, dI) vwCl [(h0, .inr (6, [.ref h1, h0_1, .ref h2, .ref h3, .ref h4, .ref h5, .int r_181])), (h1, .inl (ch1, 48, .inl fh1)), (h2, .inl (ch2, 4, .inl fh2)), (h3, .inl (ch3, 4, .inl f_9)), (h4, .inl (ch4, 4, .inl f_10)), (h5, .inl (ch5, 4, .inl (upd f_189 (2 : Int32).toNatClampNeg 1)))] H_190 := hP
                  have hD : va_D A [(h0, .inr (6, [.ref h1, h0_1, .ref h2, .ref h3, .ref h4, .ref h5, .int r_181])), (h1, .inl (ch1, 48, .inl fh1)), (h2, .inl (ch2, 4, .inl fh2)), (h3, .inl (ch3, 4, .inl f_9)), (h4, .inl (ch4, 4, .inl f_10)), (h5, .inl (ch5, 4, .inl (upd f_189 (2 : Int32).toNatClampNeg 1)))] := hD
                  generalize (upd f_189 (2 : Int32).toNatClampNeg 1) = f_191 at hP hD
                  refine lv_aload_n hx hb dX6_tryPair_267 rfl (lv_at hl 5 rfl) ?_
                  refine va_get (D := (dC, dI)) (ci := 6) (v := .ref h5) (C := RX6) (T := TX6) (N := 7) hx hb hts hiX6 hown hK hP 0 rfl rfl 5 (by decide) w__fieldLink_RX6_27_ShellHeap_Readers_died_I_ (fun _ h9 => h9) rfl dX6_tryPair_268 ?_
                  refine lv_iconst (v := 3) hx hb dX6_tryPair_271 (by decide) ?_
                  refine lv_iload hx hb dX6_tryPair_272 (lv_at hl 9 rfl) ?_
                  refine lv_iload hx hb dX6_tryPair_274 (lv_at hl 1 rfl) ?_
                  refine lv_isub hx hb dX6_tryPair_276 ?_
                  refine lv_topi (fun z_192 ez_192 => ?_)
                  have kr_z_192_p4 := z_rng p4
                  have kz_192 : (z_192).toInt = (p4).toInt - (1 : Int) := by rw [ez_192]; exact z_sub (a := (p4).toInt) (b := (1 : Int)) rfl rfl (by omega) (by omega)
                  refine va_iast hx hb hK hP hD hS 5 4 rfl rfl (by unfold vp_in; decide) dX6_tryPair_277 (fun H_193 locs hP hD hS => ?_)
                  have hP : va_P (dC, dI) vwCl [(h0, .inr (6, [.ref h1, h0_1, .ref h2, .ref h3, .ref h4, .ref h5, .int r_181])), (h1, .inl (ch1, 48, .inl fh1)), (h2, .inl (ch2, 4, .inl fh2)), (h3, .inl (ch3, 4, .inl f_9)), (h4, .inl (ch4, 4, .inl f_10)), (h5, .inl (ch5, 4, .inl (upd f_191 (3 : Int32).toNatClampNeg z_192)))] H_193 := hP
                  have hD : va_D A [(h0, .inr (6, [.ref h1, h0_1, .ref h2, .ref h3, .ref h4, .ref h5, .int r_181])), (h1, .inl (ch1, 48, .inl fh1)), (h2, .inl (ch2, 4, .inl fh2)), (h3, .inl (ch3, 4, .inl f_9)), (h4, .inl (ch4, 4, .inl f_10)), (h5, .inl (ch5, 4, .inl (upd f_191 (3 : Int32).toNatClampNeg z_192)))] := hD
                  generalize (upd f_191 (3 : Int32).toNatClampNeg z_192) = f_194 at hP hD
                  refine z_backQ hQQ ?_
                  have hP9 := hP.sub (ws' := [(h0, .inr (6, [.ref h1, h0_1, .ref h2, .ref h3, .ref h4, .ref h5, .int r_181])), (h1, .inl (ch1, 48, .inl fh1)), (h2, .inl (ch2, 4, .inl fh2)), (h3, .inl (ch3, 4, .inl f_9)), (h4, .inl (ch4, 4, .inl f_10)), (h5, .inl (ch5, 4, .inl f_194))]) [0, 1, 2, 3, 4, 5] rfl
                  have hD9 := hD.sub (ws' := [(h0, .inr (6, [.ref h1, h0_1, .ref h2, .ref h3, .ref h4, .ref h5, .int r_181])), (h1, .inl (ch1, 48, .inl fh1)), (h2, .inl (ch2, 4, .inl fh2)), (h3, .inl (ch3, 4, .inl f_9)), (h4, .inl (ch4, 4, .inl f_10)), (h5, .inl (ch5, 4, .inl f_194))]) [0, 1, 2, 3, 4, 5] (by decide) rfl
                  have hK9 := hK.sub (tys' := []) [] rfl
                  refine W.widen (k := 0) (n := 0) (Nat.le_of_ble_eq_true rfl) (Nat.le_of_ble_eq_true rfl) ?_
                  exact W.vret hx hb hr (fun t ht hW => ⟨⟨(), rfl, trivial, ⟨r_181, f_9, f_10, f_194, by rw [ht]; exact hP9, va_K.moved hW.alike hK9, hD9⟩⟩, hS.F ht⟩) hS.2.2 dX6_tryPair_278
                · have k_195 : (rm).toInt ≠ (-1 : Int) := z_ne c_183
                  refine lv_iload hx hb dX6_tryPair_230 (lv_at hl 0 rfl) ?_
                  refine lv_aload_n hx hb dX6_tryPair_232 rfl (lv_at hl 5 rfl) ?_
                  refine va_get (D := (dC, dI)) (ci := 6) (v := .int rm) (C := RX6) (T := TX6) (N := 7) hx hb hts hiX6 hown hK hP 0 rfl rfl 6 (by decide) w__fieldLink_RX6_30_ShellHeap_Readers_miss_I_ (fun _ h9 => h9) rfl dX6_tryPair_233 ?_
                  refine lv_icmp_ge (tgt := 278) hx hb dX6_tryPair_236 (by decide) (fun c_196 => ?_) (fun c_196 => ?_)
                  · have k_197 : (rm).toInt ≤ (r_181).toInt := z_le c_196
                    refine z_backQ hQQ ?_
                    have hP9 := hP.sub (ws' := [(h0, .inr (6, [.ref h1, h0_1, .ref h2, .ref h3, .ref h4, .ref h5, .int rm])), (h1, .inl (ch1, 48, .inl fh1)), (h2, .inl (ch2, 4, .inl fh2)), (h3, .inl (ch3, 4, .inl f_9)), (h4, .inl (ch4, 4, .inl f_10)), (h5, .inl (ch5, 4, .inl fh5))]) [0, 1, 2, 3, 4, 5] rfl
                    have hD9 := hD.sub (ws' := [(h0, .inr (6, [.ref h1, h0_1, .ref h2, .ref h3, .ref h4, .ref h5, .int rm])), (h1, .inl (ch1, 48, .inl fh1)), (h2, .inl (ch2, 4, .inl fh2)), (h3, .inl (ch3, 4, .inl f_9)), (h4, .inl (ch4, 4, .inl f_10)), (h5, .inl (ch5, 4, .inl fh5))]) [0, 1, 2, 3, 4, 5] (by decide) rfl
                    have hK9 := hK.sub (tys' := []) [] rfl
                    refine W.widen (k := 0) (n := 0) (Nat.le_of_ble_eq_true rfl) (Nat.le_of_ble_eq_true rfl) ?_
                    exact W.vret hx hb hr (fun t ht hW => ⟨⟨(), rfl, trivial, ⟨rm, f_9, f_10, fh5, by rw [ht]; exact hP9, va_K.moved hW.alike hK9, hD9⟩⟩, hS.F ht⟩) hS.2.2 dX6_tryPair_278
                  · have k_198 : (rm).toInt > (r_181).toInt := z_nle c_196
                    refine lv_aload_n hx hb dX6_tryPair_239 rfl (lv_at hl 5 rfl) ?_
                    refine lv_iload hx hb dX6_tryPair_240 (lv_at hl 0 rfl) ?_
                    refine va_put (D := (dC, dI)) (ci := 6) (v := .int r_181) (ty := .int) (C := RX6) (T := TX6) (N := 7) hx hb hts hiX6 tyX6 tyX6_ok nmX6 hown hK hP hD hS 0 rfl rfl 6 (by decide) w__fieldLink_RX6_30_ShellHeap_Readers_miss_I_ (fun _ h9 => h9) rfl (by decide +kernel) rfl rfl (Nat.le_of_ble_eq_true rfl) dX6_tryPair_242 (fun H_199 locs hP hD hS => ?_)
                    have hP : va_P (dC, dI) vwCl [(h0, .inr (6, [.ref h1, h0_1, .ref h2, .ref h3, .ref h4, .ref h5, .int r_181])), (h1, .inl (ch1, 48, .inl fh1)), (h2, .inl (ch2, 4, .inl fh2)), (h3, .inl (ch3, 4, .inl f_9)), (h4, .inl (ch4, 4, .inl f_10)), (h5, .inl (ch5, 4, .inl fh5))] H_199 := hP
                    have hD : va_D A [(h0, .inr (6, [.ref h1, h0_1, .ref h2, .ref h3, .ref h4, .ref h5, .int r_181])), (h1, .inl (ch1, 48, .inl fh1)), (h2, .inl (ch2, 4, .inl fh2)), (h3, .inl (ch3, 4, .inl f_9)), (h4, .inl (ch4, 4, .inl f_10)), (h5, .inl (ch5, 4, .inl fh5))] := hD
                    refine lv_aload_n hx hb dX6_tryPair_245 rfl (lv_at hl 5 rfl) ?_
                    refine va_get (D := (dC, dI)) (ci := 6) (v := .ref h5) (C := RX6) (T := TX6) (N := 7) hx hb hts hiX6 hown hK hP 0 rfl rfl 5 (by decide) w__fieldLink_RX6_27_ShellHeap_Readers_died_I_ (fun _ h9 => h9) rfl dX6_tryPair_246 ?_
                    refine lv_iconst (v := 0) hx hb dX6_tryPair_249 (by decide) ?_
                    refine lv_iload_n hx hb dX6_tryPair_250 rfl (lv_at hl 7 rfl) ?_
                    refine va_iast hx hb hK hP hD hS 5 4 rfl rfl (by unfold vp_in; decide) dX6_tryPair_251 (fun H_200 locs hP hD hS => ?_)
                    have hP : va_P (dC, dI) vwCl [(h0, .inr (6, [.ref h1, h0_1, .ref h2, .ref h3, .ref h4, .ref h5, .int r_181])), (h1, .inl (ch1, 48, .inl fh1)), (h2, .inl (ch2, 4, .inl fh2)), (h3, .inl (ch3, 4, .inl f_9)), (h4, .inl (ch4, 4, .inl f_10)), (h5, .inl (ch5, 4, .inl (upd fh5 (0 : Int32).toNatClampNeg p2)))] H_200 := hP
                    have hD : va_D A [(h0, .inr (6, [.ref h1, h0_1, .ref h2, .ref h3, .ref h4, .ref h5, .int r_181])), (h1, .inl (ch1, 48, .inl fh1)), (h2, .inl (ch2, 4, .inl fh2)), (h3, .inl (ch3, 4, .inl f_9)), (h4, .inl (ch4, 4, .inl f_10)), (h5, .inl (ch5, 4, .inl (upd fh5 (0 : Int32).toNatClampNeg p2)))] := hD
                    generalize (upd fh5 (0 : Int32).toNatClampNeg p2) = f_201 at hP hD
                    refine lv_aload_n hx hb dX6_tryPair_252 rfl (lv_at hl 5 rfl) ?_
                    refine va_get (D := (dC, dI)) (ci := 6) (v := .ref h5) (C := RX6) (T := TX6) (N := 7) hx hb hts hiX6 hown hK hP 0 rfl rfl 5 (by decide) w__fieldLink_RX6_27_ShellHeap_Readers_died_I_ (fun _ h9 => h9) rfl dX6_tryPair_253 ?_
                    refine lv_iconst (v := 1) hx hb dX6_tryPair_256 (by decide) ?_
                    refine lv_iload_n hx hb dX6_tryPair_257 rfl (lv_at hl 8 rfl) ?_
                    refine va_iast hx hb hK hP hD hS 5 4 rfl rfl (by unfold vp_in; decide) dX6_tryPair_258 (fun H_202 locs hP hD hS => ?_)
                    have hP : va_P (dC, dI) vwCl [(h0, .inr (6, [.ref h1, h0_1, .ref h2, .ref h3, .ref h4, .ref h5, .int r_181])), (h1, .inl (ch1, 48, .inl fh1)), (h2, .inl (ch2, 4, .inl fh2)), (h3, .inl (ch3, 4, .inl f_9)), (h4, .inl (ch4, 4, .inl f_10)), (h5, .inl (ch5, 4, .inl (upd f_201 (1 : Int32).toNatClampNeg p3)))] H_202 := hP
                    have hD : va_D A [(h0, .inr (6, [.ref h1, h0_1, .ref h2, .ref h3, .ref h4, .ref h5, .int r_181])), (h1, .inl (ch1, 48, .inl fh1)), (h2, .inl (ch2, 4, .inl fh2)), (h3, .inl (ch3, 4, .inl f_9)), (h4, .inl (ch4, 4, .inl f_10)), (h5, .inl (ch5, 4, .inl (upd f_201 (1 : Int32).toNatClampNeg p3)))] := hD
                    generalize (upd f_201 (1 : Int32).toNatClampNeg p3) = f_203 at hP hD
                    refine lv_aload_n hx hb dX6_tryPair_259 rfl (lv_at hl 5 rfl) ?_
                    refine va_get (D := (dC, dI)) (ci := 6) (v := .ref h5) (C := RX6) (T := TX6) (N := 7) hx hb hts hiX6 hown hK hP 0 rfl rfl 5 (by decide) w__fieldLink_RX6_27_ShellHeap_Readers_died_I_ (fun _ h9 => h9) rfl dX6_tryPair_260 ?_
                    refine lv_iconst (v := 2) hx hb dX6_tryPair_263 (by decide) ?_
                    refine lv_iload hx hb dX6_tryPair_264 (lv_at hl 1 rfl) ?_
                    refine va_iast hx hb hK hP hD hS 5 4 rfl rfl (by unfold vp_in; decide) dX6_tryPair_266 (fun H_204 locs hP hD hS => ?_)
                    have hP : va_P (dC, dI) vwCl [(h0, .inr (6, [.ref h1, h0_1, .ref h2, .ref h3, .ref h4, .ref h5, .int r_181])), (h1, .inl (ch1, 48, .inl fh1)), (h2, .inl (ch2, 4, .inl fh2)), (h3, .inl (ch3, 4, .inl f_9)), (h4, .inl (ch4, 4, .inl f_10)), (h5, .inl (ch5, 4, .inl (upd f_203 (2 : Int32).toNatClampNeg 1)))] H_204 := hP
                    have hD : va_D A [(h0, .inr (6, [.ref h1, h0_1, .ref h2, .ref h3, .ref h4, .ref h5, .int r_181])), (h1, .inl (ch1, 48, .inl fh1)), (h2, .inl (ch2, 4, .inl fh2)), (h3, .inl (ch3, 4, .inl f_9)), (h4, .inl (ch4, 4, .inl f_10)), (h5, .inl (ch5, 4, .inl (upd f_203 (2 : Int32).toNatClampNeg 1)))] := hD
                    generalize (upd f_203 (2 : Int32).toNatClampNeg 1) = f_205 at hP hD
                    refine lv_aload_n hx hb dX6_tryPair_267 rfl (lv_at hl 5 rfl) ?_
                    refine va_get (D := (dC, dI)) (ci := 6) (v := .ref h5) (C := RX6) (T := TX6) (N := 7) hx hb hts hiX6 hown hK hP 0 rfl rfl 5 (by decide) w__fieldLink_RX6_27_ShellHeap_Readers_died_I_ (fun _ h9 => h9) rfl dX6_tryPair_268 ?_
                    refine lv_iconst (v := 3) hx hb dX6_tryPair_271 (by decide) ?_
                    refine lv_iload hx hb dX6_tryPair_272 (lv_at hl 9 rfl) ?_
                    refine lv_iload hx hb dX6_tryPair_274 (lv_at hl 1 rfl) ?_
                    refine lv_isub hx hb dX6_tryPair_276 ?_
                    refine lv_topi (fun z_206 ez_206 => ?_)
                    have kr_z_206_p4 := z_rng p4
                    have kz_206 : (z_206).toInt = (p4).toInt - (1 : Int) := by rw [ez_206]; exact z_sub (a := (p4).toInt) (b := (1 : Int)) rfl rfl (by omega) (by omega)
                    refine va_iast hx hb hK hP hD hS 5 4 rfl rfl (by unfold vp_in; decide) dX6_tryPair_277 (fun H_207 locs hP hD hS => ?_)
                    have hP : va_P (dC, dI) vwCl [(h0, .inr (6, [.ref h1, h0_1, .ref h2, .ref h3, .ref h4, .ref h5, .int r_181])), (h1, .inl (ch1, 48, .inl fh1)), (h2, .inl (ch2, 4, .inl fh2)), (h3, .inl (ch3, 4, .inl f_9)), (h4, .inl (ch4, 4, .inl f_10)), (h5, .inl (ch5, 4, .inl (upd f_205 (3 : Int32).toNatClampNeg z_206)))] H_207 := hP
                    have hD : va_D A [(h0, .inr (6, [.ref h1, h0_1, .ref h2, .ref h3, .ref h4, .ref h5, .int r_181])), (h1, .inl (ch1, 48, .inl fh1)), (h2, .inl (ch2, 4, .inl fh2)), (h3, .inl (ch3, 4, .inl f_9)), (h4, .inl (ch4, 4, .inl f_10)), (h5, .inl (ch5, 4, .inl (upd f_205 (3 : Int32).toNatClampNeg z_206)))] := hD
                    generalize (upd f_205 (3 : Int32).toNatClampNeg z_206) = f_208 at hP hD
                    refine z_backQ hQQ ?_
                    have hP9 := hP.sub (ws' := [(h0, .inr (6, [.ref h1, h0_1, .ref h2, .ref h3, .ref h4, .ref h5, .int r_181])), (h1, .inl (ch1, 48, .inl fh1)), (h2, .inl (ch2, 4, .inl fh2)), (h3, .inl (ch3, 4, .inl f_9)), (h4, .inl (ch4, 4, .inl f_10)), (h5, .inl (ch5, 4, .inl f_208))]) [0, 1, 2, 3, 4, 5] rfl
                    have hD9 := hD.sub (ws' := [(h0, .inr (6, [.ref h1, h0_1, .ref h2, .ref h3, .ref h4, .ref h5, .int r_181])), (h1, .inl (ch1, 48, .inl fh1)), (h2, .inl (ch2, 4, .inl fh2)), (h3, .inl (ch3, 4, .inl f_9)), (h4, .inl (ch4, 4, .inl f_10)), (h5, .inl (ch5, 4, .inl f_208))]) [0, 1, 2, 3, 4, 5] (by decide) rfl
                    have hK9 := hK.sub (tys' := []) [] rfl
                    refine W.widen (k := 0) (n := 0) (Nat.le_of_ble_eq_true rfl) (Nat.le_of_ble_eq_true rfl) ?_
                    exact W.vret hx hb hr (fun t ht hW => ⟨⟨(), rfl, trivial, ⟨r_181, f_9, f_10, f_208, by rw [ht]; exact hP9, va_K.moved hW.alike hK9, hD9⟩⟩, hS.F ht⟩) hS.2.2 dX6_tryPair_278
          · have k_209 : (a_7).toInt > (0 : Int) := z_nle c_112
            refine lv_iload hx hb dX6_tryPair_167 (lv_at hl 2 rfl) ?_
            refine lv_iload hx hb dX6_tryPair_169 (lv_at hl 1 rfl) ?_
            refine lv_idiv hx hb dX6_tryPair_171 (fun q => absurd (show (c_8).toInt = (0 : Int) from z_eq q) (by omega)) ?_
            refine lv_topi (fun z_210 ez_210 => ?_)
            refine lv_iload hx hb dX6_tryPair_172 (lv_at hl 8 rfl) ?_
            refine va_mmin hx hb (hml.trans hl.1.symm) hown w__methodLink_RX6_42_Lib_Math_min_name w__static_Lib_Math_min_name w__initialized_java_lang_Math_ w__code_Lib_Math_min_name_Lib_Math_min_code_2_some_int_ (Nat.le_of_ble_eq_true rfl) (Nat.le_of_ble_eq_true rfl) (Nat.le_of_ble_eq_true rfl) (Nat.le_of_ble_eq_true rfl) dX6_tryPair_174 ?_
            refine lv_topi (fun z_211 ez_211 => ?_)
            have kz_211 : ((z_211).toInt = (z_210).toInt ∨ (z_211).toInt = (p4).toInt) ∧ (z_211).toInt ≤ (z_210).toInt ∧ (z_211).toInt ≤ (p4).toInt := z_min ez_211
            refine lv_goto (tgt := 181) hx hb dX6_tryPair_177 (by decide) ?_
            refine lv_istore (lv' := [(8, .int z_211), (7, .int c_8), (6, .int a_7), (5, .int z_2), (0, .ref h0), (1, .int p1), (2, .int p2), (3, .int p3), (4, .int p4)]) hx hb dX6_tryPair_181 hl (by decide) rfl (fun ls hl => ?_)
            refine lv_aload_n hx hb dX6_tryPair_183 rfl (lv_at hl 4 rfl) ?_
            refine lv_iload hx hb dX6_tryPair_184 (lv_at hl 0 rfl) ?_
            have hPc := hP.sub (ws' := [(h0, .inr (6, [.ref h1, h0_1, .ref h2, .ref h3, .ref h4, .ref h5, .int rm])), (h3, .inl (ch3, 4, .inl f_9)), (h4, .inl (ch4, 4, .inl f_10))]) [0, 3, 4] rfl
            have hDc := hD.sub (ws' := [(h0, .inr (6, [.ref h1, h0_1, .ref h2, .ref h3, .ref h4, .ref h5, .int rm])), (h3, .inl (ch3, 4, .inl f_9)), (h4, .inl (ch4, 4, .inl f_10))]) [0, 3, 4] (by decide) rfl
            have hKc := hK.sub (tys' := [(ch3, .int), (ch4, .int)]) [2, 3] rfl
            have hFc := va_free (ws := []) (wc := []) (z_D0 _) hS hA [] rfl
            refine va_calli (va_runV (As := [.int z_211]) (rest := []) ⟨hx, hb, hml, hown, hts⟩ (s_X6_missAt l dC dI H.size h0 z_211 (.ref h1) h0_1 (.ref h2) h3 h4 (.ref h5) (.int rm) ch3 f_9 ch4 f_10) (cwV 1 hts gw_s_X6_tryPair_s_X6_missAt_47 rfl rfl rfl (by decide +kernel) ⟨Nat.le_of_ble_eq_true rfl, Nat.le_of_ble_eq_true rfl⟩) ⟨z_blind, va_recv hKc hPc (ci := 6) (q0 := 0) rfl rfl, z_pre hPc hKc hDc⟩ rfl rfl hl.1 rfl (lv_room (Nat.le_of_ble_eq_true rfl)) dX6_tryPair_186 ⟨Nat.le_of_ble_eq_true rfl, Nat.le_of_ble_eq_true rfl⟩) hS (fun q _ h => hFc q h) hFc (fun r_213 u t H_212 locs ht hvm hw_214 hB hz1 hk1 hS => ?_)
            have hP := z_pure hP hk1
            have hP : va_P (dC, dI) vwCl [(h0, .inr (6, [.ref h1, h0_1, .ref h2, .ref h3, .ref h4, .ref h5, .int rm])), (h1, .inl (ch1, 48, .inl fh1)), (h2, .inl (ch2, 4, .inl fh2)), (h3, .inl (ch3, 4, .inl f_9)), (h4, .inl (ch4, 4, .inl f_10)), (h5, .inl (ch5, 4, .inl fh5))] H_212 := hP
            have hD : va_D A [(h0, .inr (6, [.ref h1, h0_1, .ref h2, .ref h3, .ref h4, .ref h5, .int rm])), (h1, .inl (ch1, 48, .inl fh1)), (h2, .inl (ch2, 4, .inl fh2)), (h3, .inl (ch3, 4, .inl f_9)), (h4, .inl (ch4, 4, .inl f_10)), (h5, .inl (ch5, 4, .inl fh5))] := hD
            clear hPc hDc hKc
            refine lv_istore (lv' := [(9, .int r_213), (8, .int z_211), (7, .int c_8), (6, .int a_7), (5, .int z_2), (0, .ref h0), (1, .int p1), (2, .int p2), (3, .int p3), (4, .int p4)]) hx hb dX6_tryPair_189 hl (by decide) rfl (fun ls hl => ?_)
            refine lv_iload hx hb dX6_tryPair_191 (lv_at hl 1 rfl) ?_
            refine lv_iload hx hb dX6_tryPair_193 (lv_at hl 9 rfl) ?_
            refine lv_icmp_ge (tgt := 222) hx hb dX6_tryPair_195 (by decide) (fun c_215 => ?_) (fun c_215 => ?_)
            · have k_216 : (p4).toInt ≤ (z_211).toInt := z_le c_215
              refine lv_aload_n hx hb dX6_tryPair_222 rfl (lv_at hl 5 rfl) ?_
              refine va_get (D := (dC, dI)) (ci := 6) (v := .int rm) (C := RX6) (T := TX6) (N := 7) hx hb hts hiX6 hown hK hP 0 rfl rfl 6 (by decide) w__fieldLink_RX6_30_ShellHeap_Readers_miss_I_ (fun _ h9 => h9) rfl dX6_tryPair_223 ?_
              refine lv_iconst (v := (-1)) hx hb dX6_tryPair_226 (by decide) ?_
              refine lv_icmp_eq (tgt := 239) hx hb dX6_tryPair_227 (by decide) (fun c_217 => ?_) (fun c_217 => ?_)
              · have k_218 : (rm).toInt = (-1 : Int) := z_eq c_217
                obtain rfl : rm = (-1) := z_eq' (show (rm).toInt = (-1 : Int) by omega)
                refine lv_aload_n hx hb dX6_tryPair_239 rfl (lv_at hl 5 rfl) ?_
                refine lv_iload hx hb dX6_tryPair_240 (lv_at hl 0 rfl) ?_
                refine va_put (D := (dC, dI)) (ci := 6) (v := .int r_213) (ty := .int) (C := RX6) (T := TX6) (N := 7) hx hb hts hiX6 tyX6 tyX6_ok nmX6 hown hK hP hD hS 0 rfl rfl 6 (by decide) w__fieldLink_RX6_30_ShellHeap_Readers_miss_I_ (fun _ h9 => h9) rfl (by decide +kernel) rfl rfl (Nat.le_of_ble_eq_true rfl) dX6_tryPair_242 (fun H_219 locs hP hD hS => ?_)
                have hP : va_P (dC, dI) vwCl [(h0, .inr (6, [.ref h1, h0_1, .ref h2, .ref h3, .ref h4, .ref h5, .int r_213])), (h1, .inl (ch1, 48, .inl fh1)), (h2, .inl (ch2, 4, .inl fh2)), (h3, .inl (ch3, 4, .inl f_9)), (h4, .inl (ch4, 4, .inl f_10)), (h5, .inl (ch5, 4, .inl fh5))] H_219 := hP
                have hD : va_D A [(h0, .inr (6, [.ref h1, h0_1, .ref h2, .ref h3, .ref h4, .ref h5, .int r_213])), (h1, .inl (ch1, 48, .inl fh1)), (h2, .inl (ch2, 4, .inl fh2)), (h3, .inl (ch3, 4, .inl f_9)), (h4, .inl (ch4, 4, .inl f_10)), (h5, .inl (ch5, 4, .inl fh5))] := hD
                refine lv_aload_n hx hb dX6_tryPair_245 rfl (lv_at hl 5 rfl) ?_
                refine va_get (D := (dC, dI)) (ci := 6) (v := .ref h5) (C := RX6) (T := TX6) (N := 7) hx hb hts hiX6 hown hK hP 0 rfl rfl 5 (by decide) w__fieldLink_RX6_27_ShellHeap_Readers_died_I_ (fun _ h9 => h9) rfl dX6_tryPair_246 ?_
                refine lv_iconst (v := 0) hx hb dX6_tryPair_249 (by decide) ?_
                refine lv_iload_n hx hb dX6_tryPair_250 rfl (lv_at hl 7 rfl) ?_
                refine va_iast hx hb hK hP hD hS 5 4 rfl rfl (by unfold vp_in; decide) dX6_tryPair_251 (fun H_220 locs hP hD hS => ?_)
                have hP : va_P (dC, dI) vwCl [(h0, .inr (6, [.ref h1, h0_1, .ref h2, .ref h3, .ref h4, .ref h5, .int r_213])), (h1, .inl (ch1, 48, .inl fh1)), (h2, .inl (ch2, 4, .inl fh2)), (h3, .inl (ch3, 4, .inl f_9)), (h4, .inl (ch4, 4, .inl f_10)), (h5, .inl (ch5, 4, .inl (upd fh5 (0 : Int32).toNatClampNeg p2)))] H_220 := hP
                have hD : va_D A [(h0, .inr (6, [.ref h1, h0_1, .ref h2, .ref h3, .ref h4, .ref h5, .int r_213])), (h1, .inl (ch1, 48, .inl fh1)), (h2, .inl (ch2, 4, .inl fh2)), (h3, .inl (ch3, 4, .inl f_9)), (h4, .inl (ch4, 4, .inl f_10)), (h5, .inl (ch5, 4, .inl (upd fh5 (0 : Int32).toNatClampNeg p2)))] := hD
                generalize (upd fh5 (0 : Int32).toNatClampNeg p2) = f_221 at hP hD
                refine lv_aload_n hx hb dX6_tryPair_252 rfl (lv_at hl 5 rfl) ?_
                refine va_get (D := (dC, dI)) (ci := 6) (v := .ref h5) (C := RX6) (T := TX6) (N := 7) hx hb hts hiX6 hown hK hP 0 rfl rfl 5 (by decide) w__fieldLink_RX6_27_ShellHeap_Readers_died_I_ (fun _ h9 => h9) rfl dX6_tryPair_253 ?_
                refine lv_iconst (v := 1) hx hb dX6_tryPair_256 (by decide) ?_
                refine lv_iload_n hx hb dX6_tryPair_257 rfl (lv_at hl 8 rfl) ?_
                refine va_iast hx hb hK hP hD hS 5 4 rfl rfl (by unfold vp_in; decide) dX6_tryPair_258 (fun H_222 locs hP hD hS => ?_)
                have hP : va_P (dC, dI) vwCl [(h0, .inr (6, [.ref h1, h0_1, .ref h2, .ref h3, .ref h4, .ref h5, .int r_213])), (h1, .inl (ch1, 48, .inl fh1)), (h2, .inl (ch2, 4, .inl fh2)), (h3, .inl (ch3, 4, .inl f_9)), (h4, .inl (ch4, 4, .inl f_10)), (h5, .inl (ch5, 4, .inl (upd f_221 (1 : Int32).toNatClampNeg p3)))] H_222 := hP
                have hD : va_D A [(h0, .inr (6, [.ref h1, h0_1, .ref h2, .ref h3, .ref h4, .ref h5, .int r_213])), (h1, .inl (ch1, 48, .inl fh1)), (h2, .inl (ch2, 4, .inl fh2)), (h3, .inl (ch3, 4, .inl f_9)), (h4, .inl (ch4, 4, .inl f_10)), (h5, .inl (ch5, 4, .inl (upd f_221 (1 : Int32).toNatClampNeg p3)))] := hD
                generalize (upd f_221 (1 : Int32).toNatClampNeg p3) = f_223 at hP hD
                refine lv_aload_n hx hb dX6_tryPair_259 rfl (lv_at hl 5 rfl) ?_
                refine va_get (D := (dC, dI)) (ci := 6) (v := .ref h5) (C := RX6) (T := TX6) (N := 7) hx hb hts hiX6 hown hK hP 0 rfl rfl 5 (by decide) w__fieldLink_RX6_27_ShellHeap_Readers_died_I_ (fun _ h9 => h9) rfl dX6_tryPair_260 ?_
                refine lv_iconst (v := 2) hx hb dX6_tryPair_263 (by decide) ?_
                refine lv_iload hx hb dX6_tryPair_264 (lv_at hl 1 rfl) ?_
                refine va_iast hx hb hK hP hD hS 5 4 rfl rfl (by unfold vp_in; decide) dX6_tryPair_266 (fun H_224 locs hP hD hS => ?_)
                have hP : va_P (dC, dI) vwCl [(h0, .inr (6, [.ref h1, h0_1, .ref h2, .ref h3, .ref h4, .ref h5, .int r_213])), (h1, .inl (ch1, 48, .inl fh1)), (h2, .inl (ch2, 4, .inl fh2)), (h3, .inl (ch3, 4, .inl f_9)), (h4, .inl (ch4, 4, .inl f_10)), (h5, .inl (ch5, 4, .inl (upd f_223 (2 : Int32).toNatClampNeg z_211)))] H_224 := hP
                have hD : va_D A [(h0, .inr (6, [.ref h1, h0_1, .ref h2, .ref h3, .ref h4, .ref h5, .int r_213])), (h1, .inl (ch1, 48, .inl fh1)), (h2, .inl (ch2, 4, .inl fh2)), (h3, .inl (ch3, 4, .inl f_9)), (h4, .inl (ch4, 4, .inl f_10)), (h5, .inl (ch5, 4, .inl (upd f_223 (2 : Int32).toNatClampNeg z_211)))] := hD
                generalize (upd f_223 (2 : Int32).toNatClampNeg z_211) = f_225 at hP hD
                refine lv_aload_n hx hb dX6_tryPair_267 rfl (lv_at hl 5 rfl) ?_
                refine va_get (D := (dC, dI)) (ci := 6) (v := .ref h5) (C := RX6) (T := TX6) (N := 7) hx hb hts hiX6 hown hK hP 0 rfl rfl 5 (by decide) w__fieldLink_RX6_27_ShellHeap_Readers_died_I_ (fun _ h9 => h9) rfl dX6_tryPair_268 ?_
                refine lv_iconst (v := 3) hx hb dX6_tryPair_271 (by decide) ?_
                refine lv_iload hx hb dX6_tryPair_272 (lv_at hl 9 rfl) ?_
                refine lv_iload hx hb dX6_tryPair_274 (lv_at hl 1 rfl) ?_
                refine lv_isub hx hb dX6_tryPair_276 ?_
                refine lv_topi (fun z_226 ez_226 => ?_)
                refine va_iast hx hb hK hP hD hS 5 4 rfl rfl (by unfold vp_in; decide) dX6_tryPair_277 (fun H_227 locs hP hD hS => ?_)
                have hP : va_P (dC, dI) vwCl [(h0, .inr (6, [.ref h1, h0_1, .ref h2, .ref h3, .ref h4, .ref h5, .int r_213])), (h1, .inl (ch1, 48, .inl fh1)), (h2, .inl (ch2, 4, .inl fh2)), (h3, .inl (ch3, 4, .inl f_9)), (h4, .inl (ch4, 4, .inl f_10)), (h5, .inl (ch5, 4, .inl (upd f_225 (3 : Int32).toNatClampNeg z_226)))] H_227 := hP
                have hD : va_D A [(h0, .inr (6, [.ref h1, h0_1, .ref h2, .ref h3, .ref h4, .ref h5, .int r_213])), (h1, .inl (ch1, 48, .inl fh1)), (h2, .inl (ch2, 4, .inl fh2)), (h3, .inl (ch3, 4, .inl f_9)), (h4, .inl (ch4, 4, .inl f_10)), (h5, .inl (ch5, 4, .inl (upd f_225 (3 : Int32).toNatClampNeg z_226)))] := hD
                generalize (upd f_225 (3 : Int32).toNatClampNeg z_226) = f_228 at hP hD
                refine z_backQ hQQ ?_
                have hP9 := hP.sub (ws' := [(h0, .inr (6, [.ref h1, h0_1, .ref h2, .ref h3, .ref h4, .ref h5, .int r_213])), (h1, .inl (ch1, 48, .inl fh1)), (h2, .inl (ch2, 4, .inl fh2)), (h3, .inl (ch3, 4, .inl f_9)), (h4, .inl (ch4, 4, .inl f_10)), (h5, .inl (ch5, 4, .inl f_228))]) [0, 1, 2, 3, 4, 5] rfl
                have hD9 := hD.sub (ws' := [(h0, .inr (6, [.ref h1, h0_1, .ref h2, .ref h3, .ref h4, .ref h5, .int r_213])), (h1, .inl (ch1, 48, .inl fh1)), (h2, .inl (ch2, 4, .inl fh2)), (h3, .inl (ch3, 4, .inl f_9)), (h4, .inl (ch4, 4, .inl f_10)), (h5, .inl (ch5, 4, .inl f_228))]) [0, 1, 2, 3, 4, 5] (by decide) rfl
                have hK9 := hK.sub (tys' := []) [] rfl
                refine W.widen (k := 0) (n := 0) (Nat.le_of_ble_eq_true rfl) (Nat.le_of_ble_eq_true rfl) ?_
                exact W.vret hx hb hr (fun t ht hW => ⟨⟨(), rfl, trivial, ⟨r_213, f_9, f_10, f_228, by rw [ht]; exact hP9, va_K.moved hW.alike hK9, hD9⟩⟩, hS.F ht⟩) hS.2.2 dX6_tryPair_278
              · have k_229 : (rm).toInt ≠ (-1 : Int) := z_ne c_217
                refine lv_iload hx hb dX6_tryPair_230 (lv_at hl 0 rfl) ?_
                refine lv_aload_n hx hb dX6_tryPair_232 rfl (lv_at hl 5 rfl) ?_
                refine va_get (D := (dC, dI)) (ci := 6) (v := .int rm) (C := RX6) (T := TX6) (N := 7) hx hb hts hiX6 hown hK hP 0 rfl rfl 6 (by decide) w__fieldLink_RX6_30_ShellHeap_Readers_miss_I_ (fun _ h9 => h9) rfl dX6_tryPair_233 ?_
                refine lv_icmp_ge (tgt := 278) hx hb dX6_tryPair_236 (by decide) (fun c_230 => ?_) (fun c_230 => ?_)
                · have k_231 : (rm).toInt ≤ (r_213).toInt := z_le c_230
                  refine z_backQ hQQ ?_
                  have hP9 := hP.sub (ws' := [(h0, .inr (6, [.ref h1, h0_1, .ref h2, .ref h3, .ref h4, .ref h5, .int rm])), (h1, .inl (ch1, 48, .inl fh1)), (h2, .inl (ch2, 4, .inl fh2)), (h3, .inl (ch3, 4, .inl f_9)), (h4, .inl (ch4, 4, .inl f_10)), (h5, .inl (ch5, 4, .inl fh5))]) [0, 1, 2, 3, 4, 5] rfl
                  have hD9 := hD.sub (ws' := [(h0, .inr (6, [.ref h1, h0_1, .ref h2, .ref h3, .ref h4, .ref h5, .int rm])), (h1, .inl (ch1, 48, .inl fh1)), (h2, .inl (ch2, 4, .inl fh2)), (h3, .inl (ch3, 4, .inl f_9)), (h4, .inl (ch4, 4, .inl f_10)), (h5, .inl (ch5, 4, .inl fh5))]) [0, 1, 2, 3, 4, 5] (by decide) rfl
                  have hK9 := hK.sub (tys' := []) [] rfl
                  refine W.widen (k := 0) (n := 0) (Nat.le_of_ble_eq_true rfl) (Nat.le_of_ble_eq_true rfl) ?_
                  exact W.vret hx hb hr (fun t ht hW => ⟨⟨(), rfl, trivial, ⟨rm, f_9, f_10, fh5, by rw [ht]; exact hP9, va_K.moved hW.alike hK9, hD9⟩⟩, hS.F ht⟩) hS.2.2 dX6_tryPair_278
                · have k_232 : (rm).toInt > (r_213).toInt := z_nle c_230
                  refine lv_aload_n hx hb dX6_tryPair_239 rfl (lv_at hl 5 rfl) ?_
                  refine lv_iload hx hb dX6_tryPair_240 (lv_at hl 0 rfl) ?_
                  refine va_put (D := (dC, dI)) (ci := 6) (v := .int r_213) (ty := .int) (C := RX6) (T := TX6) (N := 7) hx hb hts hiX6 tyX6 tyX6_ok nmX6 hown hK hP hD hS 0 rfl rfl 6 (by decide) w__fieldLink_RX6_30_ShellHeap_Readers_miss_I_ (fun _ h9 => h9) rfl (by decide +kernel) rfl rfl (Nat.le_of_ble_eq_true rfl) dX6_tryPair_242 (fun H_233 locs hP hD hS => ?_)
                  have hP : va_P (dC, dI) vwCl [(h0, .inr (6, [.ref h1, h0_1, .ref h2, .ref h3, .ref h4, .ref h5, .int r_213])), (h1, .inl (ch1, 48, .inl fh1)), (h2, .inl (ch2, 4, .inl fh2)), (h3, .inl (ch3, 4, .inl f_9)), (h4, .inl (ch4, 4, .inl f_10)), (h5, .inl (ch5, 4, .inl fh5))] H_233 := hP
                  have hD : va_D A [(h0, .inr (6, [.ref h1, h0_1, .ref h2, .ref h3, .ref h4, .ref h5, .int r_213])), (h1, .inl (ch1, 48, .inl fh1)), (h2, .inl (ch2, 4, .inl fh2)), (h3, .inl (ch3, 4, .inl f_9)), (h4, .inl (ch4, 4, .inl f_10)), (h5, .inl (ch5, 4, .inl fh5))] := hD
                  refine lv_aload_n hx hb dX6_tryPair_245 rfl (lv_at hl 5 rfl) ?_
                  refine va_get (D := (dC, dI)) (ci := 6) (v := .ref h5) (C := RX6) (T := TX6) (N := 7) hx hb hts hiX6 hown hK hP 0 rfl rfl 5 (by decide) w__fieldLink_RX6_27_ShellHeap_Readers_died_I_ (fun _ h9 => h9) rfl dX6_tryPair_246 ?_
                  refine lv_iconst (v := 0) hx hb dX6_tryPair_249 (by decide) ?_
                  refine lv_iload_n hx hb dX6_tryPair_250 rfl (lv_at hl 7 rfl) ?_
                  refine va_iast hx hb hK hP hD hS 5 4 rfl rfl (by unfold vp_in; decide) dX6_tryPair_251 (fun H_234 locs hP hD hS => ?_)
                  have hP : va_P (dC, dI) vwCl [(h0, .inr (6, [.ref h1, h0_1, .ref h2, .ref h3, .ref h4, .ref h5, .int r_213])), (h1, .inl (ch1, 48, .inl fh1)), (h2, .inl (ch2, 4, .inl fh2)), (h3, .inl (ch3, 4, .inl f_9)), (h4, .inl (ch4, 4, .inl f_10)), (h5, .inl (ch5, 4, .inl (upd fh5 (0 : Int32).toNatClampNeg p2)))] H_234 := hP
                  have hD : va_D A [(h0, .inr (6, [.ref h1, h0_1, .ref h2, .ref h3, .ref h4, .ref h5, .int r_213])), (h1, .inl (ch1, 48, .inl fh1)), (h2, .inl (ch2, 4, .inl fh2)), (h3, .inl (ch3, 4, .inl f_9)), (h4, .inl (ch4, 4, .inl f_10)), (h5, .inl (ch5, 4, .inl (upd fh5 (0 : Int32).toNatClampNeg p2)))] := hD
                  generalize (upd fh5 (0 : Int32).toNatClampNeg p2) = f_235 at hP hD
                  refine lv_aload_n hx hb dX6_tryPair_252 rfl (lv_at hl 5 rfl) ?_
                  refine va_get (D := (dC, dI)) (ci := 6) (v := .ref h5) (C := RX6) (T := TX6) (N := 7) hx hb hts hiX6 hown hK hP 0 rfl rfl 5 (by decide) w__fieldLink_RX6_27_ShellHeap_Readers_died_I_ (fun _ h9 => h9) rfl dX6_tryPair_253 ?_
                  refine lv_iconst (v := 1) hx hb dX6_tryPair_256 (by decide) ?_
                  refine lv_iload_n hx hb dX6_tryPair_257 rfl (lv_at hl 8 rfl) ?_
                  refine va_iast hx hb hK hP hD hS 5 4 rfl rfl (by unfold vp_in; decide) dX6_tryPair_258 (fun H_236 locs hP hD hS => ?_)
                  have hP : va_P (dC, dI) vwCl [(h0, .inr (6, [.ref h1, h0_1, .ref h2, .ref h3, .ref h4, .ref h5, .int r_213])), (h1, .inl (ch1, 48, .inl fh1)), (h2, .inl (ch2, 4, .inl fh2)), (h3, .inl (ch3, 4, .inl f_9)), (h4, .inl (ch4, 4, .inl f_10)), (h5, .inl (ch5, 4, .inl (upd f_235 (1 : Int32).toNatClampNeg p3)))] H_236 := hP
                  have hD : va_D A [(h0, .inr (6, [.ref h1, h0_1, .ref h2, .ref h3, .ref h4, .ref h5, .int r_213])), (h1, .inl (ch1, 48, .inl fh1)), (h2, .inl (ch2, 4, .inl fh2)), (h3, .inl (ch3, 4, .inl f_9)), (h4, .inl (ch4, 4, .inl f_10)), (h5, .inl (ch5, 4, .inl (upd f_235 (1 : Int32).toNatClampNeg p3)))] := hD
                  generalize (upd f_235 (1 : Int32).toNatClampNeg p3) = f_237 at hP hD
                  refine lv_aload_n hx hb dX6_tryPair_259 rfl (lv_at hl 5 rfl) ?_
                  refine va_get (D := (dC, dI)) (ci := 6) (v := .ref h5) (C := RX6) (T := TX6) (N := 7) hx hb hts hiX6 hown hK hP 0 rfl rfl 5 (by decide) w__fieldLink_RX6_27_ShellHeap_Readers_died_I_ (fun _ h9 => h9) rfl dX6_tryPair_260 ?_
                  refine lv_iconst (v := 2) hx hb dX6_tryPair_263 (by decide) ?_
                  refine lv_iload hx hb dX6_tryPair_264 (lv_at hl 1 rfl) ?_
                  refine va_iast hx hb hK hP hD hS 5 4 rfl rfl (by unfold vp_in; decide) dX6_tryPair_266 (fun H_238 locs hP hD hS => ?_)
                  have hP : va_P (dC, dI) vwCl [(h0, .inr (6, [.ref h1, h0_1, .ref h2, .ref h3, .ref h4, .ref h5, .int r_213])), (h1, .inl (ch1, 48, .inl fh1)), (h2, .inl (ch2, 4, .inl fh2)), (h3, .inl (ch3, 4, .inl f_9)), (h4, .inl (ch4, 4, .inl f_10)), (h5, .inl (ch5, 4, .inl (upd f_237 (2 : Int32).toNatClampNeg z_211)))] H_238 := hP
                  have hD : va_D A [(h0, .inr (6, [.ref h1, h0_1, .ref h2, .ref h3, .ref h4, .ref h5, .int r_213])), (h1, .inl (ch1, 48, .inl fh1)), (h2, .inl (ch2, 4, .inl fh2)), (h3, .inl (ch3, 4, .inl f_9)), (h4, .inl (ch4, 4, .inl f_10)), (h5, .inl (ch5, 4, .inl (upd f_237 (2 : Int32).toNatClampNeg z_211)))] := hD
                  generalize (upd f_237 (2 : Int32).toNatClampNeg z_211) = f_239 at hP hD
                  refine lv_aload_n hx hb dX6_tryPair_267 rfl (lv_at hl 5 rfl) ?_
                  refine va_get (D := (dC, dI)) (ci := 6) (v := .ref h5) (C := RX6) (T := TX6) (N := 7) hx hb hts hiX6 hown hK hP 0 rfl rfl 5 (by decide) w__fieldLink_RX6_27_ShellHeap_Readers_died_I_ (fun _ h9 => h9) rfl dX6_tryPair_268 ?_
                  refine lv_iconst (v := 3) hx hb dX6_tryPair_271 (by decide) ?_
                  refine lv_iload hx hb dX6_tryPair_272 (lv_at hl 9 rfl) ?_
                  refine lv_iload hx hb dX6_tryPair_274 (lv_at hl 1 rfl) ?_
                  refine lv_isub hx hb dX6_tryPair_276 ?_
                  refine lv_topi (fun z_240 ez_240 => ?_)
                  refine va_iast hx hb hK hP hD hS 5 4 rfl rfl (by unfold vp_in; decide) dX6_tryPair_277 (fun H_241 locs hP hD hS => ?_)
                  have hP : va_P (dC, dI) vwCl [(h0, .inr (6, [.ref h1, h0_1, .ref h2, .ref h3, .ref h4, .ref h5, .int r_213])), (h1, .inl (ch1, 48, .inl fh1)), (h2, .inl (ch2, 4, .inl fh2)), (h3, .inl (ch3, 4, .inl f_9)), (h4, .inl (ch4, 4, .inl f_10)), (h5, .inl (ch5, 4, .inl (upd f_239 (3 : Int32).toNatClampNeg z_240)))] H_241 := hP
                  have hD : va_D A [(h0, .inr (6, [.ref h1, h0_1, .ref h2, .ref h3, .ref h4, .ref h5, .int r_213])), (h1, .inl (ch1, 48, .inl fh1)), (h2, .inl (ch2, 4, .inl fh2)), (h3, .inl (ch3, 4, .inl f_9)), (h4, .inl (ch4, 4, .inl f_10)), (h5, .inl (ch5, 4, .inl (upd f_239 (3 : Int32).toNatClampNeg z_240)))] := hD
                  generalize (upd f_239 (3 : Int32).toNatClampNeg z_240) = f_242 at hP hD
                  refine z_backQ hQQ ?_
                  have hP9 := hP.sub (ws' := [(h0, .inr (6, [.ref h1, h0_1, .ref h2, .ref h3, .ref h4, .ref h5, .int r_213])), (h1, .inl (ch1, 48, .inl fh1)), (h2, .inl (ch2, 4, .inl fh2)), (h3, .inl (ch3, 4, .inl f_9)), (h4, .inl (ch4, 4, .inl f_10)), (h5, .inl (ch5, 4, .inl f_242))]) [0, 1, 2, 3, 4, 5] rfl
                  have hD9 := hD.sub (ws' := [(h0, .inr (6, [.ref h1, h0_1, .ref h2, .ref h3, .ref h4, .ref h5, .int r_213])), (h1, .inl (ch1, 48, .inl fh1)), (h2, .inl (ch2, 4, .inl fh2)), (h3, .inl (ch3, 4, .inl f_9)), (h4, .inl (ch4, 4, .inl f_10)), (h5, .inl (ch5, 4, .inl f_242))]) [0, 1, 2, 3, 4, 5] (by decide) rfl
                  have hK9 := hK.sub (tys' := []) [] rfl
                  refine W.widen (k := 0) (n := 0) (Nat.le_of_ble_eq_true rfl) (Nat.le_of_ble_eq_true rfl) ?_
                  exact W.vret hx hb hr (fun t ht hW => ⟨⟨(), rfl, trivial, ⟨r_213, f_9, f_10, f_242, by rw [ht]; exact hP9, va_K.moved hW.alike hK9, hD9⟩⟩, hS.F ht⟩) hS.2.2 dX6_tryPair_278
            · have k_243 : (p4).toInt > (z_211).toInt := z_nle c_215
              refine lv_aload_n hx hb dX6_tryPair_198 rfl (lv_at hl 5 rfl) ?_
              refine lv_iload hx hb dX6_tryPair_199 (lv_at hl 1 rfl) ?_
              refine lv_iconst (v := 1) hx hb dX6_tryPair_201 (by decide) ?_
              refine lv_iadd hx hb dX6_tryPair_202 ?_
              refine lv_topi (fun z_244 ez_244 => ?_)
              have kr_z_244_z_211 := z_rng z_211
              have kz_244 : (z_244).toInt = (z_211).toInt + (1 : Int) := by rw [ez_244]; exact z_add (a := (z_211).toInt) (b := (1 : Int)) rfl rfl (by omega) (by omega)
              have hPc := hP.sub (ws' := [(h0, .inr (6, [.ref h1, h0_1, .ref h2, .ref h3, .ref h4, .ref h5, .int rm])), (h3, .inl (ch3, 4, .inl f_9)), (h4, .inl (ch4, 4, .inl f_10))]) [0, 3, 4] rfl
              have hDc := hD.sub (ws' := [(h0, .inr (6, [.ref h1, h0_1, .ref h2, .ref h3, .ref h4, .ref h5, .int rm])), (h3, .inl (ch3, 4, .inl f_9)), (h4, .inl (ch4, 4, .inl f_10))]) [0, 3, 4] (by decide) rfl
              have hKc := hK.sub (tys' := [(ch3, .int), (ch4, .int)]) [2, 3] rfl
              have hFc := va_free (ws := []) (wc := []) (z_D0 _) hS hA [] rfl
              refine va_calli (va_runV (As := [.int z_244]) (rest := []) ⟨hx, hb, hml, hown, hts⟩ (s_X6_missAt l dC dI H_212.size h0 z_244 (.ref h1) h0_1 (.ref h2) h3 h4 (.ref h5) (.int rm) ch3 f_9 ch4 f_10) (cwV 1 hts gw_s_X6_tryPair_s_X6_missAt_47 rfl rfl rfl (by decide +kernel) ⟨Nat.le_of_ble_eq_true rfl, Nat.le_of_ble_eq_true rfl⟩) ⟨z_blind, va_recv hKc hPc (ci := 6) (q0 := 0) rfl rfl, z_pre hPc hKc hDc⟩ rfl rfl hl.1 rfl (lv_room (Nat.le_of_ble_eq_true rfl)) dX6_tryPair_203 ⟨Nat.le_of_ble_eq_true rfl, Nat.le_of_ble_eq_true rfl⟩) hS (fun q _ h => hFc q h) hFc (fun r_246 u t H_245 locs ht hvm hw_247 hB hz1 hk1 hS => ?_)
              have hP := z_pure hP hk1
              have hP : va_P (dC, dI) vwCl [(h0, .inr (6, [.ref h1, h0_1, .ref h2, .ref h3, .ref h4, .ref h5, .int rm])), (h1, .inl (ch1, 48, .inl fh1)), (h2, .inl (ch2, 4, .inl fh2)), (h3, .inl (ch3, 4, .inl f_9)), (h4, .inl (ch4, 4, .inl f_10)), (h5, .inl (ch5, 4, .inl fh5))] H_245 := hP
              have hD : va_D A [(h0, .inr (6, [.ref h1, h0_1, .ref h2, .ref h3, .ref h4, .ref h5, .int rm])), (h1, .inl (ch1, 48, .inl fh1)), (h2, .inl (ch2, 4, .inl fh2)), (h3, .inl (ch3, 4, .inl f_9)), (h4, .inl (ch4, 4, .inl f_10)), (h5, .inl (ch5, 4, .inl fh5))] := hD
              clear hPc hDc hKc
              refine lv_iload hx hb dX6_tryPair_206 (lv_at hl 0 rfl) ?_
              refine lv_icmp_ge (tgt := 222) hx hb dX6_tryPair_208 (by decide) (fun c_248 => ?_) (fun c_248 => ?_)
              · have k_249 : (r_213).toInt ≤ (r_246).toInt := z_le c_248
                refine lv_aload_n hx hb dX6_tryPair_222 rfl (lv_at hl 5 rfl) ?_
                refine va_get (D := (dC, dI)) (ci := 6) (v := .int rm) (C := RX6) (T := TX6) (N := 7) hx hb hts hiX6 hown hK hP 0 rfl rfl 6 (by decide) w__fieldLink_RX6_30_ShellHeap_Readers_miss_I_ (fun _ h9 => h9) rfl dX6_tryPair_223 ?_
                refine lv_iconst (v := (-1)) hx hb dX6_tryPair_226 (by decide) ?_
                refine lv_icmp_eq (tgt := 239) hx hb dX6_tryPair_227 (by decide) (fun c_250 => ?_) (fun c_250 => ?_)
                · have k_251 : (rm).toInt = (-1 : Int) := z_eq c_250
                  obtain rfl : rm = (-1) := z_eq' (show (rm).toInt = (-1 : Int) by omega)
                  refine lv_aload_n hx hb dX6_tryPair_239 rfl (lv_at hl 5 rfl) ?_
                  refine lv_iload hx hb dX6_tryPair_240 (lv_at hl 0 rfl) ?_
                  refine va_put (D := (dC, dI)) (ci := 6) (v := .int r_213) (ty := .int) (C := RX6) (T := TX6) (N := 7) hx hb hts hiX6 tyX6 tyX6_ok nmX6 hown hK hP hD hS 0 rfl rfl 6 (by decide) w__fieldLink_RX6_30_ShellHeap_Readers_miss_I_ (fun _ h9 => h9) rfl (by decide +kernel) rfl rfl (Nat.le_of_ble_eq_true rfl) dX6_tryPair_242 (fun H_252 locs hP hD hS => ?_)
                  have hP : va_P (dC, dI) vwCl [(h0, .inr (6, [.ref h1, h0_1, .ref h2, .ref h3, .ref h4, .ref h5, .int r_213])), (h1, .inl (ch1, 48, .inl fh1)), (h2, .inl (ch2, 4, .inl fh2)), (h3, .inl (ch3, 4, .inl f_9)), (h4, .inl (ch4, 4, .inl f_10)), (h5, .inl (ch5, 4, .inl fh5))] H_252 := hP
                  have hD : va_D A [(h0, .inr (6, [.ref h1, h0_1, .ref h2, .ref h3, .ref h4, .ref h5, .int r_213])), (h1, .inl (ch1, 48, .inl fh1)), (h2, .inl (ch2, 4, .inl fh2)), (h3, .inl (ch3, 4, .inl f_9)), (h4, .inl (ch4, 4, .inl f_10)), (h5, .inl (ch5, 4, .inl fh5))] := hD
                  refine lv_aload_n hx hb dX6_tryPair_245 rfl (lv_at hl 5 rfl) ?_
                  refine va_get (D := (dC, dI)) (ci := 6) (v := .ref h5) (C := RX6) (T := TX6) (N := 7) hx hb hts hiX6 hown hK hP 0 rfl rfl 5 (by decide) w__fieldLink_RX6_27_ShellHeap_Readers_died_I_ (fun _ h9 => h9) rfl dX6_tryPair_246 ?_
                  refine lv_iconst (v := 0) hx hb dX6_tryPair_249 (by decide) ?_
                  refine lv_iload_n hx hb dX6_tryPair_250 rfl (lv_at hl 7 rfl) ?_
                  refine va_iast hx hb hK hP hD hS 5 4 rfl rfl (by unfold vp_in; decide) dX6_tryPair_251 (fun H_253 locs hP hD hS => ?_)
                  have hP : va_P (dC, dI) vwCl [(h0, .inr (6, [.ref h1, h0_1, .ref h2, .ref h3, .ref h4, .ref h5, .int r_213])), (h1, .inl (ch1, 48, .inl fh1)), (h2, .inl (ch2, 4, .inl fh2)), (h3, .inl (ch3, 4, .inl f_9)), (h4, .inl (ch4, 4, .inl f_10)), (h5, .inl (ch5, 4, .inl (upd fh5 (0 : Int32).toNatClampNeg p2)))] H_253 := hP
                  have hD : va_D A [(h0, .inr (6, [.ref h1, h0_1, .ref h2, .ref h3, .ref h4, .ref h5, .int r_213])), (h1, .inl (ch1, 48, .inl fh1)), (h2, .inl (ch2, 4, .inl fh2)), (h3, .inl (ch3, 4, .inl f_9)), (h4, .inl (ch4, 4, .inl f_10)), (h5, .inl (ch5, 4, .inl (upd fh5 (0 : Int32).toNatClampNeg p2)))] := hD
                  generalize (upd fh5 (0 : Int32).toNatClampNeg p2) = f_254 at hP hD
                  refine lv_aload_n hx hb dX6_tryPair_252 rfl (lv_at hl 5 rfl) ?_
                  refine va_get (D := (dC, dI)) (ci := 6) (v := .ref h5) (C := RX6) (T := TX6) (N := 7) hx hb hts hiX6 hown hK hP 0 rfl rfl 5 (by decide) w__fieldLink_RX6_27_ShellHeap_Readers_died_I_ (fun _ h9 => h9) rfl dX6_tryPair_253 ?_
                  refine lv_iconst (v := 1) hx hb dX6_tryPair_256 (by decide) ?_
                  refine lv_iload_n hx hb dX6_tryPair_257 rfl (lv_at hl 8 rfl) ?_
                  refine va_iast hx hb hK hP hD hS 5 4 rfl rfl (by unfold vp_in; decide) dX6_tryPair_258 (fun H_255 locs hP hD hS => ?_)
                  have hP : va_P (dC, dI) vwCl [(h0, .inr (6, [.ref h1, h0_1, .ref h2, .ref h3, .ref h4, .ref h5, .int r_213])), (h1, .inl (ch1, 48, .inl fh1)), (h2, .inl (ch2, 4, .inl fh2)), (h3, .inl (ch3, 4, .inl f_9)), (h4, .inl (ch4, 4, .inl f_10)), (h5, .inl (ch5, 4, .inl (upd f_254 (1 : Int32).toNatClampNeg p3)))] H_255 := hP
                  have hD : va_D A [(h0, .inr (6, [.ref h1, h0_1, .ref h2, .ref h3, .ref h4, .ref h5, .int r_213])), (h1, .inl (ch1, 48, .inl fh1)), (h2, .inl (ch2, 4, .inl fh2)), (h3, .inl (ch3, 4, .inl f_9)), (h4, .inl (ch4, 4, .inl f_10)), (h5, .inl (ch5, 4, .inl (upd f_254 (1 : Int32).toNatClampNeg p3)))] := hD
                  generalize (upd f_254 (1 : Int32).toNatClampNeg p3) = f_256 at hP hD
                  refine lv_aload_n hx hb dX6_tryPair_259 rfl (lv_at hl 5 rfl) ?_
                  refine va_get (D := (dC, dI)) (ci := 6) (v := .ref h5) (C := RX6) (T := TX6) (N := 7) hx hb hts hiX6 hown hK hP 0 rfl rfl 5 (by decide) w__fieldLink_RX6_27_ShellHeap_Readers_died_I_ (fun _ h9 => h9) rfl dX6_tryPair_260 ?_
                  refine lv_iconst (v := 2) hx hb dX6_tryPair_263 (by decide) ?_
                  refine lv_iload hx hb dX6_tryPair_264 (lv_at hl 1 rfl) ?_
                  refine va_iast hx hb hK hP hD hS 5 4 rfl rfl (by unfold vp_in; decide) dX6_tryPair_266 (fun H_257 locs hP hD hS => ?_)
                  have hP : va_P (dC, dI) vwCl [(h0, .inr (6, [.ref h1, h0_1, .ref h2, .ref h3, .ref h4, .ref h5, .int r_213])), (h1, .inl (ch1, 48, .inl fh1)), (h2, .inl (ch2, 4, .inl fh2)), (h3, .inl (ch3, 4, .inl f_9)), (h4, .inl (ch4, 4, .inl f_10)), (h5, .inl (ch5, 4, .inl (upd f_256 (2 : Int32).toNatClampNeg z_211)))] H_257 := hP
                  have hD : va_D A [(h0, .inr (6, [.ref h1, h0_1, .ref h2, .ref h3, .ref h4, .ref h5, .int r_213])), (h1, .inl (ch1, 48, .inl fh1)), (h2, .inl (ch2, 4, .inl fh2)), (h3, .inl (ch3, 4, .inl f_9)), (h4, .inl (ch4, 4, .inl f_10)), (h5, .inl (ch5, 4, .inl (upd f_256 (2 : Int32).toNatClampNeg z_211)))] := hD
                  generalize (upd f_256 (2 : Int32).toNatClampNeg z_211) = f_258 at hP hD
                  refine lv_aload_n hx hb dX6_tryPair_267 rfl (lv_at hl 5 rfl) ?_
                  refine va_get (D := (dC, dI)) (ci := 6) (v := .ref h5) (C := RX6) (T := TX6) (N := 7) hx hb hts hiX6 hown hK hP 0 rfl rfl 5 (by decide) w__fieldLink_RX6_27_ShellHeap_Readers_died_I_ (fun _ h9 => h9) rfl dX6_tryPair_268 ?_
                  refine lv_iconst (v := 3) hx hb dX6_tryPair_271 (by decide) ?_
                  refine lv_iload hx hb dX6_tryPair_272 (lv_at hl 9 rfl) ?_
                  refine lv_iload hx hb dX6_tryPair_274 (lv_at hl 1 rfl) ?_
                  refine lv_isub hx hb dX6_tryPair_276 ?_
                  refine lv_topi (fun z_259 ez_259 => ?_)
                  refine va_iast hx hb hK hP hD hS 5 4 rfl rfl (by unfold vp_in; decide) dX6_tryPair_277 (fun H_260 locs hP hD hS => ?_)
                  have hP : va_P (dC, dI) vwCl [(h0, .inr (6, [.ref h1, h0_1, .ref h2, .ref h3, .ref h4, .ref h5, .int r_213])), (h1, .inl (ch1, 48, .inl fh1)), (h2, .inl (ch2, 4, .inl fh2)), (h3, .inl (ch3, 4, .inl f_9)), (h4, .inl (ch4, 4, .inl f_10)), (h5, .inl (ch5, 4, .inl (upd f_258 (3 : Int32).toNatClampNeg z_259)))] H_260 := hP
                  have hD : va_D A [(h0, .inr (6, [.ref h1, h0_1, .ref h2, .ref h3, .ref h4, .ref h5, .int r_213])), (h1, .inl (ch1, 48, .inl fh1)), (h2, .inl (ch2, 4, .inl fh2)), (h3, .inl (ch3, 4, .inl f_9)), (h4, .inl (ch4, 4, .inl f_10)), (h5, .inl (ch5, 4, .inl (upd f_258 (3 : Int32).toNatClampNeg z_259)))] := hD
                  generalize (upd f_258 (3 : Int32).toNatClampNeg z_259) = f_261 at hP hD
                  refine z_backQ hQQ ?_
                  have hP9 := hP.sub (ws' := [(h0, .inr (6, [.ref h1, h0_1, .ref h2, .ref h3, .ref h4, .ref h5, .int r_213])), (h1, .inl (ch1, 48, .inl fh1)), (h2, .inl (ch2, 4, .inl fh2)), (h3, .inl (ch3, 4, .inl f_9)), (h4, .inl (ch4, 4, .inl f_10)), (h5, .inl (ch5, 4, .inl f_261))]) [0, 1, 2, 3, 4, 5] rfl
                  have hD9 := hD.sub (ws' := [(h0, .inr (6, [.ref h1, h0_1, .ref h2, .ref h3, .ref h4, .ref h5, .int r_213])), (h1, .inl (ch1, 48, .inl fh1)), (h2, .inl (ch2, 4, .inl fh2)), (h3, .inl (ch3, 4, .inl f_9)), (h4, .inl (ch4, 4, .inl f_10)), (h5, .inl (ch5, 4, .inl f_261))]) [0, 1, 2, 3, 4, 5] (by decide) rfl
                  have hK9 := hK.sub (tys' := []) [] rfl
                  refine W.widen (k := 0) (n := 0) (Nat.le_of_ble_eq_true rfl) (Nat.le_of_ble_eq_true rfl) ?_
                  exact W.vret hx hb hr (fun t ht hW => ⟨⟨(), rfl, trivial, ⟨r_213, f_9, f_10, f_261, by rw [ht]; exact hP9, va_K.moved hW.alike hK9, hD9⟩⟩, hS.F ht⟩) hS.2.2 dX6_tryPair_278
                · have k_262 : (rm).toInt ≠ (-1 : Int) := z_ne c_250
                  refine lv_iload hx hb dX6_tryPair_230 (lv_at hl 0 rfl) ?_
                  refine lv_aload_n hx hb dX6_tryPair_232 rfl (lv_at hl 5 rfl) ?_
                  refine va_get (D := (dC, dI)) (ci := 6) (v := .int rm) (C := RX6) (T := TX6) (N := 7) hx hb hts hiX6 hown hK hP 0 rfl rfl 6 (by decide) w__fieldLink_RX6_30_ShellHeap_Readers_miss_I_ (fun _ h9 => h9) rfl dX6_tryPair_233 ?_
                  refine lv_icmp_ge (tgt := 278) hx hb dX6_tryPair_236 (by decide) (fun c_263 => ?_) (fun c_263 => ?_)
                  · have k_264 : (rm).toInt ≤ (r_213).toInt := z_le c_263
                    refine z_backQ hQQ ?_
                    have hP9 := hP.sub (ws' := [(h0, .inr (6, [.ref h1, h0_1, .ref h2, .ref h3, .ref h4, .ref h5, .int rm])), (h1, .inl (ch1, 48, .inl fh1)), (h2, .inl (ch2, 4, .inl fh2)), (h3, .inl (ch3, 4, .inl f_9)), (h4, .inl (ch4, 4, .inl f_10)), (h5, .inl (ch5, 4, .inl fh5))]) [0, 1, 2, 3, 4, 5] rfl
                    have hD9 := hD.sub (ws' := [(h0, .inr (6, [.ref h1, h0_1, .ref h2, .ref h3, .ref h4, .ref h5, .int rm])), (h1, .inl (ch1, 48, .inl fh1)), (h2, .inl (ch2, 4, .inl fh2)), (h3, .inl (ch3, 4, .inl f_9)), (h4, .inl (ch4, 4, .inl f_10)), (h5, .inl (ch5, 4, .inl fh5))]) [0, 1, 2, 3, 4, 5] (by decide) rfl
                    have hK9 := hK.sub (tys' := []) [] rfl
                    refine W.widen (k := 0) (n := 0) (Nat.le_of_ble_eq_true rfl) (Nat.le_of_ble_eq_true rfl) ?_
                    exact W.vret hx hb hr (fun t ht hW => ⟨⟨(), rfl, trivial, ⟨rm, f_9, f_10, fh5, by rw [ht]; exact hP9, va_K.moved hW.alike hK9, hD9⟩⟩, hS.F ht⟩) hS.2.2 dX6_tryPair_278
                  · have k_265 : (rm).toInt > (r_213).toInt := z_nle c_263
                    refine lv_aload_n hx hb dX6_tryPair_239 rfl (lv_at hl 5 rfl) ?_
                    refine lv_iload hx hb dX6_tryPair_240 (lv_at hl 0 rfl) ?_
                    refine va_put (D := (dC, dI)) (ci := 6) (v := .int r_213) (ty := .int) (C := RX6) (T := TX6) (N := 7) hx hb hts hiX6 tyX6 tyX6_ok nmX6 hown hK hP hD hS 0 rfl rfl 6 (by decide) w__fieldLink_RX6_30_ShellHeap_Readers_miss_I_ (fun _ h9 => h9) rfl (by decide +kernel) rfl rfl (Nat.le_of_ble_eq_true rfl) dX6_tryPair_242 (fun H_266 locs hP hD hS => ?_)
                    have hP : va_P (dC, dI) vwCl [(h0, .inr (6, [.ref h1, h0_1, .ref h2, .ref h3, .ref h4, .ref h5, .int r_213])), (h1, .inl (ch1, 48, .inl fh1)), (h2, .inl (ch2, 4, .inl fh2)), (h3, .inl (ch3, 4, .inl f_9)), (h4, .inl (ch4, 4, .inl f_10)), (h5, .inl (ch5, 4, .inl fh5))] H_266 := hP
                    have hD : va_D A [(h0, .inr (6, [.ref h1, h0_1, .ref h2, .ref h3, .ref h4, .ref h5, .int r_213])), (h1, .inl (ch1, 48, .inl fh1)), (h2, .inl (ch2, 4, .inl fh2)), (h3, .inl (ch3, 4, .inl f_9)), (h4, .inl (ch4, 4, .inl f_10)), (h5, .inl (ch5, 4, .inl fh5))] := hD
                    refine lv_aload_n hx hb dX6_tryPair_245 rfl (lv_at hl 5 rfl) ?_
                    refine va_get (D := (dC, dI)) (ci := 6) (v := .ref h5) (C := RX6) (T := TX6) (N := 7) hx hb hts hiX6 hown hK hP 0 rfl rfl 5 (by decide) w__fieldLink_RX6_27_ShellHeap_Readers_died_I_ (fun _ h9 => h9) rfl dX6_tryPair_246 ?_
                    refine lv_iconst (v := 0) hx hb dX6_tryPair_249 (by decide) ?_
                    refine lv_iload_n hx hb dX6_tryPair_250 rfl (lv_at hl 7 rfl) ?_
                    refine va_iast hx hb hK hP hD hS 5 4 rfl rfl (by unfold vp_in; decide) dX6_tryPair_251 (fun H_267 locs hP hD hS => ?_)
                    have hP : va_P (dC, dI) vwCl [(h0, .inr (6, [.ref h1, h0_1, .ref h2, .ref h3, .ref h4, .ref h5, .int r_213])), (h1, .inl (ch1, 48, .inl fh1)), (h2, .inl (ch2, 4, .inl fh2)), (h3, .inl (ch3, 4, .inl f_9)), (h4, .inl (ch4, 4, .inl f_10)), (h5, .inl (ch5, 4, .inl (upd fh5 (0 : Int32).toNatClampNeg p2)))] H_267 := hP
                    have hD : va_D A [(h0, .inr (6, [.ref h1, h0_1, .ref h2, .ref h3, .ref h4, .ref h5, .int r_213])), (h1, .inl (ch1, 48, .inl fh1)), (h2, .inl (ch2, 4, .inl fh2)), (h3, .inl (ch3, 4, .inl f_9)), (h4, .inl (ch4, 4, .inl f_10)), (h5, .inl (ch5, 4, .inl (upd fh5 (0 : Int32).toNatClampNeg p2)))] := hD
                    generalize (upd fh5 (0 : Int32).toNatClampNeg p2) = f_268 at hP hD
                    refine lv_aload_n hx hb dX6_tryPair_252 rfl (lv_at hl 5 rfl) ?_
                    refine va_get (D := (dC, dI)) (ci := 6) (v := .ref h5) (C := RX6) (T := TX6) (N := 7) hx hb hts hiX6 hown hK hP 0 rfl rfl 5 (by decide) w__fieldLink_RX6_27_ShellHeap_Readers_died_I_ (fun _ h9 => h9) rfl dX6_tryPair_253 ?_
                    refine lv_iconst (v := 1) hx hb dX6_tryPair_256 (by decide) ?_
                    refine lv_iload_n hx hb dX6_tryPair_257 rfl (lv_at hl 8 rfl) ?_
                    refine va_iast hx hb hK hP hD hS 5 4 rfl rfl (by unfold vp_in; decide) dX6_tryPair_258 (fun H_269 locs hP hD hS => ?_)
                    have hP : va_P (dC, dI) vwCl [(h0, .inr (6, [.ref h1, h0_1, .ref h2, .ref h3, .ref h4, .ref h5, .int r_213])), (h1, .inl (ch1, 48, .inl fh1)), (h2, .inl (ch2, 4, .inl fh2)), (h3, .inl (ch3, 4, .inl f_9)), (h4, .inl (ch4, 4, .inl f_10)), (h5, .inl (ch5, 4, .inl (upd f_268 (1 : Int32).toNatClampNeg p3)))] H_269 := hP
                    have hD : va_D A [(h0, .inr (6, [.ref h1, h0_1, .ref h2, .ref h3, .ref h4, .ref h5, .int r_213])), (h1, .inl (ch1, 48, .inl fh1)), (h2, .inl (ch2, 4, .inl fh2)), (h3, .inl (ch3, 4, .inl f_9)), (h4, .inl (ch4, 4, .inl f_10)), (h5, .inl (ch5, 4, .inl (upd f_268 (1 : Int32).toNatClampNeg p3)))] := hD
                    generalize (upd f_268 (1 : Int32).toNatClampNeg p3) = f_270 at hP hD
                    refine lv_aload_n hx hb dX6_tryPair_259 rfl (lv_at hl 5 rfl) ?_
                    refine va_get (D := (dC, dI)) (ci := 6) (v := .ref h5) (C := RX6) (T := TX6) (N := 7) hx hb hts hiX6 hown hK hP 0 rfl rfl 5 (by decide) w__fieldLink_RX6_27_ShellHeap_Readers_died_I_ (fun _ h9 => h9) rfl dX6_tryPair_260 ?_
                    refine lv_iconst (v := 2) hx hb dX6_tryPair_263 (by decide) ?_
                    refine lv_iload hx hb dX6_tryPair_264 (lv_at hl 1 rfl) ?_
                    refine va_iast hx hb hK hP hD hS 5 4 rfl rfl (by unfold vp_in; decide) dX6_tryPair_266 (fun H_271 locs hP hD hS => ?_)
                    have hP : va_P (dC, dI) vwCl [(h0, .inr (6, [.ref h1, h0_1, .ref h2, .ref h3, .ref h4, .ref h5, .int r_213])), (h1, .inl (ch1, 48, .inl fh1)), (h2, .inl (ch2, 4, .inl fh2)), (h3, .inl (ch3, 4, .inl f_9)), (h4, .inl (ch4, 4, .inl f_10)), (h5, .inl (ch5, 4, .inl (upd f_270 (2 : Int32).toNatClampNeg z_211)))] H_271 := hP
                    have hD : va_D A [(h0, .inr (6, [.ref h1, h0_1, .ref h2, .ref h3, .ref h4, .ref h5, .int r_213])), (h1, .inl (ch1, 48, .inl fh1)), (h2, .inl (ch2, 4, .inl fh2)), (h3, .inl (ch3, 4, .inl f_9)), (h4, .inl (ch4, 4, .inl f_10)), (h5, .inl (ch5, 4, .inl (upd f_270 (2 : Int32).toNatClampNeg z_211)))] := hD
                    generalize (upd f_270 (2 : Int32).toNatClampNeg z_211) = f_272 at hP hD
                    refine lv_aload_n hx hb dX6_tryPair_267 rfl (lv_at hl 5 rfl) ?_
                    refine va_get (D := (dC, dI)) (ci := 6) (v := .ref h5) (C := RX6) (T := TX6) (N := 7) hx hb hts hiX6 hown hK hP 0 rfl rfl 5 (by decide) w__fieldLink_RX6_27_ShellHeap_Readers_died_I_ (fun _ h9 => h9) rfl dX6_tryPair_268 ?_
                    refine lv_iconst (v := 3) hx hb dX6_tryPair_271 (by decide) ?_
                    refine lv_iload hx hb dX6_tryPair_272 (lv_at hl 9 rfl) ?_
                    refine lv_iload hx hb dX6_tryPair_274 (lv_at hl 1 rfl) ?_
                    refine lv_isub hx hb dX6_tryPair_276 ?_
                    refine lv_topi (fun z_273 ez_273 => ?_)
                    refine va_iast hx hb hK hP hD hS 5 4 rfl rfl (by unfold vp_in; decide) dX6_tryPair_277 (fun H_274 locs hP hD hS => ?_)
                    have hP : va_P (dC, dI) vwCl [(h0, .inr (6, [.ref h1, h0_1, .ref h2, .ref h3, .ref h4, .ref h5, .int r_213])), (h1, .inl (ch1, 48, .inl fh1)), (h2, .inl (ch2, 4, .inl fh2)), (h3, .inl (ch3, 4, .inl f_9)), (h4, .inl (ch4, 4, .inl f_10)), (h5, .inl (ch5, 4, .inl (upd f_272 (3 : Int32).toNatClampNeg z_273)))] H_274 := hP
                    have hD : va_D A [(h0, .inr (6, [.ref h1, h0_1, .ref h2, .ref h3, .ref h4, .ref h5, .int r_213])), (h1, .inl (ch1, 48, .inl fh1)), (h2, .inl (ch2, 4, .inl fh2)), (h3, .inl (ch3, 4, .inl f_9)), (h4, .inl (ch4, 4, .inl f_10)), (h5, .inl (ch5, 4, .inl (upd f_272 (3 : Int32).toNatClampNeg z_273)))] := hD
                    generalize (upd f_272 (3 : Int32).toNatClampNeg z_273) = f_275 at hP hD
                    refine z_backQ hQQ ?_
                    have hP9 := hP.sub (ws' := [(h0, .inr (6, [.ref h1, h0_1, .ref h2, .ref h3, .ref h4, .ref h5, .int r_213])), (h1, .inl (ch1, 48, .inl fh1)), (h2, .inl (ch2, 4, .inl fh2)), (h3, .inl (ch3, 4, .inl f_9)), (h4, .inl (ch4, 4, .inl f_10)), (h5, .inl (ch5, 4, .inl f_275))]) [0, 1, 2, 3, 4, 5] rfl
                    have hD9 := hD.sub (ws' := [(h0, .inr (6, [.ref h1, h0_1, .ref h2, .ref h3, .ref h4, .ref h5, .int r_213])), (h1, .inl (ch1, 48, .inl fh1)), (h2, .inl (ch2, 4, .inl fh2)), (h3, .inl (ch3, 4, .inl f_9)), (h4, .inl (ch4, 4, .inl f_10)), (h5, .inl (ch5, 4, .inl f_275))]) [0, 1, 2, 3, 4, 5] (by decide) rfl
                    have hK9 := hK.sub (tys' := []) [] rfl
                    refine W.widen (k := 0) (n := 0) (Nat.le_of_ble_eq_true rfl) (Nat.le_of_ble_eq_true rfl) ?_
                    exact W.vret hx hb hr (fun t ht hW => ⟨⟨(), rfl, trivial, ⟨r_213, f_9, f_10, f_275, by rw [ht]; exact hP9, va_K.moved hW.alike hK9, hD9⟩⟩, hS.F ht⟩) hS.2.2 dX6_tryPair_278
              · have k_276 : (r_213).toInt > (r_246).toInt := z_nle c_248
                obtain ⟨z_277, ez_277⟩ : ∃ y : Int32, y = z_211 + 1 := ⟨_, rfl⟩
                have kr_z_277 := z_rng z_211
                have kz_277 : (z_277).toInt = (z_211).toInt + (1 : Int) := by rw [ez_277]; exact z_add (b := 1) rfl rfl (by omega) (by omega)
                refine lv_iinc (v := z_277) (lv' := [(8, .int z_277), (9, .int r_213), (7, .int c_8), (6, .int a_7), (5, .int z_2), (0, .ref h0), (1, .int p1), (2, .int p2), (3, .int p3), (4, .int p4)]) hx hb dX6_tryPair_211 hl (k := 1) rfl (by rw [ez_277]; rfl) (by decide) rfl (fun ls hl => ?_)
                refine lv_aload_n hx hb dX6_tryPair_214 rfl (lv_at hl 5 rfl) ?_
                refine lv_iload hx hb dX6_tryPair_215 (lv_at hl 0 rfl) ?_
                have hPc := hP.sub (ws' := [(h0, .inr (6, [.ref h1, h0_1, .ref h2, .ref h3, .ref h4, .ref h5, .int rm])), (h3, .inl (ch3, 4, .inl f_9)), (h4, .inl (ch4, 4, .inl f_10))]) [0, 3, 4] rfl
                have hDc := hD.sub (ws' := [(h0, .inr (6, [.ref h1, h0_1, .ref h2, .ref h3, .ref h4, .ref h5, .int rm])), (h3, .inl (ch3, 4, .inl f_9)), (h4, .inl (ch4, 4, .inl f_10))]) [0, 3, 4] (by decide) rfl
                have hKc := hK.sub (tys' := [(ch3, .int), (ch4, .int)]) [2, 3] rfl
                have hFc := va_free (ws := []) (wc := []) (z_D0 _) hS hA [] rfl
                refine va_calli (va_runV (As := [.int z_277]) (rest := []) ⟨hx, hb, hml, hown, hts⟩ (s_X6_missAt l dC dI H_245.size h0 z_277 (.ref h1) h0_1 (.ref h2) h3 h4 (.ref h5) (.int rm) ch3 f_9 ch4 f_10) (cwV 1 hts gw_s_X6_tryPair_s_X6_missAt_47 rfl rfl rfl (by decide +kernel) ⟨Nat.le_of_ble_eq_true rfl, Nat.le_of_ble_eq_true rfl⟩) ⟨z_blind, va_recv hKc hPc (ci := 6) (q0 := 0) rfl rfl, z_pre hPc hKc hDc⟩ rfl rfl hl.1 rfl (lv_room (Nat.le_of_ble_eq_true rfl)) dX6_tryPair_217 ⟨Nat.le_of_ble_eq_true rfl, Nat.le_of_ble_eq_true rfl⟩) hS (fun q _ h => hFc q h) hFc (fun r_279 u t H_278 locs ht hvm hw_280 hB hz1 hk1 hS => ?_)
                have hP := z_pure hP hk1
                have hP : va_P (dC, dI) vwCl [(h0, .inr (6, [.ref h1, h0_1, .ref h2, .ref h3, .ref h4, .ref h5, .int rm])), (h1, .inl (ch1, 48, .inl fh1)), (h2, .inl (ch2, 4, .inl fh2)), (h3, .inl (ch3, 4, .inl f_9)), (h4, .inl (ch4, 4, .inl f_10)), (h5, .inl (ch5, 4, .inl fh5))] H_278 := hP
                have hD : va_D A [(h0, .inr (6, [.ref h1, h0_1, .ref h2, .ref h3, .ref h4, .ref h5, .int rm])), (h1, .inl (ch1, 48, .inl fh1)), (h2, .inl (ch2, 4, .inl fh2)), (h3, .inl (ch3, 4, .inl f_9)), (h4, .inl (ch4, 4, .inl f_10)), (h5, .inl (ch5, 4, .inl fh5))] := hD
                clear hPc hDc hKc
                refine lv_istore (lv' := [(9, .int r_279), (8, .int z_277), (7, .int c_8), (6, .int a_7), (5, .int z_2), (0, .ref h0), (1, .int p1), (2, .int p2), (3, .int p3), (4, .int p4)]) hx hb dX6_tryPair_220 hl (by decide) rfl (fun ls hl => ?_)
                refine lv_aload_n hx hb dX6_tryPair_222 rfl (lv_at hl 5 rfl) ?_
                refine va_get (D := (dC, dI)) (ci := 6) (v := .int rm) (C := RX6) (T := TX6) (N := 7) hx hb hts hiX6 hown hK hP 0 rfl rfl 6 (by decide) w__fieldLink_RX6_30_ShellHeap_Readers_miss_I_ (fun _ h9 => h9) rfl dX6_tryPair_223 ?_
                refine lv_iconst (v := (-1)) hx hb dX6_tryPair_226 (by decide) ?_
                refine lv_icmp_eq (tgt := 239) hx hb dX6_tryPair_227 (by decide) (fun c_281 => ?_) (fun c_281 => ?_)
                · have k_282 : (rm).toInt = (-1 : Int) := z_eq c_281
                  obtain rfl : rm = (-1) := z_eq' (show (rm).toInt = (-1 : Int) by omega)
                  refine lv_aload_n hx hb dX6_tryPair_239 rfl (lv_at hl 5 rfl) ?_
                  refine lv_iload hx hb dX6_tryPair_240 (lv_at hl 0 rfl) ?_
                  refine va_put (D := (dC, dI)) (ci := 6) (v := .int r_279) (ty := .int) (C := RX6) (T := TX6) (N := 7) hx hb hts hiX6 tyX6 tyX6_ok nmX6 hown hK hP hD hS 0 rfl rfl 6 (by decide) w__fieldLink_RX6_30_ShellHeap_Readers_miss_I_ (fun _ h9 => h9) rfl (by decide +kernel) rfl rfl (Nat.le_of_ble_eq_true rfl) dX6_tryPair_242 (fun H_283 locs hP hD hS => ?_)
                  have hP : va_P (dC, dI) vwCl [(h0, .inr (6, [.ref h1, h0_1, .ref h2, .ref h3, .ref h4, .ref h5, .int r_279])), (h1, .inl (ch1, 48, .inl fh1)), (h2, .inl (ch2, 4, .inl fh2)), (h3, .inl (ch3, 4, .inl f_9)), (h4, .inl (ch4, 4, .inl f_10)), (h5, .inl (ch5, 4, .inl fh5))] H_283 := hP
                  have hD : va_D A [(h0, .inr (6, [.ref h1, h0_1, .ref h2, .ref h3, .ref h4, .ref h5, .int r_279])), (h1, .inl (ch1, 48, .inl fh1)), (h2, .inl (ch2, 4, .inl fh2)), (h3, .inl (ch3, 4, .inl f_9)), (h4, .inl (ch4, 4, .inl f_10)), (h5, .inl (ch5, 4, .inl fh5))] := hD
                  refine lv_aload_n hx hb dX6_tryPair_245 rfl (lv_at hl 5 rfl) ?_
                  refine va_get (D := (dC, dI)) (ci := 6) (v := .ref h5) (C := RX6) (T := TX6) (N := 7) hx hb hts hiX6 hown hK hP 0 rfl rfl 5 (by decide) w__fieldLink_RX6_27_ShellHeap_Readers_died_I_ (fun _ h9 => h9) rfl dX6_tryPair_246 ?_
                  refine lv_iconst (v := 0) hx hb dX6_tryPair_249 (by decide) ?_
                  refine lv_iload_n hx hb dX6_tryPair_250 rfl (lv_at hl 7 rfl) ?_
                  refine va_iast hx hb hK hP hD hS 5 4 rfl rfl (by unfold vp_in; decide) dX6_tryPair_251 (fun H_284 locs hP hD hS => ?_)
                  have hP : va_P (dC, dI) vwCl [(h0, .inr (6, [.ref h1, h0_1, .ref h2, .ref h3, .ref h4, .ref h5, .int r_279])), (h1, .inl (ch1, 48, .inl fh1)), (h2, .inl (ch2, 4, .inl fh2)), (h3, .inl (ch3, 4, .inl f_9)), (h4, .inl (ch4, 4, .inl f_10)), (h5, .inl (ch5, 4, .inl (upd fh5 (0 : Int32).toNatClampNeg p2)))] H_284 := hP
                  have hD : va_D A [(h0, .inr (6, [.ref h1, h0_1, .ref h2, .ref h3, .ref h4, .ref h5, .int r_279])), (h1, .inl (ch1, 48, .inl fh1)), (h2, .inl (ch2, 4, .inl fh2)), (h3, .inl (ch3, 4, .inl f_9)), (h4, .inl (ch4, 4, .inl f_10)), (h5, .inl (ch5, 4, .inl (upd fh5 (0 : Int32).toNatClampNeg p2)))] := hD
                  generalize (upd fh5 (0 : Int32).toNatClampNeg p2) = f_285 at hP hD
                  refine lv_aload_n hx hb dX6_tryPair_252 rfl (lv_at hl 5 rfl) ?_
                  refine va_get (D := (dC, dI)) (ci := 6) (v := .ref h5) (C := RX6) (T := TX6) (N := 7) hx hb hts hiX6 hown hK hP 0 rfl rfl 5 (by decide) w__fieldLink_RX6_27_ShellHeap_Readers_died_I_ (fun _ h9 => h9) rfl dX6_tryPair_253 ?_
                  refine lv_iconst (v := 1) hx hb dX6_tryPair_256 (by decide) ?_
                  refine lv_iload_n hx hb dX6_tryPair_257 rfl (lv_at hl 8 rfl) ?_
                  refine va_iast hx hb hK hP hD hS 5 4 rfl rfl (by unfold vp_in; decide) dX6_tryPair_258 (fun H_286 locs hP hD hS => ?_)
                  have hP : va_P (dC, dI) vwCl [(h0, .inr (6, [.ref h1, h0_1, .ref h2, .ref h3, .ref h4, .ref h5, .int r_279])), (h1, .inl (ch1, 48, .inl fh1)), (h2, .inl (ch2, 4, .inl fh2)), (h3, .inl (ch3, 4, .inl f_9)), (h4, .inl (ch4, 4, .inl f_10)), (h5, .inl (ch5, 4, .inl (upd f_285 (1 : Int32).toNatClampNeg p3)))] H_286 := hP
                  have hD : va_D A [(h0, .inr (6, [.ref h1, h0_1, .ref h2, .ref h3, .ref h4, .ref h5, .int r_279])), (h1, .inl (ch1, 48, .inl fh1)), (h2, .inl (ch2, 4, .inl fh2)), (h3, .inl (ch3, 4, .inl f_9)), (h4, .inl (ch4, 4, .inl f_10)), (h5, .inl (ch5, 4, .inl (upd f_285 (1 : Int32).toNatClampNeg p3)))] := hD
                  generalize (upd f_285 (1 : Int32).toNatClampNeg p3) = f_287 at hP hD
                  refine lv_aload_n hx hb dX6_tryPair_259 rfl (lv_at hl 5 rfl) ?_
                  refine va_get (D := (dC, dI)) (ci := 6) (v := .ref h5) (C := RX6) (T := TX6) (N := 7) hx hb hts hiX6 hown hK hP 0 rfl rfl 5 (by decide) w__fieldLink_RX6_27_ShellHeap_Readers_died_I_ (fun _ h9 => h9) rfl dX6_tryPair_260 ?_
                  refine lv_iconst (v := 2) hx hb dX6_tryPair_263 (by decide) ?_
                  refine lv_iload hx hb dX6_tryPair_264 (lv_at hl 1 rfl) ?_
                  refine va_iast hx hb hK hP hD hS 5 4 rfl rfl (by unfold vp_in; decide) dX6_tryPair_266 (fun H_288 locs hP hD hS => ?_)
                  have hP : va_P (dC, dI) vwCl [(h0, .inr (6, [.ref h1, h0_1, .ref h2, .ref h3, .ref h4, .ref h5, .int r_279])), (h1, .inl (ch1, 48, .inl fh1)), (h2, .inl (ch2, 4, .inl fh2)), (h3, .inl (ch3, 4, .inl f_9)), (h4, .inl (ch4, 4, .inl f_10)), (h5, .inl (ch5, 4, .inl (upd f_287 (2 : Int32).toNatClampNeg z_277)))] H_288 := hP
                  have hD : va_D A [(h0, .inr (6, [.ref h1, h0_1, .ref h2, .ref h3, .ref h4, .ref h5, .int r_279])), (h1, .inl (ch1, 48, .inl fh1)), (h2, .inl (ch2, 4, .inl fh2)), (h3, .inl (ch3, 4, .inl f_9)), (h4, .inl (ch4, 4, .inl f_10)), (h5, .inl (ch5, 4, .inl (upd f_287 (2 : Int32).toNatClampNeg z_277)))] := hD
                  generalize (upd f_287 (2 : Int32).toNatClampNeg z_277) = f_289 at hP hD
                  refine lv_aload_n hx hb dX6_tryPair_267 rfl (lv_at hl 5 rfl) ?_
                  refine va_get (D := (dC, dI)) (ci := 6) (v := .ref h5) (C := RX6) (T := TX6) (N := 7) hx hb hts hiX6 hown hK hP 0 rfl rfl 5 (by decide) w__fieldLink_RX6_27_ShellHeap_Readers_died_I_ (fun _ h9 => h9) rfl dX6_tryPair_268 ?_
                  refine lv_iconst (v := 3) hx hb dX6_tryPair_271 (by decide) ?_
                  refine lv_iload hx hb dX6_tryPair_272 (lv_at hl 9 rfl) ?_
                  refine lv_iload hx hb dX6_tryPair_274 (lv_at hl 1 rfl) ?_
                  refine lv_isub hx hb dX6_tryPair_276 ?_
                  refine lv_topi (fun z_290 ez_290 => ?_)
                  refine va_iast hx hb hK hP hD hS 5 4 rfl rfl (by unfold vp_in; decide) dX6_tryPair_277 (fun H_291 locs hP hD hS => ?_)
                  have hP : va_P (dC, dI) vwCl [(h0, .inr (6, [.ref h1, h0_1, .ref h2, .ref h3, .ref h4, .ref h5, .int r_279])), (h1, .inl (ch1, 48, .inl fh1)), (h2, .inl (ch2, 4, .inl fh2)), (h3, .inl (ch3, 4, .inl f_9)), (h4, .inl (ch4, 4, .inl f_10)), (h5, .inl (ch5, 4, .inl (upd f_289 (3 : Int32).toNatClampNeg z_290)))] H_291 := hP
                  have hD : va_D A [(h0, .inr (6, [.ref h1, h0_1, .ref h2, .ref h3, .ref h4, .ref h5, .int r_279])), (h1, .inl (ch1, 48, .inl fh1)), (h2, .inl (ch2, 4, .inl fh2)), (h3, .inl (ch3, 4, .inl f_9)), (h4, .inl (ch4, 4, .inl f_10)), (h5, .inl (ch5, 4, .inl (upd f_289 (3 : Int32).toNatClampNeg z_290)))] := hD
                  generalize (upd f_289 (3 : Int32).toNatClampNeg z_290) = f_292 at hP hD
                  refine z_backQ hQQ ?_
                  have hP9 := hP.sub (ws' := [(h0, .inr (6, [.ref h1, h0_1, .ref h2, .ref h3, .ref h4, .ref h5, .int r_279])), (h1, .inl (ch1, 48, .inl fh1)), (h2, .inl (ch2, 4, .inl fh2)), (h3, .inl (ch3, 4, .inl f_9)), (h4, .inl (ch4, 4, .inl f_10)), (h5, .inl (ch5, 4, .inl f_292))]) [0, 1, 2, 3, 4, 5] rfl
                  have hD9 := hD.sub (ws' := [(h0, .inr (6, [.ref h1, h0_1, .ref h2, .ref h3, .ref h4, .ref h5, .int r_279])), (h1, .inl (ch1, 48, .inl fh1)), (h2, .inl (ch2, 4, .inl fh2)), (h3, .inl (ch3, 4, .inl f_9)), (h4, .inl (ch4, 4, .inl f_10)), (h5, .inl (ch5, 4, .inl f_292))]) [0, 1, 2, 3, 4, 5] (by decide) rfl
                  have hK9 := hK.sub (tys' := []) [] rfl
                  refine W.widen (k := 0) (n := 0) (Nat.le_of_ble_eq_true rfl) (Nat.le_of_ble_eq_true rfl) ?_
                  exact W.vret hx hb hr (fun t ht hW => ⟨⟨(), rfl, trivial, ⟨r_279, f_9, f_10, f_292, by rw [ht]; exact hP9, va_K.moved hW.alike hK9, hD9⟩⟩, hS.F ht⟩) hS.2.2 dX6_tryPair_278
                · have k_293 : (rm).toInt ≠ (-1 : Int) := z_ne c_281
                  refine lv_iload hx hb dX6_tryPair_230 (lv_at hl 0 rfl) ?_
                  refine lv_aload_n hx hb dX6_tryPair_232 rfl (lv_at hl 5 rfl) ?_
                  refine va_get (D := (dC, dI)) (ci := 6) (v := .int rm) (C := RX6) (T := TX6) (N := 7) hx hb hts hiX6 hown hK hP 0 rfl rfl 6 (by decide) w__fieldLink_RX6_30_ShellHeap_Readers_miss_I_ (fun _ h9 => h9) rfl dX6_tryPair_233 ?_
                  refine lv_icmp_ge (tgt := 278) hx hb dX6_tryPair_236 (by decide) (fun c_294 => ?_) (fun c_294 => ?_)
                  · have k_295 : (rm).toInt ≤ (r_279).toInt := z_le c_294
                    refine z_backQ hQQ ?_
                    have hP9 := hP.sub (ws' := [(h0, .inr (6, [.ref h1, h0_1, .ref h2, .ref h3, .ref h4, .ref h5, .int rm])), (h1, .inl (ch1, 48, .inl fh1)), (h2, .inl (ch2, 4, .inl fh2)), (h3, .inl (ch3, 4, .inl f_9)), (h4, .inl (ch4, 4, .inl f_10)), (h5, .inl (ch5, 4, .inl fh5))]) [0, 1, 2, 3, 4, 5] rfl
                    have hD9 := hD.sub (ws' := [(h0, .inr (6, [.ref h1, h0_1, .ref h2, .ref h3, .ref h4, .ref h5, .int rm])), (h1, .inl (ch1, 48, .inl fh1)), (h2, .inl (ch2, 4, .inl fh2)), (h3, .inl (ch3, 4, .inl f_9)), (h4, .inl (ch4, 4, .inl f_10)), (h5, .inl (ch5, 4, .inl fh5))]) [0, 1, 2, 3, 4, 5] (by decide) rfl
                    have hK9 := hK.sub (tys' := []) [] rfl
                    refine W.widen (k := 0) (n := 0) (Nat.le_of_ble_eq_true rfl) (Nat.le_of_ble_eq_true rfl) ?_
                    exact W.vret hx hb hr (fun t ht hW => ⟨⟨(), rfl, trivial, ⟨rm, f_9, f_10, fh5, by rw [ht]; exact hP9, va_K.moved hW.alike hK9, hD9⟩⟩, hS.F ht⟩) hS.2.2 dX6_tryPair_278
                  · have k_296 : (rm).toInt > (r_279).toInt := z_nle c_294
                    refine lv_aload_n hx hb dX6_tryPair_239 rfl (lv_at hl 5 rfl) ?_
                    refine lv_iload hx hb dX6_tryPair_240 (lv_at hl 0 rfl) ?_
                    refine va_put (D := (dC, dI)) (ci := 6) (v := .int r_279) (ty := .int) (C := RX6) (T := TX6) (N := 7) hx hb hts hiX6 tyX6 tyX6_ok nmX6 hown hK hP hD hS 0 rfl rfl 6 (by decide) w__fieldLink_RX6_30_ShellHeap_Readers_miss_I_ (fun _ h9 => h9) rfl (by decide +kernel) rfl rfl (Nat.le_of_ble_eq_true rfl) dX6_tryPair_242 (fun H_297 locs hP hD hS => ?_)
                    have hP : va_P (dC, dI) vwCl [(h0, .inr (6, [.ref h1, h0_1, .ref h2, .ref h3, .ref h4, .ref h5, .int r_279])), (h1, .inl (ch1, 48, .inl fh1)), (h2, .inl (ch2, 4, .inl fh2)), (h3, .inl (ch3, 4, .inl f_9)), (h4, .inl (ch4, 4, .inl f_10)), (h5, .inl (ch5, 4, .inl fh5))] H_297 := hP
                    have hD : va_D A [(h0, .inr (6, [.ref h1, h0_1, .ref h2, .ref h3, .ref h4, .ref h5, .int r_279])), (h1, .inl (ch1, 48, .inl fh1)), (h2, .inl (ch2, 4, .inl fh2)), (h3, .inl (ch3, 4, .inl f_9)), (h4, .inl (ch4, 4, .inl f_10)), (h5, .inl (ch5, 4, .inl fh5))] := hD
                    refine lv_aload_n hx hb dX6_tryPair_245 rfl (lv_at hl 5 rfl) ?_
                    refine va_get (D := (dC, dI)) (ci := 6) (v := .ref h5) (C := RX6) (T := TX6) (N := 7) hx hb hts hiX6 hown hK hP 0 rfl rfl 5 (by decide) w__fieldLink_RX6_27_ShellHeap_Readers_died_I_ (fun _ h9 => h9) rfl dX6_tryPair_246 ?_
                    refine lv_iconst (v := 0) hx hb dX6_tryPair_249 (by decide) ?_
                    refine lv_iload_n hx hb dX6_tryPair_250 rfl (lv_at hl 7 rfl) ?_
                    refine va_iast hx hb hK hP hD hS 5 4 rfl rfl (by unfold vp_in; decide) dX6_tryPair_251 (fun H_298 locs hP hD hS => ?_)
                    have hP : va_P (dC, dI) vwCl [(h0, .inr (6, [.ref h1, h0_1, .ref h2, .ref h3, .ref h4, .ref h5, .int r_279])), (h1, .inl (ch1, 48, .inl fh1)), (h2, .inl (ch2, 4, .inl fh2)), (h3, .inl (ch3, 4, .inl f_9)), (h4, .inl (ch4, 4, .inl f_10)), (h5, .inl (ch5, 4, .inl (upd fh5 (0 : Int32).toNatClampNeg p2)))] H_298 := hP
                    have hD : va_D A [(h0, .inr (6, [.ref h1, h0_1, .ref h2, .ref h3, .ref h4, .ref h5, .int r_279])), (h1, .inl (ch1, 48, .inl fh1)), (h2, .inl (ch2, 4, .inl fh2)), (h3, .inl (ch3, 4, .inl f_9)), (h4, .inl (ch4, 4, .inl f_10)), (h5, .inl (ch5, 4, .inl (upd fh5 (0 : Int32).toNatClampNeg p2)))] := hD
                    generalize (upd fh5 (0 : Int32).toNatClampNeg p2) = f_299 at hP hD
                    refine lv_aload_n hx hb dX6_tryPair_252 rfl (lv_at hl 5 rfl) ?_
                    refine va_get (D := (dC, dI)) (ci := 6) (v := .ref h5) (C := RX6) (T := TX6) (N := 7) hx hb hts hiX6 hown hK hP 0 rfl rfl 5 (by decide) w__fieldLink_RX6_27_ShellHeap_Readers_died_I_ (fun _ h9 => h9) rfl dX6_tryPair_253 ?_
                    refine lv_iconst (v := 1) hx hb dX6_tryPair_256 (by decide) ?_
                    refine lv_iload_n hx hb dX6_tryPair_257 rfl (lv_at hl 8 rfl) ?_
                    refine va_iast hx hb hK hP hD hS 5 4 rfl rfl (by unfold vp_in; decide) dX6_tryPair_258 (fun H_300 locs hP hD hS => ?_)
                    have hP : va_P (dC, dI) vwCl [(h0, .inr (6, [.ref h1, h0_1, .ref h2, .ref h3, .ref h4, .ref h5, .int r_279])), (h1, .inl (ch1, 48, .inl fh1)), (h2, .inl (ch2, 4, .inl fh2)), (h3, .inl (ch3, 4, .inl f_9)), (h4, .inl (ch4, 4, .inl f_10)), (h5, .inl (ch5, 4, .inl (upd f_299 (1 : Int32).toNatClampNeg p3)))] H_300 := hP
                    have hD : va_D A [(h0, .inr (6, [.ref h1, h0_1, .ref h2, .ref h3, .ref h4, .ref h5, .int r_279])), (h1, .inl (ch1, 48, .inl fh1)), (h2, .inl (ch2, 4, .inl fh2)), (h3, .inl (ch3, 4, .inl f_9)), (h4, .inl (ch4, 4, .inl f_10)), (h5, .inl (ch5, 4, .inl (upd f_299 (1 : Int32).toNatClampNeg p3)))] := hD
                    generalize (upd f_299 (1 : Int32).toNatClampNeg p3) = f_301 at hP hD
                    refine lv_aload_n hx hb dX6_tryPair_259 rfl (lv_at hl 5 rfl) ?_
                    refine va_get (D := (dC, dI)) (ci := 6) (v := .ref h5) (C := RX6) (T := TX6) (N := 7) hx hb hts hiX6 hown hK hP 0 rfl rfl 5 (by decide) w__fieldLink_RX6_27_ShellHeap_Readers_died_I_ (fun _ h9 => h9) rfl dX6_tryPair_260 ?_
                    refine lv_iconst (v := 2) hx hb dX6_tryPair_263 (by decide) ?_
                    refine lv_iload hx hb dX6_tryPair_264 (lv_at hl 1 rfl) ?_
                    refine va_iast hx hb hK hP hD hS 5 4 rfl rfl (by unfold vp_in; decide) dX6_tryPair_266 (fun H_302 locs hP hD hS => ?_)
                    have hP : va_P (dC, dI) vwCl [(h0, .inr (6, [.ref h1, h0_1, .ref h2, .ref h3, .ref h4, .ref h5, .int r_279])), (h1, .inl (ch1, 48, .inl fh1)), (h2, .inl (ch2, 4, .inl fh2)), (h3, .inl (ch3, 4, .inl f_9)), (h4, .inl (ch4, 4, .inl f_10)), (h5, .inl (ch5, 4, .inl (upd f_301 (2 : Int32).toNatClampNeg z_277)))] H_302 := hP
                    have hD : va_D A [(h0, .inr (6, [.ref h1, h0_1, .ref h2, .ref h3, .ref h4, .ref h5, .int r_279])), (h1, .inl (ch1, 48, .inl fh1)), (h2, .inl (ch2, 4, .inl fh2)), (h3, .inl (ch3, 4, .inl f_9)), (h4, .inl (ch4, 4, .inl f_10)), (h5, .inl (ch5, 4, .inl (upd f_301 (2 : Int32).toNatClampNeg z_277)))] := hD
                    generalize (upd f_301 (2 : Int32).toNatClampNeg z_277) = f_303 at hP hD
                    refine lv_aload_n hx hb dX6_tryPair_267 rfl (lv_at hl 5 rfl) ?_
                    refine va_get (D := (dC, dI)) (ci := 6) (v := .ref h5) (C := RX6) (T := TX6) (N := 7) hx hb hts hiX6 hown hK hP 0 rfl rfl 5 (by decide) w__fieldLink_RX6_27_ShellHeap_Readers_died_I_ (fun _ h9 => h9) rfl dX6_tryPair_268 ?_
                    refine lv_iconst (v := 3) hx hb dX6_tryPair_271 (by decide) ?_
                    refine lv_iload hx hb dX6_tryPair_272 (lv_at hl 9 rfl) ?_
                    refine lv_iload hx hb dX6_tryPair_274 (lv_at hl 1 rfl) ?_
                    refine lv_isub hx hb dX6_tryPair_276 ?_
                    refine lv_topi (fun z_304 ez_304 => ?_)
                    refine va_iast hx hb hK hP hD hS 5 4 rfl rfl (by unfold vp_in; decide) dX6_tryPair_277 (fun H_305 locs hP hD hS => ?_)
                    have hP : va_P (dC, dI) vwCl [(h0, .inr (6, [.ref h1, h0_1, .ref h2, .ref h3, .ref h4, .ref h5, .int r_279])), (h1, .inl (ch1, 48, .inl fh1)), (h2, .inl (ch2, 4, .inl fh2)), (h3, .inl (ch3, 4, .inl f_9)), (h4, .inl (ch4, 4, .inl f_10)), (h5, .inl (ch5, 4, .inl (upd f_303 (3 : Int32).toNatClampNeg z_304)))] H_305 := hP
                    have hD : va_D A [(h0, .inr (6, [.ref h1, h0_1, .ref h2, .ref h3, .ref h4, .ref h5, .int r_279])), (h1, .inl (ch1, 48, .inl fh1)), (h2, .inl (ch2, 4, .inl fh2)), (h3, .inl (ch3, 4, .inl f_9)), (h4, .inl (ch4, 4, .inl f_10)), (h5, .inl (ch5, 4, .inl (upd f_303 (3 : Int32).toNatClampNeg z_304)))] := hD
                    generalize (upd f_303 (3 : Int32).toNatClampNeg z_304) = f_306 at hP hD
                    refine z_backQ hQQ ?_
                    have hP9 := hP.sub (ws' := [(h0, .inr (6, [.ref h1, h0_1, .ref h2, .ref h3, .ref h4, .ref h5, .int r_279])), (h1, .inl (ch1, 48, .inl fh1)), (h2, .inl (ch2, 4, .inl fh2)), (h3, .inl (ch3, 4, .inl f_9)), (h4, .inl (ch4, 4, .inl f_10)), (h5, .inl (ch5, 4, .inl f_306))]) [0, 1, 2, 3, 4, 5] rfl
                    have hD9 := hD.sub (ws' := [(h0, .inr (6, [.ref h1, h0_1, .ref h2, .ref h3, .ref h4, .ref h5, .int r_279])), (h1, .inl (ch1, 48, .inl fh1)), (h2, .inl (ch2, 4, .inl fh2)), (h3, .inl (ch3, 4, .inl f_9)), (h4, .inl (ch4, 4, .inl f_10)), (h5, .inl (ch5, 4, .inl f_306))]) [0, 1, 2, 3, 4, 5] (by decide) rfl
                    have hK9 := hK.sub (tys' := []) [] rfl
                    refine W.widen (k := 0) (n := 0) (Nat.le_of_ble_eq_true rfl) (Nat.le_of_ble_eq_true rfl) ?_
                    exact W.vret hx hb hr (fun t ht hW => ⟨⟨(), rfl, trivial, ⟨r_279, f_9, f_10, f_306, by rw [ht]; exact hP9, va_K.moved hW.alike hK9, hD9⟩⟩, hS.F ht⟩) hS.2.2 dX6_tryPair_278
      · have k_307 : (4 : Int) > (i_6).toInt := z_nle c_12
        refine lv_aload_n hx hb dX6_tryPair_22 rfl (lv_at hl 4 rfl) ?_
        refine va_get (D := (dC, dI)) (ci := 6) (v := .ref h1) (C := RX6) (T := TX6) (N := 7) hx hb hts hiX6 hown hK hP 0 rfl rfl 0 (by decide) w__fieldLink_RX6_11_ShellHeap_Readers_rows_I_ (fun _ h9 => h9) rfl dX6_tryPair_23 ?_
        refine lv_iload hx hb dX6_tryPair_26 (lv_at hl 3 rfl) ?_
        refine lv_bipush (v := 12) hx hb dX6_tryPair_28 (by decide) ?_
        refine lv_iadd hx hb dX6_tryPair_30 ?_
        refine lv_topi (fun z_308 ez_308 => ?_)
        have kz_308 : (z_308).toInt = (z_2).toInt + (12 : Int) := by rw [ez_308]; exact z_add (a := (z_2).toInt) (b := (12 : Int)) rfl rfl (by omega) (by omega)
        refine lv_iload hx hb dX6_tryPair_31 (lv_at hl 0 rfl) ?_
        refine lv_iadd hx hb dX6_tryPair_33 ?_
        refine lv_topi (fun z_309 ez_309 => ?_)
        have kz_309 : (z_309).toInt = (z_308).toInt + (i_6).toInt := by rw [ez_309]; exact z_add (a := (z_308).toInt) (b := (i_6).toInt) rfl rfl (by omega) (by omega)
        refine va_iald hx hb hK hP 1 0 rfl rfl (z_vpin (by omega) (by omega)) dX6_tryPair_34 ?_
        refine lv_topi (fun z_310 ez_310 => ?_)
        refine lv_istore (lv' := [(9, .int z_310), (8, .int i_6), (7, .int c_8), (6, .int a_7), (5, .int z_2), (0, .ref h0), (1, .int p1), (2, .int p2), (3, .int p3), (4, .int p4)]) hx hb dX6_tryPair_35 hl (by decide) rfl (fun ls hl => ?_)
        refine lv_aload_n hx hb dX6_tryPair_37 rfl (lv_at hl 5 rfl) ?_
        refine va_get (D := (dC, dI)) (ci := 6) (v := .ref h4) (C := RX6) (T := TX6) (N := 7) hx hb hts hiX6 hown hK hP 0 rfl rfl 4 (by decide) w__fieldLink_RX6_24_ShellHeap_Readers_steps_I_ (fun _ h9 => h9) rfl dX6_tryPair_38 ?_
        refine lv_iload hx hb dX6_tryPair_41 (lv_at hl 1 rfl) ?_
        refine lv_aload_n hx hb dX6_tryPair_43 rfl (lv_at hl 5 rfl) ?_
        refine va_get (D := (dC, dI)) (ci := 6) (v := .ref h1) (C := RX6) (T := TX6) (N := 7) hx hb hts hiX6 hown hK hP 0 rfl rfl 0 (by decide) w__fieldLink_RX6_11_ShellHeap_Readers_rows_I_ (fun _ h9 => h9) rfl dX6_tryPair_44 ?_
        refine lv_iload hx hb dX6_tryPair_47 (lv_at hl 4 rfl) ?_
        refine lv_bipush (v := 8) hx hb dX6_tryPair_49 (by decide) ?_
        refine lv_iadd hx hb dX6_tryPair_51 ?_
        refine lv_topi (fun z_311 ez_311 => ?_)
        have kz_311 : (z_311).toInt = (z_2).toInt + (8 : Int) := by rw [ez_311]; exact z_add (a := (z_2).toInt) (b := (8 : Int)) rfl rfl (by omega) (by omega)
        refine lv_iload hx hb dX6_tryPair_52 (lv_at hl 1 rfl) ?_
        refine lv_iadd hx hb dX6_tryPair_54 ?_
        refine lv_topi (fun z_312 ez_312 => ?_)
        have kz_312 : (z_312).toInt = (z_311).toInt + (i_6).toInt := by rw [ez_312]; exact z_add (a := (z_311).toInt) (b := (i_6).toInt) rfl rfl (by omega) (by omega)
        refine va_iald hx hb hK hP 1 0 rfl rfl (z_vpin (by omega) (by omega)) dX6_tryPair_55 ?_
        refine lv_topi (fun z_313 ez_313 => ?_)
        refine lv_iload hx hb dX6_tryPair_56 (lv_at hl 0 rfl) ?_
        refine lv_isub hx hb dX6_tryPair_58 ?_
        refine lv_topi (fun z_314 ez_314 => ?_)
        refine va_iast hx hb hK hP hD hS 4 3 rfl rfl (z_vpin (by omega) (by omega)) dX6_tryPair_59 (fun H_315 locs hP hD hS => ?_)
        have hP : va_P (dC, dI) vwCl [(h0, .inr (6, [.ref h1, h0_1, .ref h2, .ref h3, .ref h4, .ref h5, .int rm])), (h1, .inl (ch1, 48, .inl fh1)), (h2, .inl (ch2, 4, .inl fh2)), (h3, .inl (ch3, 4, .inl f_9)), (h4, .inl (ch4, 4, .inl (upd f_10 (i_6 : Int32).toNatClampNeg z_314))), (h5, .inl (ch5, 4, .inl fh5))] H_315 := hP
        have hD : va_D A [(h0, .inr (6, [.ref h1, h0_1, .ref h2, .ref h3, .ref h4, .ref h5, .int rm])), (h1, .inl (ch1, 48, .inl fh1)), (h2, .inl (ch2, 4, .inl fh2)), (h3, .inl (ch3, 4, .inl f_9)), (h4, .inl (ch4, 4, .inl (upd f_10 (i_6 : Int32).toNatClampNeg z_314))), (h5, .inl (ch5, 4, .inl fh5))] := hD
        generalize (upd f_10 (i_6 : Int32).toNatClampNeg z_314) = f_316 at hP hD
        refine lv_aload_n hx hb dX6_tryPair_60 rfl (lv_at hl 5 rfl) ?_
        refine va_get (D := (dC, dI)) (ci := 6) (v := .ref h3) (C := RX6) (T := TX6) (N := 7) hx hb hts hiX6 hown hK hP 0 rfl rfl 3 (by decide) w__fieldLink_RX6_21_ShellHeap_Readers_gaps_I_ (fun _ h9 => h9) rfl dX6_tryPair_61 ?_
        refine lv_iload hx hb dX6_tryPair_64 (lv_at hl 1 rfl) ?_
        refine lv_bipush (v := 16) hx hb dX6_tryPair_66 (by decide) ?_
        refine lv_aload_n hx hb dX6_tryPair_68 rfl (lv_at hl 5 rfl) ?_
        refine va_get (D := (dC, dI)) (ci := 6) (v := .ref h2) (C := RX6) (T := TX6) (N := 7) hx hb hts hiX6 hown hK hP 0 rfl rfl 2 (by decide) w__fieldLink_RX6_18_ShellHeap_Readers_ofBed_I_ (fun _ h9 => h9) rfl dX6_tryPair_69 ?_
        refine lv_iload hx hb dX6_tryPair_72 (lv_at hl 1 rfl) ?_
        refine va_iald hx hb hK hP 2 1 rfl rfl (z_vpin (by omega) (by omega)) dX6_tryPair_74 ?_
        refine lv_topi (fun z_317 ez_317 => ?_)
        refine lv_imul hx hb dX6_tryPair_75 ?_
        refine lv_topi (fun z_318 ez_318 => ?_)
        refine lv_iload_n hx hb dX6_tryPair_76 rfl (lv_at hl 7 rfl) ?_
        refine lv_aload_n hx hb dX6_tryPair_77 rfl (lv_at hl 5 rfl) ?_
        refine va_get (D := (dC, dI)) (ci := 6) (v := .ref h1) (C := RX6) (T := TX6) (N := 7) hx hb hts hiX6 hown hK hP 0 rfl rfl 0 (by decide) w__fieldLink_RX6_11_ShellHeap_Readers_rows_I_ (fun _ h9 => h9) rfl dX6_tryPair_78 ?_
        refine lv_iload hx hb dX6_tryPair_81 (lv_at hl 4 rfl) ?_
        refine lv_iload hx hb dX6_tryPair_83 (lv_at hl 1 rfl) ?_
        refine lv_iadd hx hb dX6_tryPair_85 ?_
        refine lv_topi (fun z_319 ez_319 => ?_)
        have kz_319 : (z_319).toInt = (z_2).toInt + (i_6).toInt := by rw [ez_319]; exact z_add (a := (z_2).toInt) (b := (i_6).toInt) rfl rfl (by omega) (by omega)
        refine va_iald hx hb hK hP 1 0 rfl rfl (z_vpin (by omega) (by omega)) dX6_tryPair_86 ?_
        refine lv_topi (fun z_320 ez_320 => ?_)
        refine lv_imul hx hb dX6_tryPair_87 ?_
        refine lv_topi (fun z_321 ez_321 => ?_)
        refine lv_isub hx hb dX6_tryPair_88 ?_
        refine lv_topi (fun z_322 ez_322 => ?_)
        refine lv_iload_n hx hb dX6_tryPair_89 rfl (lv_at hl 8 rfl) ?_
        refine lv_aload_n hx hb dX6_tryPair_90 rfl (lv_at hl 5 rfl) ?_
        refine va_get (D := (dC, dI)) (ci := 6) (v := .ref h1) (C := RX6) (T := TX6) (N := 7) hx hb hts hiX6 hown hK hP 0 rfl rfl 0 (by decide) w__fieldLink_RX6_11_ShellHeap_Readers_rows_I_ (fun _ h9 => h9) rfl dX6_tryPair_91 ?_
        refine lv_iload hx hb dX6_tryPair_94 (lv_at hl 4 rfl) ?_
        refine lv_iconst (v := 4) hx hb dX6_tryPair_96 (by decide) ?_
        refine lv_iadd hx hb dX6_tryPair_97 ?_
        refine lv_topi (fun z_323 ez_323 => ?_)
        have kz_323 : (z_323).toInt = (z_2).toInt + (4 : Int) := by rw [ez_323]; exact z_add (a := (z_2).toInt) (b := (4 : Int)) rfl rfl (by omega) (by omega)
        refine lv_iload hx hb dX6_tryPair_98 (lv_at hl 1 rfl) ?_
        refine lv_iadd hx hb dX6_tryPair_100 ?_
        refine lv_topi (fun z_324 ez_324 => ?_)
        have kz_324 : (z_324).toInt = (z_323).toInt + (i_6).toInt := by rw [ez_324]; exact z_add (a := (z_323).toInt) (b := (i_6).toInt) rfl rfl (by omega) (by omega)
        refine va_iald hx hb hK hP 1 0 rfl rfl (z_vpin (by omega) (by omega)) dX6_tryPair_101 ?_
        refine lv_topi (fun z_325 ez_325 => ?_)
        refine lv_imul hx hb dX6_tryPair_102 ?_
        refine lv_topi (fun z_326 ez_326 => ?_)
        refine lv_isub hx hb dX6_tryPair_103 ?_
        refine lv_topi (fun z_327 ez_327 => ?_)
        refine lv_iload hx hb dX6_tryPair_104 (lv_at hl 9 rfl) ?_
        refine lv_iload hx hb dX6_tryPair_106 (lv_at hl 0 rfl) ?_
        refine lv_imul hx hb dX6_tryPair_108 ?_
        refine lv_topi (fun z_328 ez_328 => ?_)
        refine lv_isub hx hb dX6_tryPair_109 ?_
        refine lv_topi (fun z_329 ez_329 => ?_)
        refine va_iast hx hb hK hP hD hS 3 2 rfl rfl (z_vpin (by omega) (by omega)) dX6_tryPair_110 (fun H_330 locs hP hD hS => ?_)
        have hP : va_P (dC, dI) vwCl [(h0, .inr (6, [.ref h1, h0_1, .ref h2, .ref h3, .ref h4, .ref h5, .int rm])), (h1, .inl (ch1, 48, .inl fh1)), (h2, .inl (ch2, 4, .inl fh2)), (h3, .inl (ch3, 4, .inl (upd f_9 (i_6 : Int32).toNatClampNeg z_329))), (h4, .inl (ch4, 4, .inl f_316)), (h5, .inl (ch5, 4, .inl fh5))] H_330 := hP
        have hD : va_D A [(h0, .inr (6, [.ref h1, h0_1, .ref h2, .ref h3, .ref h4, .ref h5, .int rm])), (h1, .inl (ch1, 48, .inl fh1)), (h2, .inl (ch2, 4, .inl fh2)), (h3, .inl (ch3, 4, .inl (upd f_9 (i_6 : Int32).toNatClampNeg z_329))), (h4, .inl (ch4, 4, .inl f_316)), (h5, .inl (ch5, 4, .inl fh5))] := hD
        generalize (upd f_9 (i_6 : Int32).toNatClampNeg z_329) = f_331 at hP hD
        refine lv_iload hx hb dX6_tryPair_111 (lv_at hl 3 rfl) ?_
        refine lv_aload_n hx hb dX6_tryPair_113 rfl (lv_at hl 5 rfl) ?_
        refine va_get (D := (dC, dI)) (ci := 6) (v := .ref h3) (C := RX6) (T := TX6) (N := 7) hx hb hts hiX6 hown hK hP 0 rfl rfl 3 (by decide) w__fieldLink_RX6_21_ShellHeap_Readers_gaps_I_ (fun _ h9 => h9) rfl dX6_tryPair_114 ?_
        refine lv_iload hx hb dX6_tryPair_117 (lv_at hl 1 rfl) ?_
        refine va_iald hx hb hK hP 3 2 rfl rfl (z_vpin (by omega) (by omega)) dX6_tryPair_119 ?_
        refine lv_topi (fun z_332 ez_332 => ?_)
        refine lv_aload_n hx hb dX6_tryPair_120 rfl (lv_at hl 5 rfl) ?_
        refine va_get (D := (dC, dI)) (ci := 6) (v := .ref h4) (C := RX6) (T := TX6) (N := 7) hx hb hts hiX6 hown hK hP 0 rfl rfl 4 (by decide) w__fieldLink_RX6_24_ShellHeap_Readers_steps_I_ (fun _ h9 => h9) rfl dX6_tryPair_121 ?_
        refine lv_iload hx hb dX6_tryPair_124 (lv_at hl 1 rfl) ?_
        refine va_iald hx hb hK hP 4 3 rfl rfl (z_vpin (by omega) (by omega)) dX6_tryPair_126 ?_
        refine lv_topi (fun z_333 ez_333 => ?_)
        refine lv_imul hx hb dX6_tryPair_127 ?_
        refine lv_topi (fun z_334 ez_334 => ?_)
        refine lv_iadd hx hb dX6_tryPair_128 ?_
        refine lv_topi (fun z_335 ez_335 => ?_)
        refine lv_istore (lv' := [(6, .int z_335), (9, .int z_310), (8, .int i_6), (7, .int c_8), (5, .int z_2), (0, .ref h0), (1, .int p1), (2, .int p2), (3, .int p3), (4, .int p4)]) hx hb dX6_tryPair_129 hl (by decide) rfl (fun ls hl => ?_)
        refine lv_iload hx hb dX6_tryPair_131 (lv_at hl 3 rfl) ?_
        refine lv_aload_n hx hb dX6_tryPair_133 rfl (lv_at hl 5 rfl) ?_
        refine va_get (D := (dC, dI)) (ci := 6) (v := .ref h4) (C := RX6) (T := TX6) (N := 7) hx hb hts hiX6 hown hK hP 0 rfl rfl 4 (by decide) w__fieldLink_RX6_24_ShellHeap_Readers_steps_I_ (fun _ h9 => h9) rfl dX6_tryPair_134 ?_
        refine lv_iload hx hb dX6_tryPair_137 (lv_at hl 2 rfl) ?_
        refine va_iald hx hb hK hP 4 3 rfl rfl (z_vpin (by omega) (by omega)) dX6_tryPair_139 ?_
        refine lv_topi (fun z_336 ez_336 => ?_)
        refine lv_aload_n hx hb dX6_tryPair_140 rfl (lv_at hl 5 rfl) ?_
        refine va_get (D := (dC, dI)) (ci := 6) (v := .ref h4) (C := RX6) (T := TX6) (N := 7) hx hb hts hiX6 hown hK hP 0 rfl rfl 4 (by decide) w__fieldLink_RX6_24_ShellHeap_Readers_steps_I_ (fun _ h9 => h9) rfl dX6_tryPair_141 ?_
        refine lv_iload hx hb dX6_tryPair_144 (lv_at hl 2 rfl) ?_
        refine va_iald hx hb hK hP 4 3 rfl rfl (z_vpin (by omega) (by omega)) dX6_tryPair_146 ?_
        refine lv_topi (fun z_337 ez_337 => ?_)
        refine lv_imul hx hb dX6_tryPair_147 ?_
        refine lv_topi (fun z_338 ez_338 => ?_)
        refine lv_iadd hx hb dX6_tryPair_148 ?_
        refine lv_topi (fun z_339 ez_339 => ?_)
        refine lv_istore (lv' := [(7, .int z_339), (6, .int z_335), (9, .int z_310), (8, .int i_6), (5, .int z_2), (0, .ref h0), (1, .int p1), (2, .int p2), (3, .int p3), (4, .int p4)]) hx hb dX6_tryPair_149 hl (by decide) rfl (fun ls hl => ?_)
        obtain ⟨z_340, ez_340⟩ : ∃ y : Int32, y = i_6 + 1 := ⟨_, rfl⟩
        have kz_340 : (z_340).toInt = (i_6).toInt + (1 : Int) := by rw [ez_340]; exact z_add (b := 1) rfl rfl (by omega) (by omega)
        refine lv_iinc (v := z_340) (lv' := [(8, .int z_340), (7, .int z_339), (6, .int z_335), (9, .int z_310), (5, .int z_2), (0, .ref h0), (1, .int p1), (2, .int p2), (3, .int p3), (4, .int p4)]) hx hb dX6_tryPair_151 hl (k := 3) rfl (by rw [ez_340]; rfl) (by decide) rfl (fun ls hl => ?_)
        refine lv_goto (tgt := 16) hx hb dX6_tryPair_154 (by decide) ?_
        exact ih_5 z_340 z_335 z_339 f_331 f_316 _ _ _ (show (5 - (z_340).toInt).toNat < n_4 by omega) (show ((0 : Int) ≤ (z_340).toInt ∧ (z_340).toInt ≤ (4 : Int)) by omega) hP hD hS (lv_sub hl [0, 1, 2, 4, 5, 6, 7, 8, 9] rfl)
  exact loop_3 _ 0 0 0 fh3 fh4 _ _ _ (Nat.lt_succ_self _) (show ((0 : Int) ≤ (0 : Int) ∧ (0 : Int) ≤ (4 : Int)) by omega) hP hD hS hl
def u_s_X6_putRight : List Cond := .code yX6_putRight cX6_putRight 6 (some .boolean) :: ([.methodLink RX6 34 yX6_sum, .instanceMethod yX6_sum, .selects RX6 yX6_sum yX6_sum, .initialized RX6, .code yX6_sum cX6_sum 6 (some .int), .fieldLink RX6 18 "ShellHeap$Readers" "ofBed" "[I", .fieldLink RX6 15 "ShellHeap$Readers" "told" "[I", .fieldLink RX6 30 "ShellHeap$Readers" "miss" "I", .methodLink RX6 38 yX6_tryPair, .instanceMethod yX6_tryPair, .selects RX6 yX6_tryPair yX6_tryPair, .code yX6_tryPair cX6_tryPair 10 none, .methodLink RX6 47 yX6_missAt, .instanceMethod yX6_missAt, .selects RX6 yX6_missAt yX6_missAt, .code yX6_missAt cX6_missAt 5 (some .int), .fieldLink RX6 21 "ShellHeap$Readers" "gaps" "[I", .fieldLink RX6 24 "ShellHeap$Readers" "steps" "[I", .fieldLink RX6 27 "ShellHeap$Readers" "died" "[I", .methodLink RX6 42 Lib.Math.min.name, .static Lib.Math.min.name, .initialized "java/lang/Math", .code Lib.Math.min.name Lib.Math.min.code 2 (some .int), .fieldLink RX6 11 "ShellHeap$Readers" "rows" "[I"] ++ wsX60)
set_option maxRecDepth 20000 in
theorem gw_s_X6_putRight_s_X6_sum_34 : GoodIn u_s_X6_putRight (wsV RX6 34 RX6 yX6_sum u_s_X6_sum) := goodIn_r _ [1, 2, 3, 4, 5, 6, 7, 25, 26, 27, 28, 29, 30, 31] (by decide +kernel) (by decide +kernel)
set_option maxRecDepth 20000 in
theorem gw_s_X6_putRight_s_X6_tryPair_38 : GoodIn u_s_X6_putRight (wsV RX6 38 RX6 yX6_tryPair u_s_X6_tryPair) := goodIn_r _ [9, 10, 11, 4, 12, 13, 14, 15, 4, 16, 17, 18, 8, 19, 20, 21, 22, 23, 24, 6, 25, 26, 27, 28, 29, 30, 31] (by decide +kernel) (by decide +kernel)
set_option maxHeartbeats 4000000 in
set_option maxRecDepth 100000 in
theorem s_X6_putRight (l : Launch) (dC : Nat → ClassId) (dI : Nat → Nat → Nat) (sz : Nat) (h0 : Nat) (p1 : Int32) (p2 : Int32) (h1 : Nat) (h6 : Nat) (h2 : Nat) (h3 : Nat) (h4 : Nat) (h5 : Nat) (rm : Int32) (ch1 : ClassId) (fh1 : Nat → Int32) (ch2 : ClassId) (fh2 : Nat → Int32) (ch3 : ClassId) (fh3 : Nat → Int32) (ch4 : ClassId) (fh4 : Nat → Int32) (ch5 : ClassId) (fh5 : Nat → Int32) (ch6 : ClassId) (fh6 : Nat → Int32) (hB_p2 : ((0 : Int) ≤ (p2).toInt ∧ (p2).toInt ≤ (2 : Int))) : Met l yX6_putRight u_s_X6_putRight ({ frames := 2, cells := 0, slots := 0, locals := 53 }) (va_Pc [.ref h0, .int p1, .int p2] (z_C (dC, dI) vwCl [(h0, .inr (6, [.ref h1, .ref h6, .ref h2, .ref h3, .ref h4, .ref h5, .int rm])), (h1, .inl (ch1, 48, .inl fh1)), (h2, .inl (ch2, 4, .inl fh2)), (h3, .inl (ch3, 4, .inl fh3)), (h4, .inl (ch4, 4, .inl fh4)), (h5, .inl (ch5, 4, .inl fh5)), (h6, .inl (ch6, 144, .inl fh6))] [(ch1, .int), (ch2, .int), (ch3, .int), (ch4, .int), (ch5, .int), (ch6, .int)] sz)) (va_Qi (fun (r : Int32) (_ : Unit) => ((0 : Int) ≤ (r).toInt ∧ (r).toInt ≤ (1 : Int))) (fun (_ : Unit) (t : State) => ∃ (n_h0_miss : Int32), ∃ (g_h2 : Nat → Int32), ∃ (g_h3 : Nat → Int32), ∃ (g_h4 : Nat → Int32), ∃ (g_h5 : Nat → Int32), va_P (dC, dI) vwCl [(h0, .inr (6, [.ref h1, .ref h6, .ref h2, .ref h3, .ref h4, .ref h5, .int n_h0_miss])), (h1, .inl (ch1, 48, .inl fh1)), (h2, .inl (ch2, 4, .inl g_h2)), (h3, .inl (ch3, 4, .inl g_h3)), (h4, .inl (ch4, 4, .inl g_h4)), (h5, .inl (ch5, 4, .inl g_h5)), (h6, .inl (ch6, 144, .inl fh6))] t.heap ∧ va_K (dC, dI) vwCl [] t ∧ va_D (va_A [(h0, .inr (6, [.ref h1, .ref h6, .ref h2, .ref h3, .ref h4, .ref h5, .int rm])), (h1, .inl (ch1, 48, .inl fh1)), (h2, .inl (ch2, 4, .inl fh2)), (h3, .inl (ch3, 4, .inl fh3)), (h4, .inl (ch4, 4, .inl fh4)), (h5, .inl (ch5, 4, .inl fh5)), (h6, .inl (ch6, 144, .inl fh6))] sz) [(h0, .inr (6, [.ref h1, .ref h6, .ref h2, .ref h3, .ref h4, .ref h5, .int n_h0_miss])), (h1, .inl (ch1, 48, .inl fh1)), (h2, .inl (ch2, 4, .inl g_h2)), (h3, .inl (ch3, 4, .inl g_h3)), (h4, .inl (ch4, 4, .inl g_h4)), (h5, .inl (ch5, 4, .inl g_h5)), (h6, .inl (ch6, 144, .inl fh6))]) (va_A [(h0, .inr (6, [.ref h1, .ref h6, .ref h2, .ref h3, .ref h4, .ref h5, .int rm])), (h1, .inl (ch1, 48, .inl fh1)), (h2, .inl (ch2, 4, .inl fh2)), (h3, .inl (ch3, 4, .inl fh3)), (h4, .inl (ch4, 4, .inl fh4)), (h5, .inl (ch5, 4, .inl fh5)), (h6, .inl (ch6, 144, .inl fh6))] sz)) 0 0 (va_A [(h0, .inr (6, [.ref h1, .ref h6, .ref h2, .ref h3, .ref h4, .ref h5, .int rm])), (h1, .inl (ch1, 48, .inl fh1)), (h2, .inl (ch2, 4, .inl fh2)), (h3, .inl (ch3, 4, .inl fh3)), (h4, .inl (ch4, 4, .inl fh4)), (h5, .inl (ch5, 4, .inl fh5)), (h6, .inl (ch6, 144, .inl fh6))] sz) := by
  refine Met.ofW (cc := cX6_putRight) (maxL := 6) (ret := (some .boolean)) (by decide) rfl ?_
  intro p e s m args below meth c s₁ B hml hv
  obtain ⟨rfl, hsz, hP, hK, hD0⟩ := hv
  have hx := B.exec
  have hb := B.bytes
  have hr := B.returns
  have hts := atoms_spec (ws := u_s_X6_putRight) B.pre
  have hown : s.vm.findClass RX6 = some m.cls := findClass_of_methodNamed B.named
  have hlocks := B.notSynchronized
  subst hsz
  have hD := hD0.self (sz := s.heap.size)
  generalize hAe : va_A [(h0, .inr (6, [.ref h1, .ref h6, .ref h2, .ref h3, .ref h4, .ref h5, .int rm])), (h1, .inl (ch1, 48, .inl fh1)), (h2, .inl (ch2, 4, .inl fh2)), (h3, .inl (ch3, 4, .inl fh3)), (h4, .inl (ch4, 4, .inl fh4)), (h5, .inl (ch5, 4, .inl fh5)), (h6, .inl (ch6, 144, .inl fh6))] s.heap.size = A at hD ⊢
  have hA : ∀ q : Nat, s.heap.size ≤ q → A q := fun q h => by rw [← hAe]; exact Or.inr h
  have hS : va_S A s.heap s.heap [] := va_S.rf
  have hP : va_P (dC, dI) vwCl [(h0, .inr (6, [.ref h1, .ref h6, .ref h2, .ref h3, .ref h4, .ref h5, .int rm])), (h1, .inl (ch1, 48, .inl fh1)), (h2, .inl (ch2, 4, .inl fh2)), (h3, .inl (ch3, 4, .inl fh3)), (h4, .inl (ch4, 4, .inl fh4)), (h5, .inl (ch5, 4, .inl fh5)), (h6, .inl (ch6, 144, .inl fh6))] s.heap := hP
  have w__fieldLink_RX6_30_ShellHeap_Readers_miss_I_ := hts (.fieldLink RX6 30 "ShellHeap$Readers" "miss" "I") (by decide +kernel)
  have hiX6 := show ∀ w ∈ u_ws RX6 TX6 7, w ∈ u_s_X6_putRight by decide +kernel
  have krr_p1 := z_rng p1
  have hl := lv_entry ([.ref h0, .int p1, .int p2]) (n := 6) (Nat.le_of_ble_eq_true rfl)
  rw [lg_entry_eq]
  generalize (lg_sl ([.ref h0, .int p1, .int p2]) ++ List.replicate (6 - (lg_sl ([.ref h0, .int p1, .int p2])).length) Slot.unset).toArray = ls at hl ⊢
  have hl : lv_has ls 6 [(0, .ref h0), (1, .int p1), (2, .int p2)] := hl
  refine z_nameQ (fun QQ hQQ => ?_)
  refine lv_aload_n hx hb dX6_putRight_0 rfl (lv_at hl 0 rfl) ?_
  refine lv_iload_n hx hb dX6_putRight_1 rfl (lv_at hl 1 rfl) ?_
  refine lv_iload_n hx hb dX6_putRight_2 rfl (lv_at hl 2 rfl) ?_
  have hPc := hP.sub (ws' := [(h0, .inr (6, [.ref h1, .ref h6, .ref h2, .ref h3, .ref h4, .ref h5, .int rm])), (h6, .inl (ch6, 144, .inl fh6)), (h2, .inl (ch2, 4, .inl fh2))]) [0, 6, 2] rfl
  have hDc := hD.sub (ws' := [(h0, .inr (6, [.ref h1, .ref h6, .ref h2, .ref h3, .ref h4, .ref h5, .int rm])), (h6, .inl (ch6, 144, .inl fh6)), (h2, .inl (ch2, 4, .inl fh2))]) [0, 6, 2] (by decide) rfl
  have hKc := hK.sub (tys' := [(ch6, .int), (ch2, .int)]) [5, 1] rfl
  have hFc := va_free (wc := [(h0, .inr (6, [.ref h1, .ref h6, .ref h2, .ref h3, .ref h4, .ref h5, .int rm])), (h6, .inl (ch6, 144, .inl fh6)), (h2, .inl (ch2, 4, .inl fh2))]) hD hS hA [0, 6, 2] rfl
  refine va_calli (va_runV (As := [.int p1, .int p2]) (rest := []) ⟨hx, hb, hml, hown, hts⟩ (s_X6_sum l dC dI s.heap.size h0 p1 p2 (.ref h1) h6 h2 (.ref h3) (.ref h4) (.ref h5) (.int rm) ch6 fh6 ch2 fh2 (by first | omega | decide)) (cwV 2 hts gw_s_X6_putRight_s_X6_sum_34 rfl rfl rfl (by decide +kernel) ⟨Nat.le_of_ble_eq_true rfl, Nat.le_of_ble_eq_true rfl⟩) ⟨z_blind, va_recv hKc hPc (ci := 6) (q0 := 0) rfl rfl, z_pre hPc hKc hDc⟩ rfl rfl hl.1 rfl (lv_room (Nat.le_of_ble_eq_true rfl)) dX6_putRight_3 ⟨Nat.le_of_ble_eq_true rfl, Nat.le_of_ble_eq_true rfl⟩) hS (fun q _ h => hFc q h) hFc (fun r_2 u t H_1 locs ht hvm hw_3 hB hz1 hk1 hS => ?_)
  obtain ⟨g_h2_4, hP1, hK1, hD1⟩ := hB
  rw [ht] at hP1
  have hK1 := va_K.moved hvm.symm hK1
  obtain ⟨hP, hD⟩ := va_join (wr := [(h1, .inl (ch1, 48, .inl fh1)), (h3, .inl (ch3, 4, .inl fh3)), (h4, .inl (ch4, 4, .inl fh4)), (h5, .inl (ch5, 4, .inl fh5))]) (w1 := [(h0, .inr (6, [.ref h1, .ref h6, .ref h2, .ref h3, .ref h4, .ref h5, .int rm])), (h6, .inl (ch6, 144, .inl fh6)), (h2, .inl (ch2, 4, .inl g_h2_4))]) hP hD [0, 6, 2] [1, 3, 4, 5] rfl rfl (by decide) (by decide) hk1 hFc hP1 hD1
  have hP : va_P (dC, dI) vwCl [(h1, .inl (ch1, 48, .inl fh1)), (h3, .inl (ch3, 4, .inl fh3)), (h4, .inl (ch4, 4, .inl fh4)), (h5, .inl (ch5, 4, .inl fh5)), (h0, .inr (6, [.ref h1, .ref h6, .ref h2, .ref h3, .ref h4, .ref h5, .int rm])), (h6, .inl (ch6, 144, .inl fh6)), (h2, .inl (ch2, 4, .inl g_h2_4))] H_1 := hP
  have hD : va_D A [(h1, .inl (ch1, 48, .inl fh1)), (h3, .inl (ch3, 4, .inl fh3)), (h4, .inl (ch4, 4, .inl fh4)), (h5, .inl (ch5, 4, .inl fh5)), (h0, .inr (6, [.ref h1, .ref h6, .ref h2, .ref h3, .ref h4, .ref h5, .int rm])), (h6, .inl (ch6, 144, .inl fh6)), (h2, .inl (ch2, 4, .inl g_h2_4))] := hD
  clear hPc hDc hKc
  refine lv_istore_n (lv' := [(3, .int r_2), (0, .ref h0), (1, .int p1), (2, .int p2)]) hx hb dX6_putRight_6 rfl hl (by decide) rfl (fun ls hl => ?_)
  refine lv_iload_n hx hb dX6_putRight_7 rfl (lv_at hl 0 rfl) ?_
  refine lv_bipush (v := 40) hx hb dX6_putRight_8 (by decide) ?_
  refine lv_icmp_le (tgt := 15) hx hb dX6_putRight_10 (by decide) (fun c_5 => ?_) (fun c_5 => ?_)
  · have k_6 : (r_2).toInt ≤ (40 : Int) := z_le c_5
    refine lv_aload_n hx hb dX6_putRight_15 rfl (lv_at hl 1 rfl) ?_
    refine lv_iconst (v := (-1)) hx hb dX6_putRight_16 (by decide) ?_
    refine va_put (D := (dC, dI)) (ci := 6) (v := .int (-1)) (ty := .int) (C := RX6) (T := TX6) (N := 7) hx hb hts hiX6 tyX6 tyX6_ok nmX6 hown hK hP hD hS 4 rfl rfl 6 (by decide) w__fieldLink_RX6_30_ShellHeap_Readers_miss_I_ (fun _ h9 => h9) rfl (by decide +kernel) rfl rfl (Nat.le_of_ble_eq_true rfl) dX6_putRight_17 (fun H_7 locs hP hD hS => ?_)
    have hP : va_P (dC, dI) vwCl [(h1, .inl (ch1, 48, .inl fh1)), (h3, .inl (ch3, 4, .inl fh3)), (h4, .inl (ch4, 4, .inl fh4)), (h5, .inl (ch5, 4, .inl fh5)), (h0, .inr (6, [.ref h1, .ref h6, .ref h2, .ref h3, .ref h4, .ref h5, .int (-1)])), (h6, .inl (ch6, 144, .inl fh6)), (h2, .inl (ch2, 4, .inl g_h2_4))] H_7 := hP
    have hD : va_D A [(h1, .inl (ch1, 48, .inl fh1)), (h3, .inl (ch3, 4, .inl fh3)), (h4, .inl (ch4, 4, .inl fh4)), (h5, .inl (ch5, 4, .inl fh5)), (h0, .inr (6, [.ref h1, .ref h6, .ref h2, .ref h3, .ref h4, .ref h5, .int (-1)])), (h6, .inl (ch6, 144, .inl fh6)), (h2, .inl (ch2, 4, .inl g_h2_4))] := hD
    refine lv_iconst (v := 0) hx hb dX6_putRight_20 (by decide) ?_
    refine lv_istore (lv' := [(4, .int 0), (3, .int r_2), (0, .ref h0), (1, .int p1), (2, .int p2)]) hx hb dX6_putRight_21 hl (by decide) rfl (fun ls hl => ?_)
    have loop_8 : ∀ (n_9 : Nat) (i_11 : Int32) (v_12 : Int32) (f_13 : Nat → Int32) (f_14 : Nat → Int32) (f_15 : Nat → Int32) (H : Heap) (locs : List Loc) (ls : Array Slot), (42 - (i_11).toInt).toNat < n_9 → (((0 : Int) ≤ (i_11).toInt ∧ (i_11).toInt ≤ (41 : Int))) → va_P (dC, dI) vwCl [(h1, .inl (ch1, 48, .inl fh1)), (h3, .inl (ch3, 4, .inl f_13)), (h4, .inl (ch4, 4, .inl f_14)), (h5, .inl (ch5, 4, .inl f_15)), (h0, .inr (6, [.ref h1, .ref h6, .ref h2, .ref h3, .ref h4, .ref h5, .int v_12])), (h6, .inl (ch6, 144, .inl fh6)), (h2, .inl (ch2, 4, .inl g_h2_4))] H → va_D A [(h1, .inl (ch1, 48, .inl fh1)), (h3, .inl (ch3, 4, .inl f_13)), (h4, .inl (ch4, 4, .inl f_14)), (h5, .inl (ch5, 4, .inl f_15)), (h0, .inr (6, [.ref h1, .ref h6, .ref h2, .ref h3, .ref h4, .ref h5, .int v_12])), (h6, .inl (ch6, 144, .inl fh6)), (h2, .inl (ch2, 4, .inl g_h2_4))] → va_S A s.heap H locs → lv_has ls 6 [(4, .int i_11), (3, .int r_2), (0, .ref h0), (1, .int p1), (2, .int p2)] → W p l e ({ frames := 2, cells := 0, slots := 0, locals := 53 } : Room) s m ([.ref h0, .int p1, .int p2] : List Value).toArray below meth c H locs 0 0 QQ (F0 m 23 ls []) := by
      intro n_9
      induction n_9 with
      | zero => intro i_11 v_12 f_13 f_14 f_15 H locs ls hm; exact absurd hm (Nat.not_lt_zero _)
      | succ n_9 ih_10 =>
        intro i_11 v_12 f_13 f_14 f_15 H locs ls hm hF_16 hP hD hS hl
        refine lv_iload hx hb dX6_putRight_23 (lv_at hl 0 rfl) ?_
        refine lv_iload_n hx hb dX6_putRight_25 rfl (lv_at hl 1 rfl) ?_
        refine lv_icmp_gt (tgt := 69) hx hb dX6_putRight_26 (by decide) (fun c_17 => ?_) (fun c_17 => ?_)
        · have k_18 : (r_2).toInt < (i_11).toInt := z_lt c_17
          refine lv_iconst (v := 1) hx hb dX6_putRight_69 (by decide) ?_
          refine z_backQ hQQ ?_
          have hP9 := hP.sub (ws' := [(h0, .inr (6, [.ref h1, .ref h6, .ref h2, .ref h3, .ref h4, .ref h5, .int v_12])), (h1, .inl (ch1, 48, .inl fh1)), (h2, .inl (ch2, 4, .inl g_h2_4)), (h3, .inl (ch3, 4, .inl f_13)), (h4, .inl (ch4, 4, .inl f_14)), (h5, .inl (ch5, 4, .inl f_15)), (h6, .inl (ch6, 144, .inl fh6))]) [4, 0, 6, 1, 2, 3, 5] rfl
          have hD9 := hD.sub (ws' := [(h0, .inr (6, [.ref h1, .ref h6, .ref h2, .ref h3, .ref h4, .ref h5, .int v_12])), (h1, .inl (ch1, 48, .inl fh1)), (h2, .inl (ch2, 4, .inl g_h2_4)), (h3, .inl (ch3, 4, .inl f_13)), (h4, .inl (ch4, 4, .inl f_14)), (h5, .inl (ch5, 4, .inl f_15)), (h6, .inl (ch6, 144, .inl fh6))]) [4, 0, 6, 1, 2, 3, 5] (by decide) rfl
          have hK9 := hK.sub (tys' := []) [] rfl
          refine W.widen (k := 0) (n := 0) (Nat.le_of_ble_eq_true rfl) (Nat.le_of_ble_eq_true rfl) ?_
          exact W.zret (v := 1) hx hb hr (by rfl) (fun t ht hW => ⟨⟨1, (), rfl, (show ((0 : Int) ≤ (1 : Int) ∧ (1 : Int) ≤ (1 : Int)) by omega), ⟨v_12, g_h2_4, f_13, f_14, f_15, by rw [ht]; exact hP9, va_K.moved hW.alike hK9, hD9⟩⟩, hS.F ht⟩) hS.2.2 dX6_putRight_70
        · have k_19 : (r_2).toInt ≥ (i_11).toInt := z_nlt c_17
          refine lv_iconst (v := 0) hx hb dX6_putRight_29 (by decide) ?_
          refine lv_istore (lv' := [(5, .int 0), (4, .int i_11), (3, .int r_2), (0, .ref h0), (1, .int p1), (2, .int p2)]) hx hb dX6_putRight_30 hl (by decide) rfl (fun ls hl => ?_)
          have loop_20 : ∀ (n_21 : Nat) (j_23 : Int32) (v_24 : Int32) (f_25 : Nat → Int32) (f_26 : Nat → Int32) (f_27 : Nat → Int32) (H : Heap) (locs : List Loc) (ls : Array Slot), (42 - (j_23).toInt).toNat < n_21 → (((0 : Int) ≤ (j_23).toInt ∧ (j_23).toInt ≤ (41 : Int))) → va_P (dC, dI) vwCl [(h1, .inl (ch1, 48, .inl fh1)), (h3, .inl (ch3, 4, .inl f_25)), (h4, .inl (ch4, 4, .inl f_26)), (h5, .inl (ch5, 4, .inl f_27)), (h0, .inr (6, [.ref h1, .ref h6, .ref h2, .ref h3, .ref h4, .ref h5, .int v_24])), (h6, .inl (ch6, 144, .inl fh6)), (h2, .inl (ch2, 4, .inl g_h2_4))] H → va_D A [(h1, .inl (ch1, 48, .inl fh1)), (h3, .inl (ch3, 4, .inl f_25)), (h4, .inl (ch4, 4, .inl f_26)), (h5, .inl (ch5, 4, .inl f_27)), (h0, .inr (6, [.ref h1, .ref h6, .ref h2, .ref h3, .ref h4, .ref h5, .int v_24])), (h6, .inl (ch6, 144, .inl fh6)), (h2, .inl (ch2, 4, .inl g_h2_4))] → va_S A s.heap H locs → lv_has ls 6 [(5, .int j_23), (4, .int i_11), (3, .int r_2), (0, .ref h0), (1, .int p1), (2, .int p2)] → W p l e ({ frames := 2, cells := 0, slots := 0, locals := 53 } : Room) s m ([.ref h0, .int p1, .int p2] : List Value).toArray below meth c H locs 0 0 QQ (F0 m 32 ls []) := by
            intro n_21
            induction n_21 with
            | zero => intro j_23 v_24 f_25 f_26 f_27 H locs ls hm; exact absurd hm (Nat.not_lt_zero _)
            | succ n_21 ih_22 =>
              intro j_23 v_24 f_25 f_26 f_27 H locs ls hm hF_28 hP hD hS hl
              refine lv_iload hx hb dX6_putRight_32 (lv_at hl 1 rfl) ?_
              refine lv_iload hx hb dX6_putRight_34 (lv_at hl 0 rfl) ?_
              refine lv_iadd hx hb dX6_putRight_36 ?_
              refine lv_topi (fun z_29 ez_29 => ?_)
              have kz_29 : (z_29).toInt = (i_11).toInt + (j_23).toInt := by rw [ez_29]; exact z_add (a := (i_11).toInt) (b := (j_23).toInt) rfl rfl (by omega) (by omega)
              refine lv_iload_n hx hb dX6_putRight_37 rfl (lv_at hl 2 rfl) ?_
              refine lv_icmp_gt (tgt := 63) hx hb dX6_putRight_38 (by decide) (fun c_30 => ?_) (fun c_30 => ?_)
              · have k_31 : (r_2).toInt < (z_29).toInt := z_lt c_30
                obtain ⟨z_32, ez_32⟩ : ∃ y : Int32, y = i_11 + 1 := ⟨_, rfl⟩
                have kz_32 : (z_32).toInt = (i_11).toInt + (1 : Int) := by rw [ez_32]; exact z_add (b := 1) rfl rfl (by omega) (by omega)
                refine lv_iinc (v := z_32) (lv' := [(4, .int z_32), (5, .int j_23), (3, .int r_2), (0, .ref h0), (1, .int p1), (2, .int p2)]) hx hb dX6_putRight_63 hl (k := 1) rfl (by rw [ez_32]; rfl) (by decide) rfl (fun ls hl => ?_)
                refine lv_goto (tgt := 23) hx hb dX6_putRight_66 (by decide) ?_
                exact ih_10 z_32 v_24 f_25 f_26 f_27 _ _ _ (show (42 - (z_32).toInt).toNat < n_9 by omega) (show ((0 : Int) ≤ (z_32).toInt ∧ (z_32).toInt ≤ (41 : Int)) by omega) hP hD hS (lv_sub hl [0, 2, 3, 4, 5] rfl)
              · have k_33 : (r_2).toInt ≥ (z_29).toInt := z_nlt c_30
                refine lv_aload_n hx hb dX6_putRight_41 rfl (lv_at hl 3 rfl) ?_
                refine lv_iload_n hx hb dX6_putRight_42 rfl (lv_at hl 5 rfl) ?_
                refine lv_iload hx hb dX6_putRight_43 (lv_at hl 1 rfl) ?_
                refine lv_iload hx hb dX6_putRight_45 (lv_at hl 0 rfl) ?_
                refine lv_iload_n hx hb dX6_putRight_47 rfl (lv_at hl 2 rfl) ?_
                refine lv_iload hx hb dX6_putRight_48 (lv_at hl 1 rfl) ?_
                refine lv_isub hx hb dX6_putRight_50 ?_
                refine lv_topi (fun z_34 ez_34 => ?_)
                have kz_34 : (z_34).toInt = (r_2).toInt - (i_11).toInt := by rw [ez_34]; exact z_sub (a := (r_2).toInt) (b := (i_11).toInt) rfl rfl (by omega) (by omega)
                refine lv_iload hx hb dX6_putRight_51 (lv_at hl 0 rfl) ?_
                refine lv_isub hx hb dX6_putRight_53 ?_
                refine lv_topi (fun z_35 ez_35 => ?_)
                have kz_35 : (z_35).toInt = (z_34).toInt - (j_23).toInt := by rw [ez_35]; exact z_sub (a := (z_34).toInt) (b := (j_23).toInt) rfl rfl (by omega) (by omega)
                have hPc := hP.sub (ws' := [(h0, .inr (6, [.ref h1, .ref h6, .ref h2, .ref h3, .ref h4, .ref h5, .int v_24])), (h1, .inl (ch1, 48, .inl fh1)), (h2, .inl (ch2, 4, .inl g_h2_4)), (h3, .inl (ch3, 4, .inl f_25)), (h4, .inl (ch4, 4, .inl f_26)), (h5, .inl (ch5, 4, .inl f_27))]) [4, 0, 6, 1, 2, 3] rfl
                have hDc := hD.sub (ws' := [(h0, .inr (6, [.ref h1, .ref h6, .ref h2, .ref h3, .ref h4, .ref h5, .int v_24])), (h1, .inl (ch1, 48, .inl fh1)), (h2, .inl (ch2, 4, .inl g_h2_4)), (h3, .inl (ch3, 4, .inl f_25)), (h4, .inl (ch4, 4, .inl f_26)), (h5, .inl (ch5, 4, .inl f_27))]) [4, 0, 6, 1, 2, 3] (by decide) rfl
                have hKc := hK.sub (tys' := [(ch1, .int), (ch2, .int), (ch3, .int), (ch4, .int), (ch5, .int)]) [0, 1, 2, 3, 4] rfl
                have hFc := va_free (wc := [(h0, .inr (6, [.ref h1, .ref h6, .ref h2, .ref h3, .ref h4, .ref h5, .int v_24])), (h1, .inl (ch1, 48, .inl fh1)), (h2, .inl (ch2, 4, .inl g_h2_4)), (h3, .inl (ch3, 4, .inl f_25)), (h4, .inl (ch4, 4, .inl f_26)), (h5, .inl (ch5, 4, .inl f_27))]) hD hS hA [4, 0, 6, 1, 2, 3] rfl
                refine va_callv (va_runV (As := [.int p2, .int i_11, .int j_23, .int z_35]) (rest := []) ⟨hx, hb, hml, hown, hts⟩ (s_X6_tryPair l dC dI H.size h0 p2 i_11 j_23 z_35 h1 (.ref h6) h2 h3 h4 h5 v_24 ch1 fh1 ch2 g_h2_4 ch3 f_25 ch4 f_26 ch5 f_27 (by first | omega | decide)) (cwV 4 hts gw_s_X6_putRight_s_X6_tryPair_38 rfl rfl rfl (by decide +kernel) ⟨Nat.le_of_ble_eq_true rfl, Nat.le_of_ble_eq_true rfl⟩) ⟨z_blind, va_recv hKc hPc (ci := 6) (q0 := 0) rfl rfl, z_pre hPc hKc hDc⟩ rfl rfl hl.1 rfl (lv_room (Nat.le_of_ble_eq_true rfl)) dX6_putRight_54 ⟨Nat.le_of_ble_eq_true rfl, Nat.le_of_ble_eq_true rfl⟩) hS (fun q _ h => hFc q h) hFc (fun u t H_36 locs ht hvm hw_38 hB hz1 hk1 hS => ?_)
                obtain ⟨n_h0_miss_39, g_h3_40, g_h4_41, g_h5_42, hP1, hK1, hD1⟩ := hB
                rw [ht] at hP1
                have hK1 := va_K.moved hvm.symm hK1
                obtain ⟨hP, hD⟩ := va_join (wr := [(h6, .inl (ch6, 144, .inl fh6))]) (w1 := [(h0, .inr (6, [.ref h1, .ref h6, .ref h2, .ref h3, .ref h4, .ref h5, .int n_h0_miss_39])), (h1, .inl (ch1, 48, .inl fh1)), (h2, .inl (ch2, 4, .inl g_h2_4)), (h3, .inl (ch3, 4, .inl g_h3_40)), (h4, .inl (ch4, 4, .inl g_h4_41)), (h5, .inl (ch5, 4, .inl g_h5_42))]) hP hD [4, 0, 6, 1, 2, 3] [5] rfl rfl (by decide) (by decide) hk1 hFc hP1 hD1
                have hP : va_P (dC, dI) vwCl [(h6, .inl (ch6, 144, .inl fh6)), (h0, .inr (6, [.ref h1, .ref h6, .ref h2, .ref h3, .ref h4, .ref h5, .int n_h0_miss_39])), (h1, .inl (ch1, 48, .inl fh1)), (h2, .inl (ch2, 4, .inl g_h2_4)), (h3, .inl (ch3, 4, .inl g_h3_40)), (h4, .inl (ch4, 4, .inl g_h4_41)), (h5, .inl (ch5, 4, .inl g_h5_42))] H_36 := hP
                have hD : va_D A [(h6, .inl (ch6, 144, .inl fh6)), (h0, .inr (6, [.ref h1, .ref h6, .ref h2, .ref h3, .ref h4, .ref h5, .int n_h0_miss_39])), (h1, .inl (ch1, 48, .inl fh1)), (h2, .inl (ch2, 4, .inl g_h2_4)), (h3, .inl (ch3, 4, .inl g_h3_40)), (h4, .inl (ch4, 4, .inl g_h4_41)), (h5, .inl (ch5, 4, .inl g_h5_42))] := hD
                clear hPc hDc hKc
                obtain ⟨z_43, ez_43⟩ : ∃ y : Int32, y = j_23 + 1 := ⟨_, rfl⟩
                have kz_43 : (z_43).toInt = (j_23).toInt + (1 : Int) := by rw [ez_43]; exact z_add (b := 1) rfl rfl (by omega) (by omega)
                refine lv_iinc (v := z_43) (lv' := [(5, .int z_43), (4, .int i_11), (3, .int r_2), (0, .ref h0), (1, .int p1), (2, .int p2)]) hx hb dX6_putRight_57 hl (k := 0) rfl (by rw [ez_43]; rfl) (by decide) rfl (fun ls hl => ?_)
                refine lv_goto (tgt := 32) hx hb dX6_putRight_60 (by decide) ?_
                exact ih_22 z_43 n_h0_miss_39 g_h3_40 g_h4_41 g_h5_42 _ _ _ (show (42 - (z_43).toInt).toNat < n_21 by omega) (show ((0 : Int) ≤ (z_43).toInt ∧ (z_43).toInt ≤ (41 : Int)) by omega) (hP.sub (ws' := [(h1, .inl (ch1, 48, .inl fh1)), (h3, .inl (ch3, 4, .inl g_h3_40)), (h4, .inl (ch4, 4, .inl g_h4_41)), (h5, .inl (ch5, 4, .inl g_h5_42)), (h0, .inr (6, [.ref h1, .ref h6, .ref h2, .ref h3, .ref h4, .ref h5, .int n_h0_miss_39])), (h6, .inl (ch6, 144, .inl fh6)), (h2, .inl (ch2, 4, .inl g_h2_4))]) [2, 4, 5, 6, 1, 0, 3] rfl) (hD.sub (ws' := [(h1, .inl (ch1, 48, .inl fh1)), (h3, .inl (ch3, 4, .inl g_h3_40)), (h4, .inl (ch4, 4, .inl g_h4_41)), (h5, .inl (ch5, 4, .inl g_h5_42)), (h0, .inr (6, [.ref h1, .ref h6, .ref h2, .ref h3, .ref h4, .ref h5, .int n_h0_miss_39])), (h6, .inl (ch6, 144, .inl fh6)), (h2, .inl (ch2, 4, .inl g_h2_4))]) [2, 4, 5, 6, 1, 0, 3] (by decide) rfl) hS (lv_sub hl [0, 1, 2, 3, 4, 5] rfl)
          exact loop_20 _ 0 v_12 f_13 f_14 f_15 _ _ _ (Nat.lt_succ_self _) (show ((0 : Int) ≤ (0 : Int) ∧ (0 : Int) ≤ (41 : Int)) by omega) hP hD hS hl
    exact loop_8 _ 0 (-1) fh3 fh4 fh5 _ _ _ (Nat.lt_succ_self _) (show ((0 : Int) ≤ (0 : Int) ∧ (0 : Int) ≤ (41 : Int)) by omega) hP hD hS hl
  · have k_44 : (r_2).toInt > (40 : Int) := z_nle c_5
    refine lv_iconst (v := 0) hx hb dX6_putRight_13 (by decide) ?_
    refine z_backQ hQQ ?_
    have hP9 := hP.sub (ws' := [(h0, .inr (6, [.ref h1, .ref h6, .ref h2, .ref h3, .ref h4, .ref h5, .int rm])), (h1, .inl (ch1, 48, .inl fh1)), (h2, .inl (ch2, 4, .inl g_h2_4)), (h3, .inl (ch3, 4, .inl fh3)), (h4, .inl (ch4, 4, .inl fh4)), (h5, .inl (ch5, 4, .inl fh5)), (h6, .inl (ch6, 144, .inl fh6))]) [4, 0, 6, 1, 2, 3, 5] rfl
    have hD9 := hD.sub (ws' := [(h0, .inr (6, [.ref h1, .ref h6, .ref h2, .ref h3, .ref h4, .ref h5, .int rm])), (h1, .inl (ch1, 48, .inl fh1)), (h2, .inl (ch2, 4, .inl g_h2_4)), (h3, .inl (ch3, 4, .inl fh3)), (h4, .inl (ch4, 4, .inl fh4)), (h5, .inl (ch5, 4, .inl fh5)), (h6, .inl (ch6, 144, .inl fh6))]) [4, 0, 6, 1, 2, 3, 5] (by decide) rfl
    have hK9 := hK.sub (tys' := []) [] rfl
    refine W.widen (k := 0) (n := 0) (Nat.le_of_ble_eq_true rfl) (Nat.le_of_ble_eq_true rfl) ?_
    exact W.zret (v := 0) hx hb hr (by rfl) (fun t ht hW => ⟨⟨0, (), rfl, (show ((0 : Int) ≤ (0 : Int) ∧ (0 : Int) ≤ (1 : Int)) by omega), ⟨rm, g_h2_4, fh3, fh4, fh5, by rw [ht]; exact hP9, va_K.moved hW.alike hK9, hD9⟩⟩, hS.F ht⟩) hS.2.2 dX6_putRight_14
def u_s_X6_seasonsMet : List Cond := .code yX6_seasonsMet cX6_seasonsMet 5 (some .int) :: ([.methodLink RX6 51 yX6_putRight, .instanceMethod yX6_putRight, .selects RX6 yX6_putRight yX6_putRight, .initialized RX6, .code yX6_putRight cX6_putRight 6 (some .boolean), .methodLink RX6 34 yX6_sum, .instanceMethod yX6_sum, .selects RX6 yX6_sum yX6_sum, .code yX6_sum cX6_sum 6 (some .int), .fieldLink RX6 18 "ShellHeap$Readers" "ofBed" "[I", .fieldLink RX6 15 "ShellHeap$Readers" "told" "[I", .fieldLink RX6 30 "ShellHeap$Readers" "miss" "I", .methodLink RX6 38 yX6_tryPair, .instanceMethod yX6_tryPair, .selects RX6 yX6_tryPair yX6_tryPair, .code yX6_tryPair cX6_tryPair 10 none, .methodLink RX6 47 yX6_missAt, .instanceMethod yX6_missAt, .selects RX6 yX6_missAt yX6_missAt, .code yX6_missAt cX6_missAt 5 (some .int), .fieldLink RX6 21 "ShellHeap$Readers" "gaps" "[I", .fieldLink RX6 24 "ShellHeap$Readers" "steps" "[I", .fieldLink RX6 27 "ShellHeap$Readers" "died" "[I", .methodLink RX6 42 Lib.Math.min.name, .static Lib.Math.min.name, .initialized "java/lang/Math", .code Lib.Math.min.name Lib.Math.min.code 2 (some .int), .fieldLink RX6 11 "ShellHeap$Readers" "rows" "[I"] ++ wsX60)
set_option maxRecDepth 20000 in
theorem gw_s_X6_seasonsMet_s_X6_putRight_51 : GoodIn u_s_X6_seasonsMet (wsV RX6 51 RX6 yX6_putRight u_s_X6_putRight) := goodIn_r _ [1, 2, 3, 4, 5, 6, 7, 8, 4, 9, 10, 11, 12, 13, 14, 15, 16, 17, 18, 19, 20, 21, 22, 23, 24, 25, 26, 27, 28, 29, 30, 31, 32, 33, 34, 35] (by decide +kernel) (by decide +kernel)
set_option maxHeartbeats 4000000 in
set_option maxRecDepth 100000 in
theorem s_X6_seasonsMet (l : Launch) (dC : Nat → ClassId) (dI : Nat → Nat → Nat) (sz : Nat) (h0 : Nat) (p1 : Int32) (h1 : Nat) (h6 : Nat) (h2 : Nat) (h3 : Nat) (h4 : Nat) (h5 : Nat) (rm : Int32) (ch1 : ClassId) (fh1 : Nat → Int32) (ch2 : ClassId) (fh2 : Nat → Int32) (ch3 : ClassId) (fh3 : Nat → Int32) (ch4 : ClassId) (fh4 : Nat → Int32) (ch5 : ClassId) (fh5 : Nat → Int32) (ch6 : ClassId) (fh6 : Nat → Int32) : Met l yX6_seasonsMet u_s_X6_seasonsMet ({ frames := 3, cells := 0, slots := 0, locals := 78 }) (va_Pc [.ref h0, .int p1] (z_C (dC, dI) vwCl [(h0, .inr (6, [.ref h1, .ref h6, .ref h2, .ref h3, .ref h4, .ref h5, .int rm])), (h1, .inl (ch1, 48, .inl fh1)), (h2, .inl (ch2, 4, .inl fh2)), (h3, .inl (ch3, 4, .inl fh3)), (h4, .inl (ch4, 4, .inl fh4)), (h5, .inl (ch5, 4, .inl fh5)), (h6, .inl (ch6, 144, .inl fh6))] [(ch1, .int), (ch2, .int), (ch3, .int), (ch4, .int), (ch5, .int), (ch6, .int)] sz)) (va_Qi (fun (r : Int32) (_ : Unit) => True) (fun (_ : Unit) (t : State) => ∃ (n_h0_miss : Int32), ∃ (g_h2 : Nat → Int32), ∃ (g_h3 : Nat → Int32), ∃ (g_h4 : Nat → Int32), ∃ (g_h5 : Nat → Int32), va_P (dC, dI) vwCl [(h0, .inr (6, [.ref h1, .ref h6, .ref h2, .ref h3, .ref h4, .ref h5, .int n_h0_miss])), (h1, .inl (ch1, 48, .inl fh1)), (h2, .inl (ch2, 4, .inl g_h2)), (h3, .inl (ch3, 4, .inl g_h3)), (h4, .inl (ch4, 4, .inl g_h4)), (h5, .inl (ch5, 4, .inl g_h5)), (h6, .inl (ch6, 144, .inl fh6))] t.heap ∧ va_K (dC, dI) vwCl [] t ∧ va_D (va_A [(h0, .inr (6, [.ref h1, .ref h6, .ref h2, .ref h3, .ref h4, .ref h5, .int rm])), (h1, .inl (ch1, 48, .inl fh1)), (h2, .inl (ch2, 4, .inl fh2)), (h3, .inl (ch3, 4, .inl fh3)), (h4, .inl (ch4, 4, .inl fh4)), (h5, .inl (ch5, 4, .inl fh5)), (h6, .inl (ch6, 144, .inl fh6))] sz) [(h0, .inr (6, [.ref h1, .ref h6, .ref h2, .ref h3, .ref h4, .ref h5, .int n_h0_miss])), (h1, .inl (ch1, 48, .inl fh1)), (h2, .inl (ch2, 4, .inl g_h2)), (h3, .inl (ch3, 4, .inl g_h3)), (h4, .inl (ch4, 4, .inl g_h4)), (h5, .inl (ch5, 4, .inl g_h5)), (h6, .inl (ch6, 144, .inl fh6))]) (va_A [(h0, .inr (6, [.ref h1, .ref h6, .ref h2, .ref h3, .ref h4, .ref h5, .int rm])), (h1, .inl (ch1, 48, .inl fh1)), (h2, .inl (ch2, 4, .inl fh2)), (h3, .inl (ch3, 4, .inl fh3)), (h4, .inl (ch4, 4, .inl fh4)), (h5, .inl (ch5, 4, .inl fh5)), (h6, .inl (ch6, 144, .inl fh6))] sz)) 0 0 (va_A [(h0, .inr (6, [.ref h1, .ref h6, .ref h2, .ref h3, .ref h4, .ref h5, .int rm])), (h1, .inl (ch1, 48, .inl fh1)), (h2, .inl (ch2, 4, .inl fh2)), (h3, .inl (ch3, 4, .inl fh3)), (h4, .inl (ch4, 4, .inl fh4)), (h5, .inl (ch5, 4, .inl fh5)), (h6, .inl (ch6, 144, .inl fh6))] sz) := by
  refine Met.ofW (cc := cX6_seasonsMet) (maxL := 5) (ret := (some .int)) (by decide) rfl ?_
  intro p e s m args below meth c s₁ B hml hv
  obtain ⟨rfl, hsz, hP, hK, hD0⟩ := hv
  have hx := B.exec
  have hb := B.bytes
  have hr := B.returns
  have hts := atoms_spec (ws := u_s_X6_seasonsMet) B.pre
  have hown : s.vm.findClass RX6 = some m.cls := findClass_of_methodNamed B.named
  have hlocks := B.notSynchronized
  subst hsz
  have hD := hD0.self (sz := s.heap.size)
  generalize hAe : va_A [(h0, .inr (6, [.ref h1, .ref h6, .ref h2, .ref h3, .ref h4, .ref h5, .int rm])), (h1, .inl (ch1, 48, .inl fh1)), (h2, .inl (ch2, 4, .inl fh2)), (h3, .inl (ch3, 4, .inl fh3)), (h4, .inl (ch4, 4, .inl fh4)), (h5, .inl (ch5, 4, .inl fh5)), (h6, .inl (ch6, 144, .inl fh6))] s.heap.size = A at hD ⊢
  have hA : ∀ q : Nat, s.heap.size ≤ q → A q := fun q h => by rw [← hAe]; exact Or.inr h
  have hS : va_S A s.heap s.heap [] := va_S.rf
  have hP : va_P (dC, dI) vwCl [(h0, .inr (6, [.ref h1, .ref h6, .ref h2, .ref h3, .ref h4, .ref h5, .int rm])), (h1, .inl (ch1, 48, .inl fh1)), (h2, .inl (ch2, 4, .inl fh2)), (h3, .inl (ch3, 4, .inl fh3)), (h4, .inl (ch4, 4, .inl fh4)), (h5, .inl (ch5, 4, .inl fh5)), (h6, .inl (ch6, 144, .inl fh6))] s.heap := hP
  have w__fieldLink_RX6_27_ShellHeap_Readers_died_I_ := hts (.fieldLink RX6 27 "ShellHeap$Readers" "died" "[I") (by decide +kernel)
  have hiX6 := show ∀ w ∈ u_ws RX6 TX6 7, w ∈ u_s_X6_seasonsMet by decide +kernel
  have krr_p1 := z_rng p1
  have hl := lv_entry ([.ref h0, .int p1]) (n := 5) (Nat.le_of_ble_eq_true rfl)
  rw [lg_entry_eq]
  generalize (lg_sl ([.ref h0, .int p1]) ++ List.replicate (5 - (lg_sl ([.ref h0, .int p1])).length) Slot.unset).toArray = ls at hl ⊢
  have hl : lv_has ls 5 [(0, .ref h0), (1, .int p1)] := hl
  refine z_nameQ (fun QQ hQQ => ?_)
  refine lv_iconst (v := 0) hx hb dX6_seasonsMet_0 (by decide) ?_
  refine lv_istore_n (lv' := [(2, .int 0), (0, .ref h0), (1, .int p1)]) hx hb dX6_seasonsMet_1 rfl hl (by decide) rfl (fun ls hl => ?_)
  refine lv_iconst (v := 0) hx hb dX6_seasonsMet_2 (by decide) ?_
  refine lv_istore_n (lv' := [(3, .int 0), (2, .int 0), (0, .ref h0), (1, .int p1)]) hx hb dX6_seasonsMet_3 rfl hl (by decide) rfl (fun ls hl => ?_)
  have loop_1 : ∀ (n_2 : Nat) (i_4 : Int32) (n_5 : Int32) (v_6 : Int32) (f_7 : Nat → Int32) (f_8 : Nat → Int32) (f_9 : Nat → Int32) (f_10 : Nat → Int32) (H : Heap) (locs : List Loc) (ls : Array Slot), (4 - (i_4).toInt).toNat < n_2 → (((0 : Int) ≤ (i_4).toInt ∧ (i_4).toInt ≤ (3 : Int))) → va_P (dC, dI) vwCl [(h0, .inr (6, [.ref h1, .ref h6, .ref h2, .ref h3, .ref h4, .ref h5, .int v_6])), (h1, .inl (ch1, 48, .inl fh1)), (h2, .inl (ch2, 4, .inl f_7)), (h3, .inl (ch3, 4, .inl f_8)), (h4, .inl (ch4, 4, .inl f_9)), (h5, .inl (ch5, 4, .inl f_10)), (h6, .inl (ch6, 144, .inl fh6))] H → va_D A [(h0, .inr (6, [.ref h1, .ref h6, .ref h2, .ref h3, .ref h4, .ref h5, .int v_6])), (h1, .inl (ch1, 48, .inl fh1)), (h2, .inl (ch2, 4, .inl f_7)), (h3, .inl (ch3, 4, .inl f_8)), (h4, .inl (ch4, 4, .inl f_9)), (h5, .inl (ch5, 4, .inl f_10)), (h6, .inl (ch6, 144, .inl fh6))] → va_S A s.heap H locs → lv_has ls 5 [(3, .int i_4), (2, .int n_5), (0, .ref h0), (1, .int p1)] → W p l e ({ frames := 3, cells := 0, slots := 0, locals := 78 } : Room) s m ([.ref h0, .int p1] : List Value).toArray below meth c H locs 0 0 QQ (F0 m 4 ls []) := by
    intro n_2
    induction n_2 with
    | zero => intro i_4 n_5 v_6 f_7 f_8 f_9 f_10 H locs ls hm; exact absurd hm (Nat.not_lt_zero _)
    | succ n_2 ih_3 =>
      intro i_4 n_5 v_6 f_7 f_8 f_9 f_10 H locs ls hm hF_11 hP hD hS hl
      refine lv_iload_n hx hb dX6_seasonsMet_4 rfl (lv_at hl 0 rfl) ?_
      refine lv_iconst (v := 3) hx hb dX6_seasonsMet_5 (by decide) ?_
      refine lv_icmp_ge (tgt := 58) hx hb dX6_seasonsMet_6 (by decide) (fun c_12 => ?_) (fun c_12 => ?_)
      · have k_13 : (3 : Int) ≤ (i_4).toInt := z_le c_12
        obtain rfl : i_4 = 3 := z_eq' (show (i_4).toInt = (3 : Int) by omega)
        refine lv_iload_n hx hb dX6_seasonsMet_58 rfl (lv_at hl 1 rfl) ?_
        refine z_backQ hQQ ?_
        have hP9 := hP.sub (ws' := [(h0, .inr (6, [.ref h1, .ref h6, .ref h2, .ref h3, .ref h4, .ref h5, .int v_6])), (h1, .inl (ch1, 48, .inl fh1)), (h2, .inl (ch2, 4, .inl f_7)), (h3, .inl (ch3, 4, .inl f_8)), (h4, .inl (ch4, 4, .inl f_9)), (h5, .inl (ch5, 4, .inl f_10)), (h6, .inl (ch6, 144, .inl fh6))]) [0, 1, 2, 3, 4, 5, 6] rfl
        have hD9 := hD.sub (ws' := [(h0, .inr (6, [.ref h1, .ref h6, .ref h2, .ref h3, .ref h4, .ref h5, .int v_6])), (h1, .inl (ch1, 48, .inl fh1)), (h2, .inl (ch2, 4, .inl f_7)), (h3, .inl (ch3, 4, .inl f_8)), (h4, .inl (ch4, 4, .inl f_9)), (h5, .inl (ch5, 4, .inl f_10)), (h6, .inl (ch6, 144, .inl fh6))]) [0, 1, 2, 3, 4, 5, 6] (by decide) rfl
        have hK9 := hK.sub (tys' := []) [] rfl
        refine W.widen (k := 0) (n := 0) (Nat.le_of_ble_eq_true rfl) (Nat.le_of_ble_eq_true rfl) ?_
        exact W.iret (v := n_5) hx hb hr (fun t ht hW => ⟨⟨n_5, (), rfl, trivial, ⟨v_6, f_7, f_8, f_9, f_10, by rw [ht]; exact hP9, va_K.moved hW.alike hK9, hD9⟩⟩, hS.F ht⟩) hS.2.2 dX6_seasonsMet_59
      · have k_14 : (3 : Int) > (i_4).toInt := z_nle c_12
        refine lv_aload_n hx hb dX6_seasonsMet_9 rfl (lv_at hl 2 rfl) ?_
        refine lv_iload_n hx hb dX6_seasonsMet_10 rfl (lv_at hl 3 rfl) ?_
        refine lv_iload_n hx hb dX6_seasonsMet_11 rfl (lv_at hl 0 rfl) ?_
        have hPc := hP.sub (ws' := [(h0, .inr (6, [.ref h1, .ref h6, .ref h2, .ref h3, .ref h4, .ref h5, .int v_6])), (h1, .inl (ch1, 48, .inl fh1)), (h2, .inl (ch2, 4, .inl f_7)), (h3, .inl (ch3, 4, .inl f_8)), (h4, .inl (ch4, 4, .inl f_9)), (h5, .inl (ch5, 4, .inl f_10)), (h6, .inl (ch6, 144, .inl fh6))]) [0, 1, 2, 3, 4, 5, 6] rfl
        have hDc := hD.sub (ws' := [(h0, .inr (6, [.ref h1, .ref h6, .ref h2, .ref h3, .ref h4, .ref h5, .int v_6])), (h1, .inl (ch1, 48, .inl fh1)), (h2, .inl (ch2, 4, .inl f_7)), (h3, .inl (ch3, 4, .inl f_8)), (h4, .inl (ch4, 4, .inl f_9)), (h5, .inl (ch5, 4, .inl f_10)), (h6, .inl (ch6, 144, .inl fh6))]) [0, 1, 2, 3, 4, 5, 6] (by decide) rfl
        have hKc := hK.sub (tys' := [(ch1, .int), (ch2, .int), (ch3, .int), (ch4, .int), (ch5, .int), (ch6, .int)]) [0, 1, 2, 3, 4, 5] rfl
        have hFc := va_free (wc := [(h0, .inr (6, [.ref h1, .ref h6, .ref h2, .ref h3, .ref h4, .ref h5, .int v_6])), (h1, .inl (ch1, 48, .inl fh1)), (h2, .inl (ch2, 4, .inl f_7)), (h3, .inl (ch3, 4, .inl f_8)), (h4, .inl (ch4, 4, .inl f_9)), (h5, .inl (ch5, 4, .inl f_10)), (h6, .inl (ch6, 144, .inl fh6))]) hD hS hA [0, 1, 2, 3, 4, 5, 6] rfl
        refine va_calli (va_runV (As := [.int p1, .int i_4]) (rest := []) ⟨hx, hb, hml, hown, hts⟩ (s_X6_putRight l dC dI H.size h0 p1 i_4 h1 h6 h2 h3 h4 h5 v_6 ch1 fh1 ch2 f_7 ch3 f_8 ch4 f_9 ch5 f_10 ch6 fh6 (by first | omega | decide)) (cwV 2 hts gw_s_X6_seasonsMet_s_X6_putRight_51 rfl rfl rfl (by decide +kernel) ⟨Nat.le_of_ble_eq_true rfl, Nat.le_of_ble_eq_true rfl⟩) ⟨z_blind, va_recv hKc hPc (ci := 6) (q0 := 0) rfl rfl, z_pre hPc hKc hDc⟩ rfl rfl hl.1 rfl (lv_room (Nat.le_of_ble_eq_true rfl)) dX6_seasonsMet_12 ⟨Nat.le_of_ble_eq_true rfl, Nat.le_of_ble_eq_true rfl⟩) hS (fun q _ h => hFc q h) hFc (fun r_16 u t H_15 locs ht hvm hw_17 hB hz1 hk1 hS => ?_)
        obtain ⟨n_h0_miss_18, g_h2_19, g_h3_20, g_h4_21, g_h5_22, hP1, hK1, hD1⟩ := hB
        rw [ht] at hP1
        have hK1 := va_K.moved hvm.symm hK1
        obtain ⟨hP, hD⟩ := va_join (wr := []) (w1 := [(h0, .inr (6, [.ref h1, .ref h6, .ref h2, .ref h3, .ref h4, .ref h5, .int n_h0_miss_18])), (h1, .inl (ch1, 48, .inl fh1)), (h2, .inl (ch2, 4, .inl g_h2_19)), (h3, .inl (ch3, 4, .inl g_h3_20)), (h4, .inl (ch4, 4, .inl g_h4_21)), (h5, .inl (ch5, 4, .inl g_h5_22)), (h6, .inl (ch6, 144, .inl fh6))]) hP hD [0, 1, 2, 3, 4, 5, 6] [] rfl rfl (by decide) (by decide) hk1 hFc hP1 hD1
        have hP : va_P (dC, dI) vwCl [(h0, .inr (6, [.ref h1, .ref h6, .ref h2, .ref h3, .ref h4, .ref h5, .int n_h0_miss_18])), (h1, .inl (ch1, 48, .inl fh1)), (h2, .inl (ch2, 4, .inl g_h2_19)), (h3, .inl (ch3, 4, .inl g_h3_20)), (h4, .inl (ch4, 4, .inl g_h4_21)), (h5, .inl (ch5, 4, .inl g_h5_22)), (h6, .inl (ch6, 144, .inl fh6))] H_15 := hP
        have hD : va_D A [(h0, .inr (6, [.ref h1, .ref h6, .ref h2, .ref h3, .ref h4, .ref h5, .int n_h0_miss_18])), (h1, .inl (ch1, 48, .inl fh1)), (h2, .inl (ch2, 4, .inl g_h2_19)), (h3, .inl (ch3, 4, .inl g_h3_20)), (h4, .inl (ch4, 4, .inl g_h4_21)), (h5, .inl (ch5, 4, .inl g_h5_22)), (h6, .inl (ch6, 144, .inl fh6))] := hD
        clear hPc hDc hKc
        refine lv_if_ne (tgt := 20) hx hb dX6_seasonsMet_15 (by decide) (fun c_23 => ?_) (fun c_23 => ?_)
        · have k_24 : (r_16).toInt ≠ (0 : Int) := z_ne c_23
          obtain rfl : r_16 = 1 := z_eq' (show (r_16).toInt = (1 : Int) by omega)
          refine lv_iconst (v := 0) hx hb dX6_seasonsMet_20 (by decide) ?_
          refine lv_istore (lv' := [(4, .int 0), (3, .int i_4), (2, .int n_5), (0, .ref h0), (1, .int p1)]) hx hb dX6_seasonsMet_21 hl (by decide) rfl (fun ls hl => ?_)
          have loop_25 : ∀ (n_26 : Nat) (i_28 : Int32) (n_29 : Int32) (H : Heap) (locs : List Loc) (ls : Array Slot), (5 - (i_28).toInt).toNat < n_26 → (((0 : Int) ≤ (i_28).toInt ∧ (i_28).toInt ≤ (4 : Int))) → va_P (dC, dI) vwCl [(h0, .inr (6, [.ref h1, .ref h6, .ref h2, .ref h3, .ref h4, .ref h5, .int n_h0_miss_18])), (h1, .inl (ch1, 48, .inl fh1)), (h2, .inl (ch2, 4, .inl g_h2_19)), (h3, .inl (ch3, 4, .inl g_h3_20)), (h4, .inl (ch4, 4, .inl g_h4_21)), (h5, .inl (ch5, 4, .inl g_h5_22)), (h6, .inl (ch6, 144, .inl fh6))] H → va_D A [(h0, .inr (6, [.ref h1, .ref h6, .ref h2, .ref h3, .ref h4, .ref h5, .int n_h0_miss_18])), (h1, .inl (ch1, 48, .inl fh1)), (h2, .inl (ch2, 4, .inl g_h2_19)), (h3, .inl (ch3, 4, .inl g_h3_20)), (h4, .inl (ch4, 4, .inl g_h4_21)), (h5, .inl (ch5, 4, .inl g_h5_22)), (h6, .inl (ch6, 144, .inl fh6))] → va_S A s.heap H locs → lv_has ls 5 [(4, .int i_28), (3, .int i_4), (2, .int n_29), (0, .ref h0), (1, .int p1)] → W p l e ({ frames := 3, cells := 0, slots := 0, locals := 78 } : Room) s m ([.ref h0, .int p1] : List Value).toArray below meth c H locs 0 0 QQ (F0 m 23 ls []) := by
            intro n_26
            induction n_26 with
            | zero => intro i_28 n_29 H locs ls hm; exact absurd hm (Nat.not_lt_zero _)
            | succ n_26 ih_27 =>
              intro i_28 n_29 H locs ls hm hF_30 hP hD hS hl
              refine lv_iload hx hb dX6_seasonsMet_23 (lv_at hl 0 rfl) ?_
              refine lv_iconst (v := 4) hx hb dX6_seasonsMet_25 (by decide) ?_
              refine lv_icmp_ge (tgt := 52) hx hb dX6_seasonsMet_26 (by decide) (fun c_31 => ?_) (fun c_31 => ?_)
              · have k_32 : (4 : Int) ≤ (i_28).toInt := z_le c_31
                obtain rfl : i_28 = 4 := z_eq' (show (i_28).toInt = (4 : Int) by omega)
                obtain ⟨z_33, ez_33⟩ : ∃ y : Int32, y = i_4 + 1 := ⟨_, rfl⟩
                have kz_33 : (z_33).toInt = (i_4).toInt + (1 : Int) := by rw [ez_33]; exact z_add (b := 1) rfl rfl (by omega) (by omega)
                refine lv_iinc (v := z_33) (lv' := [(3, .int z_33), (4, .int 4), (2, .int n_29), (0, .ref h0), (1, .int p1)]) hx hb dX6_seasonsMet_52 hl (k := 1) rfl (by rw [ez_33]; rfl) (by decide) rfl (fun ls hl => ?_)
                refine lv_goto (tgt := 4) hx hb dX6_seasonsMet_55 (by decide) ?_
                exact ih_3 z_33 n_29 n_h0_miss_18 g_h2_19 g_h3_20 g_h4_21 g_h5_22 _ _ _ (show (4 - (z_33).toInt).toNat < n_2 by omega) (show ((0 : Int) ≤ (z_33).toInt ∧ (z_33).toInt ≤ (3 : Int)) by omega) hP hD hS (lv_sub hl [0, 2, 3, 4] rfl)
              · have k_34 : (4 : Int) > (i_28).toInt := z_nle c_31
                refine lv_aload_n hx hb dX6_seasonsMet_29 rfl (lv_at hl 3 rfl) ?_
                refine va_get (D := (dC, dI)) (ci := 6) (v := .ref h5) (C := RX6) (T := TX6) (N := 7) hx hb hts hiX6 hown hK hP 0 rfl rfl 5 (by decide) w__fieldLink_RX6_27_ShellHeap_Readers_died_I_ (fun _ h9 => h9) rfl dX6_seasonsMet_30 ?_
                refine lv_iload hx hb dX6_seasonsMet_33 (lv_at hl 0 rfl) ?_
                refine va_iald hx hb hK hP 5 4 rfl rfl (z_vpin (by omega) (by omega)) dX6_seasonsMet_35 ?_
                refine lv_topi (fun z_35 ez_35 => ?_)
                refine lv_if_le (tgt := 46) hx hb dX6_seasonsMet_36 (by decide) (fun c_36 => ?_) (fun c_36 => ?_)
                · have k_37 : (z_35).toInt ≤ (0 : Int) := z_le c_36
                  obtain ⟨z_38, ez_38⟩ : ∃ y : Int32, y = i_28 + 1 := ⟨_, rfl⟩
                  have kz_38 : (z_38).toInt = (i_28).toInt + (1 : Int) := by rw [ez_38]; exact z_add (b := 1) rfl rfl (by omega) (by omega)
                  refine lv_iinc (v := z_38) (lv' := [(4, .int z_38), (3, .int i_4), (2, .int n_29), (0, .ref h0), (1, .int p1)]) hx hb dX6_seasonsMet_46 hl (k := 0) rfl (by rw [ez_38]; rfl) (by decide) rfl (fun ls hl => ?_)
                  refine lv_goto (tgt := 23) hx hb dX6_seasonsMet_49 (by decide) ?_
                  exact ih_27 z_38 n_29 _ _ _ (show (5 - (z_38).toInt).toNat < n_26 by omega) (show ((0 : Int) ≤ (z_38).toInt ∧ (z_38).toInt ≤ (4 : Int)) by omega) hP hD hS (lv_sub hl [0, 1, 2, 3, 4] rfl)
                · have k_39 : (z_35).toInt > (0 : Int) := z_nle c_36
                  refine lv_iload_n hx hb dX6_seasonsMet_39 rfl (lv_at hl 2 rfl) ?_
                  refine lv_iconst (v := 1) hx hb dX6_seasonsMet_40 (by decide) ?_
                  refine lv_iload hx hb dX6_seasonsMet_41 (lv_at hl 0 rfl) ?_
                  refine lv_ishl hx hb dX6_seasonsMet_43 ?_
                  refine lv_topi (fun z_40 ez_40 => ?_)
                  refine lv_ior hx hb dX6_seasonsMet_44 ?_
                  refine lv_topi (fun z_41 ez_41 => ?_)
                  refine lv_istore_n (lv' := [(2, .int z_41), (4, .int i_28), (3, .int i_4), (0, .ref h0), (1, .int p1)]) hx hb dX6_seasonsMet_45 rfl hl (by decide) rfl (fun ls hl => ?_)
                  obtain ⟨z_42, ez_42⟩ : ∃ y : Int32, y = i_28 + 1 := ⟨_, rfl⟩
                  have kz_42 : (z_42).toInt = (i_28).toInt + (1 : Int) := by rw [ez_42]; exact z_add (b := 1) rfl rfl (by omega) (by omega)
                  refine lv_iinc (v := z_42) (lv' := [(4, .int z_42), (2, .int z_41), (3, .int i_4), (0, .ref h0), (1, .int p1)]) hx hb dX6_seasonsMet_46 hl (k := 1) rfl (by rw [ez_42]; rfl) (by decide) rfl (fun ls hl => ?_)
                  refine lv_goto (tgt := 23) hx hb dX6_seasonsMet_49 (by decide) ?_
                  exact ih_27 z_42 z_41 _ _ _ (show (5 - (z_42).toInt).toNat < n_26 by omega) (show ((0 : Int) ≤ (z_42).toInt ∧ (z_42).toInt ≤ (4 : Int)) by omega) hP hD hS (lv_sub hl [0, 2, 1, 3, 4] rfl)
          exact loop_25 _ 0 n_5 _ _ _ (Nat.lt_succ_self _) (show ((0 : Int) ≤ (0 : Int) ∧ (0 : Int) ≤ (4 : Int)) by omega) hP hD hS hl
        · have k_43 : (r_16).toInt = (0 : Int) := z_eq c_23
          obtain rfl : r_16 = 0 := z_eq' (show (r_16).toInt = (0 : Int) by omega)
          refine lv_iconst (v := (-1)) hx hb dX6_seasonsMet_18 (by decide) ?_
          refine z_backQ hQQ ?_
          have hP9 := hP.sub (ws' := [(h0, .inr (6, [.ref h1, .ref h6, .ref h2, .ref h3, .ref h4, .ref h5, .int n_h0_miss_18])), (h1, .inl (ch1, 48, .inl fh1)), (h2, .inl (ch2, 4, .inl g_h2_19)), (h3, .inl (ch3, 4, .inl g_h3_20)), (h4, .inl (ch4, 4, .inl g_h4_21)), (h5, .inl (ch5, 4, .inl g_h5_22)), (h6, .inl (ch6, 144, .inl fh6))]) [0, 1, 2, 3, 4, 5, 6] rfl
          have hD9 := hD.sub (ws' := [(h0, .inr (6, [.ref h1, .ref h6, .ref h2, .ref h3, .ref h4, .ref h5, .int n_h0_miss_18])), (h1, .inl (ch1, 48, .inl fh1)), (h2, .inl (ch2, 4, .inl g_h2_19)), (h3, .inl (ch3, 4, .inl g_h3_20)), (h4, .inl (ch4, 4, .inl g_h4_21)), (h5, .inl (ch5, 4, .inl g_h5_22)), (h6, .inl (ch6, 144, .inl fh6))]) [0, 1, 2, 3, 4, 5, 6] (by decide) rfl
          have hK9 := hK.sub (tys' := []) [] rfl
          refine W.widen (k := 0) (n := 0) (Nat.le_of_ble_eq_true rfl) (Nat.le_of_ble_eq_true rfl) ?_
          exact W.iret (v := (-1)) hx hb hr (fun t ht hW => ⟨⟨(-1), (), rfl, trivial, ⟨n_h0_miss_18, g_h2_19, g_h3_20, g_h4_21, g_h5_22, by rw [ht]; exact hP9, va_K.moved hW.alike hK9, hD9⟩⟩, hS.F ht⟩) hS.2.2 dX6_seasonsMet_19
  exact loop_1 _ 0 0 rm fh2 fh3 fh4 fh5 _ _ _ (Nat.lt_succ_self _) (show ((0 : Int) ≤ (0 : Int) ∧ (0 : Int) ≤ (3 : Int)) by omega) hP hD hS hl
def u_s_X2_leaveOutEach : List Cond := .code yX2_leaveOutEach cX2_leaveOutEach 3 none :: ([.fieldLink RX2 34 "ShellHeap$Ground" "columns" "I", .fieldLink RX2 37 "ShellHeap$Ground" "whole" "I", .fieldLink RX2 28 "ShellHeap$Ground" "without" "[I", .fieldLink RX2 40 "ShellHeap$Ground" "least" "I", .methodLink RX2 57 Lib.Math.min.name, .static Lib.Math.min.name, .initialized "java/lang/Math", .code Lib.Math.min.name Lib.Math.min.code 2 (some .int), .fieldLink RX2 43 "ShellHeap$Ground" "greatest" "I", .methodLink RX2 63 Lib.Math.max.name, .static Lib.Math.max.name, .code Lib.Math.max.name Lib.Math.max.code 2 (some .int)] ++ wsX20)
set_option maxHeartbeats 4000000 in
set_option maxRecDepth 100000 in
theorem s_X2_leaveOutEach (l : Launch) (dC : Nat → ClassId) (dI : Nat → Nat → Nat) (sz : Nat) (h0 : Nat) (h0_0 : Value) (h0_1 : Value) (h0_2 : Value) (h0_3 : Value) (h0_4 : Value) (h1 : Nat) (h0_6 : Value) (gc : Int32) (go : Int32) (gl : Int32) (gg : Int32) (ch1 : ClassId) (fh1 : Nat → Int32) (hB_gc : ((0 : Int) ≤ (gc).toInt ∧ (gc).toInt ≤ (10 : Int))) : Met l yX2_leaveOutEach u_s_X2_leaveOutEach ({ frames := 1, cells := 0, slots := 0, locals := 14 }) (va_Pc [.ref h0] (z_C (dC, dI) vwCl [(h0, .inr (2, [h0_0, h0_1, h0_2, h0_3, h0_4, .ref h1, h0_6, .int gc, .int go, .int gl, .int gg])), (h1, .inl (ch1, 10, .inl fh1))] [(ch1, .int)] sz)) (va_Qv (fun (_ : Unit) => True) (fun (_ : Unit) (t : State) => ∃ (n_h0_least : Int32), ∃ (n_h0_greatest : Int32), va_P (dC, dI) vwCl [(h0, .inr (2, [h0_0, h0_1, h0_2, h0_3, h0_4, .ref h1, h0_6, .int gc, .int go, .int n_h0_least, .int n_h0_greatest])), (h1, .inl (ch1, 10, .inl fh1))] t.heap ∧ va_K (dC, dI) vwCl [] t ∧ va_D (va_A [(h0, .inr (2, [h0_0, h0_1, h0_2, h0_3, h0_4, .ref h1, h0_6, .int gc, .int go, .int gl, .int gg])), (h1, .inl (ch1, 10, .inl fh1))] sz) [(h0, .inr (2, [h0_0, h0_1, h0_2, h0_3, h0_4, .ref h1, h0_6, .int gc, .int go, .int n_h0_least, .int n_h0_greatest])), (h1, .inl (ch1, 10, .inl fh1))]) (va_A [(h0, .inr (2, [h0_0, h0_1, h0_2, h0_3, h0_4, .ref h1, h0_6, .int gc, .int go, .int gl, .int gg])), (h1, .inl (ch1, 10, .inl fh1))] sz)) 0 0 (va_A [(h0, .inr (2, [h0_0, h0_1, h0_2, h0_3, h0_4, .ref h1, h0_6, .int gc, .int go, .int gl, .int gg])), (h1, .inl (ch1, 10, .inl fh1))] sz) := by
  refine Met.ofW (cc := cX2_leaveOutEach) (maxL := 3) (ret := none) (by decide) rfl ?_
  intro p e s m args below meth c s₁ B hml hv
  obtain ⟨rfl, hsz, hP, hK, hD0⟩ := hv
  have hx := B.exec
  have hb := B.bytes
  have hr := B.returns
  have hts := atoms_spec (ws := u_s_X2_leaveOutEach) B.pre
  have hown : s.vm.findClass RX2 = some m.cls := findClass_of_methodNamed B.named
  have hlocks := B.notSynchronized
  subst hsz
  have hD := hD0.self (sz := s.heap.size)
  generalize hAe : va_A [(h0, .inr (2, [h0_0, h0_1, h0_2, h0_3, h0_4, .ref h1, h0_6, .int gc, .int go, .int gl, .int gg])), (h1, .inl (ch1, 10, .inl fh1))] s.heap.size = A at hD ⊢
  have hA : ∀ q : Nat, s.heap.size ≤ q → A q := fun q h => by rw [← hAe]; exact Or.inr h
  have hS : va_S A s.heap s.heap [] := va_S.rf
  have hP : va_P (dC, dI) vwCl [(h0, .inr (2, [h0_0, h0_1, h0_2, h0_3, h0_4, .ref h1, h0_6, .int gc, .int go, .int gl, .int gg])), (h1, .inl (ch1, 10, .inl fh1))] s.heap := hP
  have w__fieldLink_RX2_34_ShellHeap_Ground_columns_I_ := hts (.fieldLink RX2 34 "ShellHeap$Ground" "columns" "I") (by decide +kernel)
  have hiX2 := show ∀ w ∈ u_ws RX2 TX2 11, w ∈ u_s_X2_leaveOutEach by decide +kernel
  have w__fieldLink_RX2_37_ShellHeap_Ground_whole_I_ := hts (.fieldLink RX2 37 "ShellHeap$Ground" "whole" "I") (by decide +kernel)
  have w__fieldLink_RX2_28_ShellHeap_Ground_without_I_ := hts (.fieldLink RX2 28 "ShellHeap$Ground" "without" "[I") (by decide +kernel)
  have w__fieldLink_RX2_40_ShellHeap_Ground_least_I_ := hts (.fieldLink RX2 40 "ShellHeap$Ground" "least" "I") (by decide +kernel)
  have w__methodLink_RX2_57_Lib_Math_min_name := hts (.methodLink RX2 57 Lib.Math.min.name) (by decide +kernel)
  have w__static_Lib_Math_min_name := hts (.static Lib.Math.min.name) (by decide +kernel)
  have w__initialized_java_lang_Math_ := hts (.initialized "java/lang/Math") (by decide +kernel)
  have w__code_Lib_Math_min_name_Lib_Math_min_code_2_some_int_ := hts (.code Lib.Math.min.name Lib.Math.min.code 2 (some .int)) (by decide +kernel)
  have w__fieldLink_RX2_43_ShellHeap_Ground_greatest_I_ := hts (.fieldLink RX2 43 "ShellHeap$Ground" "greatest" "I") (by decide +kernel)
  have w__methodLink_RX2_63_Lib_Math_max_name := hts (.methodLink RX2 63 Lib.Math.max.name) (by decide +kernel)
  have w__static_Lib_Math_max_name := hts (.static Lib.Math.max.name) (by decide +kernel)
  have w__code_Lib_Math_max_name_Lib_Math_max_code_2_some_int_ := hts (.code Lib.Math.max.name Lib.Math.max.code 2 (some .int)) (by decide +kernel)
  have hl := lv_entry ([.ref h0]) (n := 3) (Nat.le_of_ble_eq_true rfl)
  rw [lg_entry_eq]
  generalize (lg_sl ([.ref h0]) ++ List.replicate (3 - (lg_sl ([.ref h0])).length) Slot.unset).toArray = ls at hl ⊢
  have hl : lv_has ls 3 [(0, .ref h0)] := hl
  refine z_nameQ (fun QQ hQQ => ?_)
  refine lv_iconst (v := 0) hx hb dX2_leaveOutEach_0 (by decide) ?_
  refine lv_istore_n (lv' := [(1, .int 0), (0, .ref h0)]) hx hb dX2_leaveOutEach_1 rfl hl (by decide) rfl (fun ls hl => ?_)
  have loop_1 : ∀ (n_2 : Nat) (i_4 : Int32) (v_5 : Int32) (v_6 : Int32) (H : Heap) (locs : List Loc) (ls : Array Slot), (11 - (i_4).toInt).toNat < n_2 → (((0 : Int) ≤ (i_4).toInt ∧ (i_4).toInt ≤ (10 : Int))) → va_P (dC, dI) vwCl [(h0, .inr (2, [h0_0, h0_1, h0_2, h0_3, h0_4, .ref h1, h0_6, .int gc, .int go, .int v_5, .int v_6])), (h1, .inl (ch1, 10, .inl fh1))] H → va_D A [(h0, .inr (2, [h0_0, h0_1, h0_2, h0_3, h0_4, .ref h1, h0_6, .int gc, .int go, .int v_5, .int v_6])), (h1, .inl (ch1, 10, .inl fh1))] → va_S A s.heap H locs → lv_has ls 3 [(1, .int i_4), (0, .ref h0)] → W p l e ({ frames := 1, cells := 0, slots := 0, locals := 14 } : Room) s m ([.ref h0] : List Value).toArray below meth c H locs 0 0 QQ (F0 m 2 ls []) := by
    intro n_2
    induction n_2 with
    | zero => intro i_4 v_5 v_6 H locs ls hm; exact absurd hm (Nat.not_lt_zero _)
    | succ n_2 ih_3 =>
      intro i_4 v_5 v_6 H locs ls hm hF_7 hP hD hS hl
      refine lv_iload_n hx hb dX2_leaveOutEach_2 rfl (lv_at hl 0 rfl) ?_
      refine lv_aload_n hx hb dX2_leaveOutEach_3 rfl (lv_at hl 1 rfl) ?_
      refine va_get (D := (dC, dI)) (ci := 2) (v := .int gc) (C := RX2) (T := TX2) (N := 11) hx hb hts hiX2 hown hK hP 0 rfl rfl 7 (by decide) w__fieldLink_RX2_34_ShellHeap_Ground_columns_I_ (fun _ h9 => h9) rfl dX2_leaveOutEach_4 ?_
      refine lv_icmp_ge (tgt := 68) hx hb dX2_leaveOutEach_7 (by decide) (fun c_8 => ?_) (fun c_8 => ?_)
      · have k_9 : (gc).toInt ≤ (i_4).toInt := z_le c_8
        refine z_backQ hQQ ?_
        have hP9 := hP.sub (ws' := [(h0, .inr (2, [h0_0, h0_1, h0_2, h0_3, h0_4, .ref h1, h0_6, .int gc, .int go, .int v_5, .int v_6])), (h1, .inl (ch1, 10, .inl fh1))]) [0, 1] rfl
        have hD9 := hD.sub (ws' := [(h0, .inr (2, [h0_0, h0_1, h0_2, h0_3, h0_4, .ref h1, h0_6, .int gc, .int go, .int v_5, .int v_6])), (h1, .inl (ch1, 10, .inl fh1))]) [0, 1] (by decide) rfl
        have hK9 := hK.sub (tys' := []) [] rfl
        refine W.widen (k := 0) (n := 0) (Nat.le_of_ble_eq_true rfl) (Nat.le_of_ble_eq_true rfl) ?_
        exact W.vret hx hb hr (fun t ht hW => ⟨⟨(), rfl, trivial, ⟨v_5, v_6, by rw [ht]; exact hP9, va_K.moved hW.alike hK9, hD9⟩⟩, hS.F ht⟩) hS.2.2 dX2_leaveOutEach_68
      · have k_10 : (gc).toInt > (i_4).toInt := z_nle c_8
        refine lv_aload_n hx hb dX2_leaveOutEach_10 rfl (lv_at hl 1 rfl) ?_
        refine va_get (D := (dC, dI)) (ci := 2) (v := .int go) (C := RX2) (T := TX2) (N := 11) hx hb hts hiX2 hown hK hP 0 rfl rfl 8 (by decide) w__fieldLink_RX2_37_ShellHeap_Ground_whole_I_ (fun _ h9 => h9) rfl dX2_leaveOutEach_11 ?_
        refine lv_aload_n hx hb dX2_leaveOutEach_14 rfl (lv_at hl 1 rfl) ?_
        refine va_get (D := (dC, dI)) (ci := 2) (v := .ref h1) (C := RX2) (T := TX2) (N := 11) hx hb hts hiX2 hown hK hP 0 rfl rfl 5 (by decide) w__fieldLink_RX2_28_ShellHeap_Ground_without_I_ (fun _ h9 => h9) rfl dX2_leaveOutEach_15 ?_
        refine lv_iload_n hx hb dX2_leaveOutEach_18 rfl (lv_at hl 0 rfl) ?_
        refine va_iald hx hb hK hP 1 0 rfl rfl (z_vpin (by omega) (by omega)) dX2_leaveOutEach_19 ?_
        refine lv_topi (fun z_11 ez_11 => ?_)
        refine lv_iadd hx hb dX2_leaveOutEach_20 ?_
        refine lv_topi (fun z_12 ez_12 => ?_)
        refine lv_istore_n (lv' := [(2, .int z_12), (1, .int i_4), (0, .ref h0)]) hx hb dX2_leaveOutEach_21 rfl hl (by decide) rfl (fun ls hl => ?_)
        refine lv_aload_n hx hb dX2_leaveOutEach_22 rfl (lv_at hl 2 rfl) ?_
        refine lv_iload_n hx hb dX2_leaveOutEach_23 rfl (lv_at hl 1 rfl) ?_
        refine lv_if_ne (tgt := 31) hx hb dX2_leaveOutEach_24 (by decide) (fun c_13 => ?_) (fun c_13 => ?_)
        · have k_14 : (i_4).toInt ≠ (0 : Int) := z_ne c_13
          refine lv_aload_n hx hb dX2_leaveOutEach_31 rfl (lv_at hl 2 rfl) ?_
          refine va_get (D := (dC, dI)) (ci := 2) (v := .int v_5) (C := RX2) (T := TX2) (N := 11) hx hb hts hiX2 hown hK hP 0 rfl rfl 9 (by decide) w__fieldLink_RX2_40_ShellHeap_Ground_least_I_ (fun _ h9 => h9) rfl dX2_leaveOutEach_32 ?_
          refine lv_iload_n hx hb dX2_leaveOutEach_35 rfl (lv_at hl 0 rfl) ?_
          refine va_mmin hx hb (hml.trans hl.1.symm) hown w__methodLink_RX2_57_Lib_Math_min_name w__static_Lib_Math_min_name w__initialized_java_lang_Math_ w__code_Lib_Math_min_name_Lib_Math_min_code_2_some_int_ (Nat.le_of_ble_eq_true rfl) (Nat.le_of_ble_eq_true rfl) (Nat.le_of_ble_eq_true rfl) (Nat.le_of_ble_eq_true rfl) dX2_leaveOutEach_36 ?_
          refine lv_topi (fun z_15 ez_15 => ?_)
          have kz_15 : ((z_15).toInt = (v_5).toInt ∨ (z_15).toInt = (z_12).toInt) ∧ (z_15).toInt ≤ (v_5).toInt ∧ (z_15).toInt ≤ (z_12).toInt := z_min ez_15
          refine va_put (D := (dC, dI)) (ci := 2) (v := .int z_15) (ty := .int) (C := RX2) (T := TX2) (N := 11) hx hb hts hiX2 tyX2 tyX2_ok nmX2 hown hK hP hD hS 0 rfl rfl 9 (by decide) w__fieldLink_RX2_40_ShellHeap_Ground_least_I_ (fun _ h9 => h9) rfl (by decide +kernel) rfl rfl (Nat.le_of_ble_eq_true rfl) dX2_leaveOutEach_39 (fun H_16 locs hP hD hS => ?_)
          have hP : va_P (dC, dI) vwCl [(h0, .inr (2, [h0_0, h0_1, h0_2, h0_3, h0_4, .ref h1, h0_6, .int gc, .int go, .int z_15, .int v_6])), (h1, .inl (ch1, 10, .inl fh1))] H_16 := hP
          have hD : va_D A [(h0, .inr (2, [h0_0, h0_1, h0_2, h0_3, h0_4, .ref h1, h0_6, .int gc, .int go, .int z_15, .int v_6])), (h1, .inl (ch1, 10, .inl fh1))] := hD
          refine lv_aload_n hx hb dX2_leaveOutEach_42 rfl (lv_at hl 2 rfl) ?_
          refine lv_iload_n hx hb dX2_leaveOutEach_43 rfl (lv_at hl 1 rfl) ?_
          refine lv_if_ne (tgt := 51) hx hb dX2_leaveOutEach_44 (by decide) (fun _ => ?_) (fun c_17 => ?_)
          rotate_left
          · exfalso
            have k_18 : (i_4).toInt = (0 : Int) := z_eq c_17
            omega
          refine lv_aload_n hx hb dX2_leaveOutEach_51 rfl (lv_at hl 2 rfl) ?_
          refine va_get (D := (dC, dI)) (ci := 2) (v := .int v_6) (C := RX2) (T := TX2) (N := 11) hx hb hts hiX2 hown hK hP 0 rfl rfl 10 (by decide) w__fieldLink_RX2_43_ShellHeap_Ground_greatest_I_ (fun _ h9 => h9) rfl dX2_leaveOutEach_52 ?_
          refine lv_iload_n hx hb dX2_leaveOutEach_55 rfl (lv_at hl 0 rfl) ?_
          refine va_mmax hx hb (hml.trans hl.1.symm) hown w__methodLink_RX2_63_Lib_Math_max_name w__static_Lib_Math_max_name w__initialized_java_lang_Math_ w__code_Lib_Math_max_name_Lib_Math_max_code_2_some_int_ (Nat.le_of_ble_eq_true rfl) (Nat.le_of_ble_eq_true rfl) (Nat.le_of_ble_eq_true rfl) (Nat.le_of_ble_eq_true rfl) dX2_leaveOutEach_56 ?_
          refine lv_topi (fun z_19 ez_19 => ?_)
          have kz_19 : ((z_19).toInt = (v_6).toInt ∨ (z_19).toInt = (z_12).toInt) ∧ (z_19).toInt ≥ (v_6).toInt ∧ (z_19).toInt ≥ (z_12).toInt := z_max ez_19
          refine va_put (D := (dC, dI)) (ci := 2) (v := .int z_19) (ty := .int) (C := RX2) (T := TX2) (N := 11) hx hb hts hiX2 tyX2 tyX2_ok nmX2 hown hK hP hD hS 0 rfl rfl 10 (by decide) w__fieldLink_RX2_43_ShellHeap_Ground_greatest_I_ (fun _ h9 => h9) rfl (by decide +kernel) rfl rfl (Nat.le_of_ble_eq_true rfl) dX2_leaveOutEach_59 (fun H_20 locs hP hD hS => ?_)
          have hP : va_P (dC, dI) vwCl [(h0, .inr (2, [h0_0, h0_1, h0_2, h0_3, h0_4, .ref h1, h0_6, .int gc, .int go, .int z_15, .int z_19])), (h1, .inl (ch1, 10, .inl fh1))] H_20 := hP
          have hD : va_D A [(h0, .inr (2, [h0_0, h0_1, h0_2, h0_3, h0_4, .ref h1, h0_6, .int gc, .int go, .int z_15, .int z_19])), (h1, .inl (ch1, 10, .inl fh1))] := hD
          obtain ⟨z_21, ez_21⟩ : ∃ y : Int32, y = i_4 + 1 := ⟨_, rfl⟩
          have kz_21 : (z_21).toInt = (i_4).toInt + (1 : Int) := by rw [ez_21]; exact z_add (b := 1) rfl rfl (by omega) (by omega)
          refine lv_iinc (v := z_21) (lv' := [(1, .int z_21), (2, .int z_12), (0, .ref h0)]) hx hb dX2_leaveOutEach_62 hl (k := 1) rfl (by rw [ez_21]; rfl) (by decide) rfl (fun ls hl => ?_)
          refine lv_goto (tgt := 2) hx hb dX2_leaveOutEach_65 (by decide) ?_
          exact ih_3 z_21 z_15 z_19 _ _ _ (show (11 - (z_21).toInt).toNat < n_2 by omega) (show ((0 : Int) ≤ (z_21).toInt ∧ (z_21).toInt ≤ (10 : Int)) by omega) hP hD hS (lv_sub hl [0, 2] rfl)
        · have k_22 : (i_4).toInt = (0 : Int) := z_eq c_13
          obtain rfl : i_4 = 0 := z_eq' (show (i_4).toInt = (0 : Int) by omega)
          refine lv_iload_n hx hb dX2_leaveOutEach_27 rfl (lv_at hl 0 rfl) ?_
          refine lv_goto (tgt := 39) hx hb dX2_leaveOutEach_28 (by decide) ?_
          refine va_put (D := (dC, dI)) (ci := 2) (v := .int z_12) (ty := .int) (C := RX2) (T := TX2) (N := 11) hx hb hts hiX2 tyX2 tyX2_ok nmX2 hown hK hP hD hS 0 rfl rfl 9 (by decide) w__fieldLink_RX2_40_ShellHeap_Ground_least_I_ (fun _ h9 => h9) rfl (by decide +kernel) rfl rfl (Nat.le_of_ble_eq_true rfl) dX2_leaveOutEach_39 (fun H_23 locs hP hD hS => ?_)
          have hP : va_P (dC, dI) vwCl [(h0, .inr (2, [h0_0, h0_1, h0_2, h0_3, h0_4, .ref h1, h0_6, .int gc, .int go, .int z_12, .int v_6])), (h1, .inl (ch1, 10, .inl fh1))] H_23 := hP
          have hD : va_D A [(h0, .inr (2, [h0_0, h0_1, h0_2, h0_3, h0_4, .ref h1, h0_6, .int gc, .int go, .int z_12, .int v_6])), (h1, .inl (ch1, 10, .inl fh1))] := hD
          refine lv_aload_n hx hb dX2_leaveOutEach_42 rfl (lv_at hl 2 rfl) ?_
          refine lv_iload_n hx hb dX2_leaveOutEach_43 rfl (lv_at hl 1 rfl) ?_
          refine lv_if_ne (tgt := 51) hx hb dX2_leaveOutEach_44 (by decide) (fun c_24 => absurd c_24 (by decide)) (fun _ => ?_)
          refine lv_iload_n hx hb dX2_leaveOutEach_47 rfl (lv_at hl 0 rfl) ?_
          refine lv_goto (tgt := 59) hx hb dX2_leaveOutEach_48 (by decide) ?_
          refine va_put (D := (dC, dI)) (ci := 2) (v := .int z_12) (ty := .int) (C := RX2) (T := TX2) (N := 11) hx hb hts hiX2 tyX2 tyX2_ok nmX2 hown hK hP hD hS 0 rfl rfl 10 (by decide) w__fieldLink_RX2_43_ShellHeap_Ground_greatest_I_ (fun _ h9 => h9) rfl (by decide +kernel) rfl rfl (Nat.le_of_ble_eq_true rfl) dX2_leaveOutEach_59 (fun H_25 locs hP hD hS => ?_)
          have hP : va_P (dC, dI) vwCl [(h0, .inr (2, [h0_0, h0_1, h0_2, h0_3, h0_4, .ref h1, h0_6, .int gc, .int go, .int z_12, .int z_12])), (h1, .inl (ch1, 10, .inl fh1))] H_25 := hP
          have hD : va_D A [(h0, .inr (2, [h0_0, h0_1, h0_2, h0_3, h0_4, .ref h1, h0_6, .int gc, .int go, .int z_12, .int z_12])), (h1, .inl (ch1, 10, .inl fh1))] := hD
          refine lv_iinc (v := 1) (lv' := [(1, .int 1), (2, .int z_12), (0, .ref h0)]) hx hb dX2_leaveOutEach_62 hl (k := 1) rfl (by decide) (by decide) rfl (fun ls hl => ?_)
          refine lv_goto (tgt := 2) hx hb dX2_leaveOutEach_65 (by decide) ?_
          exact ih_3 1 z_12 z_12 _ _ _ (show (11 - (1 : Int)).toNat < n_2 by omega) (show ((0 : Int) ≤ (1 : Int) ∧ (1 : Int) ≤ (10 : Int)) by omega) hP hD hS (lv_sub hl [0, 2] rfl)
  exact loop_1 _ 0 gl gg _ _ _ (Nat.lt_succ_self _) (show ((0 : Int) ≤ (0 : Int) ∧ (0 : Int) ≤ (10 : Int)) by omega) hP hD hS hl
def u_s_X2_weighCell : List Cond := .code yX2_weighCell cX2_weighCell 9 none :: ([.fieldLink RX2 34 "ShellHeap$Ground" "columns" "I", .fieldLink RX2 37 "ShellHeap$Ground" "whole" "I", .fieldLink RX2 25 "ShellHeap$Ground" "ofBed" "[I", .fieldLink RX2 28 "ShellHeap$Ground" "without" "[I", .fieldLink RX2 18 "ShellHeap$Ground" "xs" "[I", .fieldLink RX2 22 "ShellHeap$Ground" "ys" "[I"] ++ wsX20)
set_option maxHeartbeats 4000000 in
set_option maxRecDepth 100000 in
theorem s_X2_weighCell (l : Launch) (dC : Nat → ClassId) (dI : Nat → Nat → Nat) (sz : Nat) (h0 : Nat) (p1 : Int32) (p2 : Int32) (h0_0 : Value) (h0_1 : Value) (h1 : Nat) (h2 : Nat) (h3 : Nat) (h4 : Nat) (h0_6 : Value) (gc : Int32) (go : Int32) (h0_9 : Value) (h0_10 : Value) (ch1 : ClassId) (fh1 : Nat → Int32) (ch2 : ClassId) (fh2 : Nat → Int32) (ch3 : ClassId) (fh3 : Nat → Int32) (ch4 : ClassId) (fh4 : Nat → Int32) (hB_gc : ((0 : Int) ≤ (gc).toInt ∧ (gc).toInt ≤ (10 : Int))) : Met l yX2_weighCell u_s_X2_weighCell ({ frames := 0, cells := 0, slots := 0, locals := 0 }) (va_Pc [.ref h0, .int p1, .int p2] (z_C (dC, dI) vwCl [(h0, .inr (2, [h0_0, h0_1, .ref h1, .ref h2, .ref h3, .ref h4, h0_6, .int gc, .int go, h0_9, h0_10])), (h1, .inl (ch1, 10, .inl fh1)), (h2, .inl (ch2, 10, .inl fh2)), (h3, .inl (ch3, 10, .inl fh3)), (h4, .inl (ch4, 10, .inl fh4))] [(ch1, .int), (ch2, .int), (ch3, .int), (ch4, .int)] sz)) (va_Qv (fun (_ : Unit) => True) (fun (_ : Unit) (t : State) => ∃ (n_h0_whole : Int32), ∃ (g_h4 : Nat → Int32), va_P (dC, dI) vwCl [(h0, .inr (2, [h0_0, h0_1, .ref h1, .ref h2, .ref h3, .ref h4, h0_6, .int gc, .int n_h0_whole, h0_9, h0_10])), (h1, .inl (ch1, 10, .inl fh1)), (h2, .inl (ch2, 10, .inl fh2)), (h3, .inl (ch3, 10, .inl fh3)), (h4, .inl (ch4, 10, .inl g_h4))] t.heap ∧ va_K (dC, dI) vwCl [] t ∧ va_D (va_A [(h0, .inr (2, [h0_0, h0_1, .ref h1, .ref h2, .ref h3, .ref h4, h0_6, .int gc, .int go, h0_9, h0_10])), (h1, .inl (ch1, 10, .inl fh1)), (h2, .inl (ch2, 10, .inl fh2)), (h3, .inl (ch3, 10, .inl fh3)), (h4, .inl (ch4, 10, .inl fh4))] sz) [(h0, .inr (2, [h0_0, h0_1, .ref h1, .ref h2, .ref h3, .ref h4, h0_6, .int gc, .int n_h0_whole, h0_9, h0_10])), (h1, .inl (ch1, 10, .inl fh1)), (h2, .inl (ch2, 10, .inl fh2)), (h3, .inl (ch3, 10, .inl fh3)), (h4, .inl (ch4, 10, .inl g_h4))]) (va_A [(h0, .inr (2, [h0_0, h0_1, .ref h1, .ref h2, .ref h3, .ref h4, h0_6, .int gc, .int go, h0_9, h0_10])), (h1, .inl (ch1, 10, .inl fh1)), (h2, .inl (ch2, 10, .inl fh2)), (h3, .inl (ch3, 10, .inl fh3)), (h4, .inl (ch4, 10, .inl fh4))] sz)) 0 0 (va_A [(h0, .inr (2, [h0_0, h0_1, .ref h1, .ref h2, .ref h3, .ref h4, h0_6, .int gc, .int go, h0_9, h0_10])), (h1, .inl (ch1, 10, .inl fh1)), (h2, .inl (ch2, 10, .inl fh2)), (h3, .inl (ch3, 10, .inl fh3)), (h4, .inl (ch4, 10, .inl fh4))] sz) := by
  refine Met.ofW (cc := cX2_weighCell) (maxL := 9) (ret := none) (by decide) rfl ?_
  intro p e s m args below meth c s₁ B hml hv
  obtain ⟨rfl, hsz, hP, hK, hD0⟩ := hv
  have hx := B.exec
  have hb := B.bytes
  have hr := B.returns
  have hts := atoms_spec (ws := u_s_X2_weighCell) B.pre
  have hown : s.vm.findClass RX2 = some m.cls := findClass_of_methodNamed B.named
  have hlocks := B.notSynchronized
  subst hsz
  have hD := hD0.self (sz := s.heap.size)
  generalize hAe : va_A [(h0, .inr (2, [h0_0, h0_1, .ref h1, .ref h2, .ref h3, .ref h4, h0_6, .int gc, .int go, h0_9, h0_10])), (h1, .inl (ch1, 10, .inl fh1)), (h2, .inl (ch2, 10, .inl fh2)), (h3, .inl (ch3, 10, .inl fh3)), (h4, .inl (ch4, 10, .inl fh4))] s.heap.size = A at hD ⊢
  have hA : ∀ q : Nat, s.heap.size ≤ q → A q := fun q h => by rw [← hAe]; exact Or.inr h
  have hS : va_S A s.heap s.heap [] := va_S.rf
  have hP : va_P (dC, dI) vwCl [(h0, .inr (2, [h0_0, h0_1, .ref h1, .ref h2, .ref h3, .ref h4, h0_6, .int gc, .int go, h0_9, h0_10])), (h1, .inl (ch1, 10, .inl fh1)), (h2, .inl (ch2, 10, .inl fh2)), (h3, .inl (ch3, 10, .inl fh3)), (h4, .inl (ch4, 10, .inl fh4))] s.heap := hP
  have w__fieldLink_RX2_34_ShellHeap_Ground_columns_I_ := hts (.fieldLink RX2 34 "ShellHeap$Ground" "columns" "I") (by decide +kernel)
  have hiX2 := show ∀ w ∈ u_ws RX2 TX2 11, w ∈ u_s_X2_weighCell by decide +kernel
  have w__fieldLink_RX2_37_ShellHeap_Ground_whole_I_ := hts (.fieldLink RX2 37 "ShellHeap$Ground" "whole" "I") (by decide +kernel)
  have w__fieldLink_RX2_25_ShellHeap_Ground_ofBed_I_ := hts (.fieldLink RX2 25 "ShellHeap$Ground" "ofBed" "[I") (by decide +kernel)
  have w__fieldLink_RX2_28_ShellHeap_Ground_without_I_ := hts (.fieldLink RX2 28 "ShellHeap$Ground" "without" "[I") (by decide +kernel)
  have w__fieldLink_RX2_18_ShellHeap_Ground_xs_I_ := hts (.fieldLink RX2 18 "ShellHeap$Ground" "xs" "[I") (by decide +kernel)
  have w__fieldLink_RX2_22_ShellHeap_Ground_ys_I_ := hts (.fieldLink RX2 22 "ShellHeap$Ground" "ys" "[I") (by decide +kernel)
  have krr_p1 := z_rng p1
  have krr_p2 := z_rng p2
  have hl := lv_entry ([.ref h0, .int p1, .int p2]) (n := 9) (Nat.le_of_ble_eq_true rfl)
  rw [lg_entry_eq]
  generalize (lg_sl ([.ref h0, .int p1, .int p2]) ++ List.replicate (9 - (lg_sl ([.ref h0, .int p1, .int p2])).length) Slot.unset).toArray = ls at hl ⊢
  have hl : lv_has ls 9 [(0, .ref h0), (1, .int p1), (2, .int p2)] := hl
  refine z_nameQ (fun QQ hQQ => ?_)
  refine lv_iconst (v := (-1)) hx hb dX2_weighCell_0 (by decide) ?_
  refine lv_istore_n (lv' := [(3, .int (-1)), (0, .ref h0), (1, .int p1), (2, .int p2)]) hx hb dX2_weighCell_1 rfl hl (by decide) rfl (fun ls hl => ?_)
  refine lv_iconst (v := (-1)) hx hb dX2_weighCell_2 (by decide) ?_
  refine lv_istore (lv' := [(4, .int (-1)), (3, .int (-1)), (0, .ref h0), (1, .int p1), (2, .int p2)]) hx hb dX2_weighCell_3 hl (by decide) rfl (fun ls hl => ?_)
  refine lv_iconst (v := 0) hx hb dX2_weighCell_5 (by decide) ?_
  refine lv_istore (lv' := [(5, .int 0), (4, .int (-1)), (3, .int (-1)), (0, .ref h0), (1, .int p1), (2, .int p2)]) hx hb dX2_weighCell_6 hl (by decide) rfl (fun ls hl => ?_)
  refine lv_iconst (v := 0) hx hb dX2_weighCell_8 (by decide) ?_
  refine lv_istore (lv' := [(6, .int 0), (5, .int 0), (4, .int (-1)), (3, .int (-1)), (0, .ref h0), (1, .int p1), (2, .int p2)]) hx hb dX2_weighCell_9 hl (by decide) rfl (fun ls hl => ?_)
  refine lv_iconst (v := 0) hx hb dX2_weighCell_11 (by decide) ?_
  refine lv_istore (lv' := [(7, .int 0), (6, .int 0), (5, .int 0), (4, .int (-1)), (3, .int (-1)), (0, .ref h0), (1, .int p1), (2, .int p2)]) hx hb dX2_weighCell_12 hl (by decide) rfl (fun ls hl => ?_)
  have loop_1 : ∀ (n_2 : Nat) (i_4 : Int32) (a_5 : Int32) (c_6 : Int32) (u_7 : Int32) (v_8 : Int32) (H : Heap) (locs : List Loc) (ls : Array Slot), (11 - (i_4).toInt).toNat < n_2 → (((0 : Int) ≤ (i_4).toInt ∧ (i_4).toInt ≤ (10 : Int))) → (((-1 : Int) ≤ (a_5).toInt ∧ (a_5).toInt ≤ (9 : Int))) → (((-1 : Int) ≤ (c_6).toInt ∧ (c_6).toInt ≤ (9 : Int))) → va_P (dC, dI) vwCl [(h0, .inr (2, [h0_0, h0_1, .ref h1, .ref h2, .ref h3, .ref h4, h0_6, .int gc, .int go, h0_9, h0_10])), (h1, .inl (ch1, 10, .inl fh1)), (h2, .inl (ch2, 10, .inl fh2)), (h3, .inl (ch3, 10, .inl fh3)), (h4, .inl (ch4, 10, .inl fh4))] H → va_D A [(h0, .inr (2, [h0_0, h0_1, .ref h1, .ref h2, .ref h3, .ref h4, h0_6, .int gc, .int go, h0_9, h0_10])), (h1, .inl (ch1, 10, .inl fh1)), (h2, .inl (ch2, 10, .inl fh2)), (h3, .inl (ch3, 10, .inl fh3)), (h4, .inl (ch4, 10, .inl fh4))] → va_S A s.heap H locs → lv_has ls 9 [(7, .int i_4), (6, .int v_8), (5, .int u_7), (4, .int c_6), (3, .int a_5), (0, .ref h0), (1, .int p1), (2, .int p2)] → W p l e ({ frames := 0, cells := 0, slots := 0, locals := 0 } : Room) s m ([.ref h0, .int p1, .int p2] : List Value).toArray below meth c H locs 0 0 QQ (F0 m 14 ls []) := by
    intro n_2
    induction n_2 with
    | zero => intro i_4 a_5 c_6 u_7 v_8 H locs ls hm; exact absurd hm (Nat.not_lt_zero _)
    | succ n_2 ih_3 =>
      intro i_4 a_5 c_6 u_7 v_8 H locs ls hm hF_9 hF_10 hF_11 hP hD hS hl
      refine lv_iload hx hb dX2_weighCell_14 (lv_at hl 0 rfl) ?_
      refine lv_aload_n hx hb dX2_weighCell_16 rfl (lv_at hl 5 rfl) ?_
      refine va_get (D := (dC, dI)) (ci := 2) (v := .int gc) (C := RX2) (T := TX2) (N := 11) hx hb hts hiX2 hown hK hP 0 rfl rfl 7 (by decide) w__fieldLink_RX2_34_ShellHeap_Ground_columns_I_ (fun _ h9 => h9) rfl dX2_weighCell_17 ?_
      refine lv_icmp_ge (tgt := 120) hx hb dX2_weighCell_20 (by decide) (fun c_12 => ?_) (fun c_12 => ?_)
      · have k_13 : (gc).toInt ≤ (i_4).toInt := z_le c_12
        refine lv_iload_n hx hb dX2_weighCell_120 rfl (lv_at hl 4 rfl) ?_
        refine lv_iconst (v := (-1)) hx hb dX2_weighCell_121 (by decide) ?_
        refine lv_icmp_ne (tgt := 126) hx hb dX2_weighCell_122 (by decide) (fun c_14 => ?_) (fun c_14 => ?_)
        · have k_15 : (a_5).toInt ≠ (-1 : Int) := z_ne c_14
          refine lv_aload_n hx hb dX2_weighCell_126 rfl (lv_at hl 5 rfl) ?_
          refine lv_dup hx hb dX2_weighCell_127 rfl ?_
          refine va_get (D := (dC, dI)) (ci := 2) (v := .int go) (C := RX2) (T := TX2) (N := 11) hx hb hts hiX2 hown hK hP 0 rfl rfl 8 (by decide) w__fieldLink_RX2_37_ShellHeap_Ground_whole_I_ (fun _ h9 => h9) rfl dX2_weighCell_128 ?_
          refine lv_aload_n hx hb dX2_weighCell_131 rfl (lv_at hl 5 rfl) ?_
          refine va_get (D := (dC, dI)) (ci := 2) (v := .ref h3) (C := RX2) (T := TX2) (N := 11) hx hb hts hiX2 hown hK hP 0 rfl rfl 4 (by decide) w__fieldLink_RX2_25_ShellHeap_Ground_ofBed_I_ (fun _ h9 => h9) rfl dX2_weighCell_132 ?_
          refine lv_iload_n hx hb dX2_weighCell_135 rfl (lv_at hl 4 rfl) ?_
          refine va_iald hx hb hK hP 3 2 rfl rfl (z_vpin (by omega) (by omega)) dX2_weighCell_136 ?_
          refine lv_topi (fun z_16 ez_16 => ?_)
          refine lv_iadd hx hb dX2_weighCell_137 ?_
          refine lv_topi (fun z_17 ez_17 => ?_)
          refine va_put (D := (dC, dI)) (ci := 2) (v := .int z_17) (ty := .int) (C := RX2) (T := TX2) (N := 11) hx hb hts hiX2 tyX2 tyX2_ok nmX2 hown hK hP hD hS 0 rfl rfl 8 (by decide) w__fieldLink_RX2_37_ShellHeap_Ground_whole_I_ (fun _ h9 => h9) rfl (by decide +kernel) rfl rfl (Nat.le_of_ble_eq_true rfl) dX2_weighCell_138 (fun H_18 locs hP hD hS => ?_)
          have hP : va_P (dC, dI) vwCl [(h0, .inr (2, [h0_0, h0_1, .ref h1, .ref h2, .ref h3, .ref h4, h0_6, .int gc, .int z_17, h0_9, h0_10])), (h1, .inl (ch1, 10, .inl fh1)), (h2, .inl (ch2, 10, .inl fh2)), (h3, .inl (ch3, 10, .inl fh3)), (h4, .inl (ch4, 10, .inl fh4))] H_18 := hP
          have hD : va_D A [(h0, .inr (2, [h0_0, h0_1, .ref h1, .ref h2, .ref h3, .ref h4, h0_6, .int gc, .int z_17, h0_9, h0_10])), (h1, .inl (ch1, 10, .inl fh1)), (h2, .inl (ch2, 10, .inl fh2)), (h3, .inl (ch3, 10, .inl fh3)), (h4, .inl (ch4, 10, .inl fh4))] := hD
          refine lv_iload hx hb dX2_weighCell_141 (lv_at hl 3 rfl) ?_
          refine lv_iconst (v := (-1)) hx hb dX2_weighCell_143 (by decide) ?_
          refine lv_icmp_eq (tgt := 170) hx hb dX2_weighCell_144 (by decide) (fun c_19 => ?_) (fun c_19 => ?_)
          · have k_20 : (c_6).toInt = (-1 : Int) := z_eq c_19
            obtain rfl : c_6 = (-1) := z_eq' (show (c_6).toInt = (-1 : Int) by omega)
            refine z_backQ hQQ ?_
            have hP9 := hP.sub (ws' := [(h0, .inr (2, [h0_0, h0_1, .ref h1, .ref h2, .ref h3, .ref h4, h0_6, .int gc, .int z_17, h0_9, h0_10])), (h1, .inl (ch1, 10, .inl fh1)), (h2, .inl (ch2, 10, .inl fh2)), (h3, .inl (ch3, 10, .inl fh3)), (h4, .inl (ch4, 10, .inl fh4))]) [0, 1, 2, 3, 4] rfl
            have hD9 := hD.sub (ws' := [(h0, .inr (2, [h0_0, h0_1, .ref h1, .ref h2, .ref h3, .ref h4, h0_6, .int gc, .int z_17, h0_9, h0_10])), (h1, .inl (ch1, 10, .inl fh1)), (h2, .inl (ch2, 10, .inl fh2)), (h3, .inl (ch3, 10, .inl fh3)), (h4, .inl (ch4, 10, .inl fh4))]) [0, 1, 2, 3, 4] (by decide) rfl
            have hK9 := hK.sub (tys' := []) [] rfl
            refine W.widen (k := 0) (n := 0) (Nat.le_of_ble_eq_true rfl) (Nat.le_of_ble_eq_true rfl) ?_
            exact W.vret hx hb hr (fun t ht hW => ⟨⟨(), rfl, trivial, ⟨z_17, fh4, by rw [ht]; exact hP9, va_K.moved hW.alike hK9, hD9⟩⟩, hS.F ht⟩) hS.2.2 dX2_weighCell_170
          · have k_21 : (c_6).toInt ≠ (-1 : Int) := z_ne c_19
            refine lv_aload_n hx hb dX2_weighCell_147 rfl (lv_at hl 5 rfl) ?_
            refine va_get (D := (dC, dI)) (ci := 2) (v := .ref h4) (C := RX2) (T := TX2) (N := 11) hx hb hts hiX2 hown hK hP 0 rfl rfl 5 (by decide) w__fieldLink_RX2_28_ShellHeap_Ground_without_I_ (fun _ h9 => h9) rfl dX2_weighCell_148 ?_
            refine lv_iload_n hx hb dX2_weighCell_151 rfl (lv_at hl 4 rfl) ?_
            refine lv_dup2_11 hx hb dX2_weighCell_152 rfl rfl ?_
            refine va_iald hx hb hK hP 4 3 rfl rfl (z_vpin (by omega) (by omega)) dX2_weighCell_153 ?_
            refine lv_topi (fun z_22 ez_22 => ?_)
            refine lv_aload_n hx hb dX2_weighCell_154 rfl (lv_at hl 5 rfl) ?_
            refine va_get (D := (dC, dI)) (ci := 2) (v := .ref h3) (C := RX2) (T := TX2) (N := 11) hx hb hts hiX2 hown hK hP 0 rfl rfl 4 (by decide) w__fieldLink_RX2_25_ShellHeap_Ground_ofBed_I_ (fun _ h9 => h9) rfl dX2_weighCell_155 ?_
            refine lv_iload hx hb dX2_weighCell_158 (lv_at hl 3 rfl) ?_
            refine va_iald hx hb hK hP 3 2 rfl rfl (z_vpin (by omega) (by omega)) dX2_weighCell_160 ?_
            refine lv_topi (fun z_23 ez_23 => ?_)
            refine lv_aload_n hx hb dX2_weighCell_161 rfl (lv_at hl 5 rfl) ?_
            refine va_get (D := (dC, dI)) (ci := 2) (v := .ref h3) (C := RX2) (T := TX2) (N := 11) hx hb hts hiX2 hown hK hP 0 rfl rfl 4 (by decide) w__fieldLink_RX2_25_ShellHeap_Ground_ofBed_I_ (fun _ h9 => h9) rfl dX2_weighCell_162 ?_
            refine lv_iload_n hx hb dX2_weighCell_165 rfl (lv_at hl 4 rfl) ?_
            refine va_iald hx hb hK hP 3 2 rfl rfl (z_vpin (by omega) (by omega)) dX2_weighCell_166 ?_
            refine lv_topi (fun z_24 ez_24 => ?_)
            refine lv_isub hx hb dX2_weighCell_167 ?_
            refine lv_topi (fun z_25 ez_25 => ?_)
            refine lv_iadd hx hb dX2_weighCell_168 ?_
            refine lv_topi (fun z_26 ez_26 => ?_)
            refine va_iast hx hb hK hP hD hS 4 3 rfl rfl (z_vpin (by omega) (by omega)) dX2_weighCell_169 (fun H_27 locs hP hD hS => ?_)
            have hP : va_P (dC, dI) vwCl [(h0, .inr (2, [h0_0, h0_1, .ref h1, .ref h2, .ref h3, .ref h4, h0_6, .int gc, .int z_17, h0_9, h0_10])), (h1, .inl (ch1, 10, .inl fh1)), (h2, .inl (ch2, 10, .inl fh2)), (h3, .inl (ch3, 10, .inl fh3)), (h4, .inl (ch4, 10, .inl (upd fh4 (a_5 : Int32).toNatClampNeg z_26)))] H_27 := hP
            have hD : va_D A [(h0, .inr (2, [h0_0, h0_1, .ref h1, .ref h2, .ref h3, .ref h4, h0_6, .int gc, .int z_17, h0_9, h0_10])), (h1, .inl (ch1, 10, .inl fh1)), (h2, .inl (ch2, 10, .inl fh2)), (h3, .inl (ch3, 10, .inl fh3)), (h4, .inl (ch4, 10, .inl (upd fh4 (a_5 : Int32).toNatClampNeg z_26)))] := hD
            generalize (upd fh4 (a_5 : Int32).toNatClampNeg z_26) = f_28 at hP hD
            refine z_backQ hQQ ?_
            have hP9 := hP.sub (ws' := [(h0, .inr (2, [h0_0, h0_1, .ref h1, .ref h2, .ref h3, .ref h4, h0_6, .int gc, .int z_17, h0_9, h0_10])), (h1, .inl (ch1, 10, .inl fh1)), (h2, .inl (ch2, 10, .inl fh2)), (h3, .inl (ch3, 10, .inl fh3)), (h4, .inl (ch4, 10, .inl f_28))]) [0, 1, 2, 3, 4] rfl
            have hD9 := hD.sub (ws' := [(h0, .inr (2, [h0_0, h0_1, .ref h1, .ref h2, .ref h3, .ref h4, h0_6, .int gc, .int z_17, h0_9, h0_10])), (h1, .inl (ch1, 10, .inl fh1)), (h2, .inl (ch2, 10, .inl fh2)), (h3, .inl (ch3, 10, .inl fh3)), (h4, .inl (ch4, 10, .inl f_28))]) [0, 1, 2, 3, 4] (by decide) rfl
            have hK9 := hK.sub (tys' := []) [] rfl
            refine W.widen (k := 0) (n := 0) (Nat.le_of_ble_eq_true rfl) (Nat.le_of_ble_eq_true rfl) ?_
            exact W.vret hx hb hr (fun t ht hW => ⟨⟨(), rfl, trivial, ⟨z_17, f_28, by rw [ht]; exact hP9, va_K.moved hW.alike hK9, hD9⟩⟩, hS.F ht⟩) hS.2.2 dX2_weighCell_170
        · have k_29 : (a_5).toInt = (-1 : Int) := z_eq c_14
          obtain rfl : a_5 = (-1) := z_eq' (show (a_5).toInt = (-1 : Int) by omega)
          refine z_backQ hQQ ?_
          have hP9 := hP.sub (ws' := [(h0, .inr (2, [h0_0, h0_1, .ref h1, .ref h2, .ref h3, .ref h4, h0_6, .int gc, .int go, h0_9, h0_10])), (h1, .inl (ch1, 10, .inl fh1)), (h2, .inl (ch2, 10, .inl fh2)), (h3, .inl (ch3, 10, .inl fh3)), (h4, .inl (ch4, 10, .inl fh4))]) [0, 1, 2, 3, 4] rfl
          have hD9 := hD.sub (ws' := [(h0, .inr (2, [h0_0, h0_1, .ref h1, .ref h2, .ref h3, .ref h4, h0_6, .int gc, .int go, h0_9, h0_10])), (h1, .inl (ch1, 10, .inl fh1)), (h2, .inl (ch2, 10, .inl fh2)), (h3, .inl (ch3, 10, .inl fh3)), (h4, .inl (ch4, 10, .inl fh4))]) [0, 1, 2, 3, 4] (by decide) rfl
          have hK9 := hK.sub (tys' := []) [] rfl
          refine W.widen (k := 0) (n := 0) (Nat.le_of_ble_eq_true rfl) (Nat.le_of_ble_eq_true rfl) ?_
          exact W.vret hx hb hr (fun t ht hW => ⟨⟨(), rfl, trivial, ⟨go, fh4, by rw [ht]; exact hP9, va_K.moved hW.alike hK9, hD9⟩⟩, hS.F ht⟩) hS.2.2 dX2_weighCell_125
      · have k_30 : (gc).toInt > (i_4).toInt := z_nle c_12
        refine lv_aload_n hx hb dX2_weighCell_23 rfl (lv_at hl 5 rfl) ?_
        refine va_get (D := (dC, dI)) (ci := 2) (v := .ref h1) (C := RX2) (T := TX2) (N := 11) hx hb hts hiX2 hown hK hP 0 rfl rfl 2 (by decide) w__fieldLink_RX2_18_ShellHeap_Ground_xs_I_ (fun _ h9 => h9) rfl dX2_weighCell_24 ?_
        refine lv_iload hx hb dX2_weighCell_27 (lv_at hl 0 rfl) ?_
        refine va_iald hx hb hK hP 1 0 rfl rfl (z_vpin (by omega) (by omega)) dX2_weighCell_29 ?_
        refine lv_topi (fun z_31 ez_31 => ?_)
        refine lv_iload_n hx hb dX2_weighCell_30 rfl (lv_at hl 6 rfl) ?_
        refine lv_isub hx hb dX2_weighCell_31 ?_
        refine lv_topi (fun z_32 ez_32 => ?_)
        refine lv_aload_n hx hb dX2_weighCell_32 rfl (lv_at hl 5 rfl) ?_
        refine va_get (D := (dC, dI)) (ci := 2) (v := .ref h1) (C := RX2) (T := TX2) (N := 11) hx hb hts hiX2 hown hK hP 0 rfl rfl 2 (by decide) w__fieldLink_RX2_18_ShellHeap_Ground_xs_I_ (fun _ h9 => h9) rfl dX2_weighCell_33 ?_
        refine lv_iload hx hb dX2_weighCell_36 (lv_at hl 0 rfl) ?_
        refine va_iald hx hb hK hP 1 0 rfl rfl (z_vpin (by omega) (by omega)) dX2_weighCell_38 ?_
        refine lv_topi (fun z_33 ez_33 => ?_)
        refine lv_iload_n hx hb dX2_weighCell_39 rfl (lv_at hl 6 rfl) ?_
        refine lv_isub hx hb dX2_weighCell_40 ?_
        refine lv_topi (fun z_34 ez_34 => ?_)
        refine lv_imul hx hb dX2_weighCell_41 ?_
        refine lv_topi (fun z_35 ez_35 => ?_)
        refine lv_aload_n hx hb dX2_weighCell_42 rfl (lv_at hl 5 rfl) ?_
        refine va_get (D := (dC, dI)) (ci := 2) (v := .ref h2) (C := RX2) (T := TX2) (N := 11) hx hb hts hiX2 hown hK hP 0 rfl rfl 3 (by decide) w__fieldLink_RX2_22_ShellHeap_Ground_ys_I_ (fun _ h9 => h9) rfl dX2_weighCell_43 ?_
        refine lv_iload hx hb dX2_weighCell_46 (lv_at hl 0 rfl) ?_
        refine va_iald hx hb hK hP 2 1 rfl rfl (z_vpin (by omega) (by omega)) dX2_weighCell_48 ?_
        refine lv_topi (fun z_36 ez_36 => ?_)
        refine lv_iload_n hx hb dX2_weighCell_49 rfl (lv_at hl 7 rfl) ?_
        refine lv_isub hx hb dX2_weighCell_50 ?_
        refine lv_topi (fun z_37 ez_37 => ?_)
        refine lv_aload_n hx hb dX2_weighCell_51 rfl (lv_at hl 5 rfl) ?_
        refine va_get (D := (dC, dI)) (ci := 2) (v := .ref h2) (C := RX2) (T := TX2) (N := 11) hx hb hts hiX2 hown hK hP 0 rfl rfl 3 (by decide) w__fieldLink_RX2_22_ShellHeap_Ground_ys_I_ (fun _ h9 => h9) rfl dX2_weighCell_52 ?_
        refine lv_iload hx hb dX2_weighCell_55 (lv_at hl 0 rfl) ?_
        refine va_iald hx hb hK hP 2 1 rfl rfl (z_vpin (by omega) (by omega)) dX2_weighCell_57 ?_
        refine lv_topi (fun z_38 ez_38 => ?_)
        refine lv_iload_n hx hb dX2_weighCell_58 rfl (lv_at hl 7 rfl) ?_
        refine lv_isub hx hb dX2_weighCell_59 ?_
        refine lv_topi (fun z_39 ez_39 => ?_)
        refine lv_imul hx hb dX2_weighCell_60 ?_
        refine lv_topi (fun z_40 ez_40 => ?_)
        refine lv_iadd hx hb dX2_weighCell_61 ?_
        refine lv_topi (fun z_41 ez_41 => ?_)
        refine lv_istore (lv' := [(8, .int z_41), (7, .int i_4), (6, .int v_8), (5, .int u_7), (4, .int c_6), (3, .int a_5), (0, .ref h0), (1, .int p1), (2, .int p2)]) hx hb dX2_weighCell_62 hl (by decide) rfl (fun ls hl => ?_)
        refine lv_iload_n hx hb dX2_weighCell_64 rfl (lv_at hl 5 rfl) ?_
        refine lv_iconst (v := (-1)) hx hb dX2_weighCell_65 (by decide) ?_
        refine lv_icmp_eq (tgt := 76) hx hb dX2_weighCell_66 (by decide) (fun c_42 => ?_) (fun c_42 => ?_)
        · have k_43 : (a_5).toInt = (-1 : Int) := z_eq c_42
          obtain rfl : a_5 = (-1) := z_eq' (show (a_5).toInt = (-1 : Int) by omega)
          refine lv_iload_n hx hb dX2_weighCell_76 rfl (lv_at hl 5 rfl) ?_
          refine lv_istore (lv' := [(4, .int (-1)), (8, .int z_41), (7, .int i_4), (6, .int v_8), (5, .int u_7), (3, .int (-1)), (0, .ref h0), (1, .int p1), (2, .int p2)]) hx hb dX2_weighCell_77 hl (by decide) rfl (fun ls hl => ?_)
          refine lv_iload hx hb dX2_weighCell_79 (lv_at hl 4 rfl) ?_
          refine lv_istore (lv' := [(6, .int u_7), (4, .int (-1)), (8, .int z_41), (7, .int i_4), (5, .int u_7), (3, .int (-1)), (0, .ref h0), (1, .int p1), (2, .int p2)]) hx hb dX2_weighCell_81 hl (by decide) rfl (fun ls hl => ?_)
          refine lv_iload hx hb dX2_weighCell_83 (lv_at hl 3 rfl) ?_
          refine lv_istore_n (lv' := [(3, .int i_4), (6, .int u_7), (4, .int (-1)), (8, .int z_41), (7, .int i_4), (5, .int u_7), (0, .ref h0), (1, .int p1), (2, .int p2)]) hx hb dX2_weighCell_85 rfl hl (by decide) rfl (fun ls hl => ?_)
          refine lv_iload hx hb dX2_weighCell_86 (lv_at hl 3 rfl) ?_
          refine lv_istore (lv' := [(5, .int z_41), (3, .int i_4), (6, .int u_7), (4, .int (-1)), (8, .int z_41), (7, .int i_4), (0, .ref h0), (1, .int p1), (2, .int p2)]) hx hb dX2_weighCell_88 hl (by decide) rfl (fun ls hl => ?_)
          refine lv_goto (tgt := 114) hx hb dX2_weighCell_90 (by decide) ?_
          obtain ⟨z_44, ez_44⟩ : ∃ y : Int32, y = i_4 + 1 := ⟨_, rfl⟩
          have kz_44 : (z_44).toInt = (i_4).toInt + (1 : Int) := by rw [ez_44]; exact z_add (b := 1) rfl rfl (by omega) (by omega)
          refine lv_iinc (v := z_44) (lv' := [(7, .int z_44), (5, .int z_41), (3, .int i_4), (6, .int u_7), (4, .int (-1)), (8, .int z_41), (0, .ref h0), (1, .int p1), (2, .int p2)]) hx hb dX2_weighCell_114 hl (k := 5) rfl (by rw [ez_44]; rfl) (by decide) rfl (fun ls hl => ?_)
          refine lv_goto (tgt := 14) hx hb dX2_weighCell_117 (by decide) ?_
          exact ih_3 z_44 i_4 (-1) z_41 u_7 _ _ _ (show (11 - (z_44).toInt).toNat < n_2 by omega) (show ((0 : Int) ≤ (z_44).toInt ∧ (z_44).toInt ≤ (10 : Int)) by omega) (show ((-1 : Int) ≤ (i_4).toInt ∧ (i_4).toInt ≤ (9 : Int)) by omega) (show ((-1 : Int) ≤ (-1 : Int) ∧ (-1 : Int) ≤ (9 : Int)) by omega) hP hD hS (lv_sub hl [0, 3, 1, 4, 2, 6, 7, 8] rfl)
        · have k_45 : (a_5).toInt ≠ (-1 : Int) := z_ne c_42
          refine lv_iload hx hb dX2_weighCell_69 (lv_at hl 0 rfl) ?_
          refine lv_iload hx hb dX2_weighCell_71 (lv_at hl 3 rfl) ?_
          refine lv_icmp_ge (tgt := 93) hx hb dX2_weighCell_73 (by decide) (fun c_46 => ?_) (fun c_46 => ?_)
          · have k_47 : (u_7).toInt ≤ (z_41).toInt := z_le c_46
            refine lv_iload hx hb dX2_weighCell_93 (lv_at hl 4 rfl) ?_
            refine lv_iconst (v := (-1)) hx hb dX2_weighCell_95 (by decide) ?_
            refine lv_icmp_eq (tgt := 106) hx hb dX2_weighCell_96 (by decide) (fun c_48 => ?_) (fun c_48 => ?_)
            · have k_49 : (c_6).toInt = (-1 : Int) := z_eq c_48
              obtain rfl : c_6 = (-1) := z_eq' (show (c_6).toInt = (-1 : Int) by omega)
              refine lv_iload hx hb dX2_weighCell_106 (lv_at hl 1 rfl) ?_
              refine lv_istore (lv' := [(4, .int i_4), (8, .int z_41), (7, .int i_4), (6, .int v_8), (5, .int u_7), (3, .int a_5), (0, .ref h0), (1, .int p1), (2, .int p2)]) hx hb dX2_weighCell_108 hl (by decide) rfl (fun ls hl => ?_)
              refine lv_iload hx hb dX2_weighCell_110 (lv_at hl 1 rfl) ?_
              refine lv_istore (lv' := [(6, .int z_41), (4, .int i_4), (8, .int z_41), (7, .int i_4), (5, .int u_7), (3, .int a_5), (0, .ref h0), (1, .int p1), (2, .int p2)]) hx hb dX2_weighCell_112 hl (by decide) rfl (fun ls hl => ?_)
              obtain ⟨z_50, ez_50⟩ : ∃ y : Int32, y = i_4 + 1 := ⟨_, rfl⟩
              have kz_50 : (z_50).toInt = (i_4).toInt + (1 : Int) := by rw [ez_50]; exact z_add (b := 1) rfl rfl (by omega) (by omega)
              refine lv_iinc (v := z_50) (lv' := [(7, .int z_50), (6, .int z_41), (4, .int i_4), (8, .int z_41), (5, .int u_7), (3, .int a_5), (0, .ref h0), (1, .int p1), (2, .int p2)]) hx hb dX2_weighCell_114 hl (k := 3) rfl (by rw [ez_50]; rfl) (by decide) rfl (fun ls hl => ?_)
              refine lv_goto (tgt := 14) hx hb dX2_weighCell_117 (by decide) ?_
              exact ih_3 z_50 a_5 i_4 u_7 z_41 _ _ _ (show (11 - (z_50).toInt).toNat < n_2 by omega) (show ((0 : Int) ≤ (z_50).toInt ∧ (z_50).toInt ≤ (10 : Int)) by omega) (show ((-1 : Int) ≤ (a_5).toInt ∧ (a_5).toInt ≤ (9 : Int)) by omega) (show ((-1 : Int) ≤ (i_4).toInt ∧ (i_4).toInt ≤ (9 : Int)) by omega) hP hD hS (lv_sub hl [0, 1, 4, 2, 5, 6, 7, 8] rfl)
            · have k_51 : (c_6).toInt ≠ (-1 : Int) := z_ne c_48
              refine lv_iload hx hb dX2_weighCell_99 (lv_at hl 0 rfl) ?_
              refine lv_iload hx hb dX2_weighCell_101 (lv_at hl 2 rfl) ?_
              refine lv_icmp_ge (tgt := 114) hx hb dX2_weighCell_103 (by decide) (fun c_52 => ?_) (fun c_52 => ?_)
              · have k_53 : (v_8).toInt ≤ (z_41).toInt := z_le c_52
                obtain ⟨z_54, ez_54⟩ : ∃ y : Int32, y = i_4 + 1 := ⟨_, rfl⟩
                have kz_54 : (z_54).toInt = (i_4).toInt + (1 : Int) := by rw [ez_54]; exact z_add (b := 1) rfl rfl (by omega) (by omega)
                refine lv_iinc (v := z_54) (lv' := [(7, .int z_54), (8, .int z_41), (6, .int v_8), (5, .int u_7), (4, .int c_6), (3, .int a_5), (0, .ref h0), (1, .int p1), (2, .int p2)]) hx hb dX2_weighCell_114 hl (k := 1) rfl (by rw [ez_54]; rfl) (by decide) rfl (fun ls hl => ?_)
                refine lv_goto (tgt := 14) hx hb dX2_weighCell_117 (by decide) ?_
                exact ih_3 z_54 a_5 c_6 u_7 v_8 _ _ _ (show (11 - (z_54).toInt).toNat < n_2 by omega) (show ((0 : Int) ≤ (z_54).toInt ∧ (z_54).toInt ≤ (10 : Int)) by omega) (show ((-1 : Int) ≤ (a_5).toInt ∧ (a_5).toInt ≤ (9 : Int)) by omega) (show ((-1 : Int) ≤ (c_6).toInt ∧ (c_6).toInt ≤ (9 : Int)) by omega) hP hD hS (lv_sub hl [0, 2, 3, 4, 5, 6, 7, 8] rfl)
              · have k_55 : (v_8).toInt > (z_41).toInt := z_nle c_52
                refine lv_iload hx hb dX2_weighCell_106 (lv_at hl 1 rfl) ?_
                refine lv_istore (lv' := [(4, .int i_4), (8, .int z_41), (7, .int i_4), (6, .int v_8), (5, .int u_7), (3, .int a_5), (0, .ref h0), (1, .int p1), (2, .int p2)]) hx hb dX2_weighCell_108 hl (by decide) rfl (fun ls hl => ?_)
                refine lv_iload hx hb dX2_weighCell_110 (lv_at hl 1 rfl) ?_
                refine lv_istore (lv' := [(6, .int z_41), (4, .int i_4), (8, .int z_41), (7, .int i_4), (5, .int u_7), (3, .int a_5), (0, .ref h0), (1, .int p1), (2, .int p2)]) hx hb dX2_weighCell_112 hl (by decide) rfl (fun ls hl => ?_)
                obtain ⟨z_56, ez_56⟩ : ∃ y : Int32, y = i_4 + 1 := ⟨_, rfl⟩
                have kz_56 : (z_56).toInt = (i_4).toInt + (1 : Int) := by rw [ez_56]; exact z_add (b := 1) rfl rfl (by omega) (by omega)
                refine lv_iinc (v := z_56) (lv' := [(7, .int z_56), (6, .int z_41), (4, .int i_4), (8, .int z_41), (5, .int u_7), (3, .int a_5), (0, .ref h0), (1, .int p1), (2, .int p2)]) hx hb dX2_weighCell_114 hl (k := 3) rfl (by rw [ez_56]; rfl) (by decide) rfl (fun ls hl => ?_)
                refine lv_goto (tgt := 14) hx hb dX2_weighCell_117 (by decide) ?_
                exact ih_3 z_56 a_5 i_4 u_7 z_41 _ _ _ (show (11 - (z_56).toInt).toNat < n_2 by omega) (show ((0 : Int) ≤ (z_56).toInt ∧ (z_56).toInt ≤ (10 : Int)) by omega) (show ((-1 : Int) ≤ (a_5).toInt ∧ (a_5).toInt ≤ (9 : Int)) by omega) (show ((-1 : Int) ≤ (i_4).toInt ∧ (i_4).toInt ≤ (9 : Int)) by omega) hP hD hS (lv_sub hl [0, 1, 4, 2, 5, 6, 7, 8] rfl)
          · have k_57 : (u_7).toInt > (z_41).toInt := z_nle c_46
            refine lv_iload_n hx hb dX2_weighCell_76 rfl (lv_at hl 5 rfl) ?_
            refine lv_istore (lv' := [(4, .int a_5), (8, .int z_41), (7, .int i_4), (6, .int v_8), (5, .int u_7), (3, .int a_5), (0, .ref h0), (1, .int p1), (2, .int p2)]) hx hb dX2_weighCell_77 hl (by decide) rfl (fun ls hl => ?_)
            refine lv_iload hx hb dX2_weighCell_79 (lv_at hl 4 rfl) ?_
            refine lv_istore (lv' := [(6, .int u_7), (4, .int a_5), (8, .int z_41), (7, .int i_4), (5, .int u_7), (3, .int a_5), (0, .ref h0), (1, .int p1), (2, .int p2)]) hx hb dX2_weighCell_81 hl (by decide) rfl (fun ls hl => ?_)
            refine lv_iload hx hb dX2_weighCell_83 (lv_at hl 3 rfl) ?_
            refine lv_istore_n (lv' := [(3, .int i_4), (6, .int u_7), (4, .int a_5), (8, .int z_41), (7, .int i_4), (5, .int u_7), (0, .ref h0), (1, .int p1), (2, .int p2)]) hx hb dX2_weighCell_85 rfl hl (by decide) rfl (fun ls hl => ?_)
            refine lv_iload hx hb dX2_weighCell_86 (lv_at hl 3 rfl) ?_
            refine lv_istore (lv' := [(5, .int z_41), (3, .int i_4), (6, .int u_7), (4, .int a_5), (8, .int z_41), (7, .int i_4), (0, .ref h0), (1, .int p1), (2, .int p2)]) hx hb dX2_weighCell_88 hl (by decide) rfl (fun ls hl => ?_)
            refine lv_goto (tgt := 114) hx hb dX2_weighCell_90 (by decide) ?_
            obtain ⟨z_58, ez_58⟩ : ∃ y : Int32, y = i_4 + 1 := ⟨_, rfl⟩
            have kz_58 : (z_58).toInt = (i_4).toInt + (1 : Int) := by rw [ez_58]; exact z_add (b := 1) rfl rfl (by omega) (by omega)
            refine lv_iinc (v := z_58) (lv' := [(7, .int z_58), (5, .int z_41), (3, .int i_4), (6, .int u_7), (4, .int a_5), (8, .int z_41), (0, .ref h0), (1, .int p1), (2, .int p2)]) hx hb dX2_weighCell_114 hl (k := 5) rfl (by rw [ez_58]; rfl) (by decide) rfl (fun ls hl => ?_)
            refine lv_goto (tgt := 14) hx hb dX2_weighCell_117 (by decide) ?_
            exact ih_3 z_58 i_4 a_5 z_41 u_7 _ _ _ (show (11 - (z_58).toInt).toNat < n_2 by omega) (show ((0 : Int) ≤ (z_58).toInt ∧ (z_58).toInt ≤ (10 : Int)) by omega) (show ((-1 : Int) ≤ (i_4).toInt ∧ (i_4).toInt ≤ (9 : Int)) by omega) (show ((-1 : Int) ≤ (a_5).toInt ∧ (a_5).toInt ≤ (9 : Int)) by omega) hP hD hS (lv_sub hl [0, 3, 1, 4, 2, 6, 7, 8] rfl)
  exact loop_1 _ 0 (-1) (-1) 0 0 _ _ _ (Nat.lt_succ_self _) (show ((0 : Int) ≤ (0 : Int) ∧ (0 : Int) ≤ (10 : Int)) by omega) (show ((-1 : Int) ≤ (-1 : Int) ∧ (-1 : Int) ≤ (9 : Int)) by omega) (show ((-1 : Int) ≤ (-1 : Int) ∧ (-1 : Int) ≤ (9 : Int)) by omega) hP hD hS hl
def u_s_X2_weigh : List Cond := .code yX2_weigh cX2_weigh 4 none :: ([.fieldLink RX2 37 "ShellHeap$Ground" "whole" "I", .fieldLink RX2 34 "ShellHeap$Ground" "columns" "I", .fieldLink RX2 9 "ShellHeap$Ground" "w" "I", .methodLink RX2 54 yX2_leaveOutEach, .instanceMethod yX2_leaveOutEach, .selects RX2 yX2_leaveOutEach yX2_leaveOutEach, .initialized RX2, .code yX2_leaveOutEach cX2_leaveOutEach 3 none, .fieldLink RX2 28 "ShellHeap$Ground" "without" "[I", .fieldLink RX2 40 "ShellHeap$Ground" "least" "I", .methodLink RX2 57 Lib.Math.min.name, .static Lib.Math.min.name, .initialized "java/lang/Math", .code Lib.Math.min.name Lib.Math.min.code 2 (some .int), .fieldLink RX2 43 "ShellHeap$Ground" "greatest" "I", .methodLink RX2 63 Lib.Math.max.name, .static Lib.Math.max.name, .code Lib.Math.max.name Lib.Math.max.code 2 (some .int), .fieldLink RX2 15 "ShellHeap$Ground" "h" "I", .methodLink RX2 50 yX2_weighCell, .instanceMethod yX2_weighCell, .selects RX2 yX2_weighCell yX2_weighCell, .code yX2_weighCell cX2_weighCell 9 none, .fieldLink RX2 25 "ShellHeap$Ground" "ofBed" "[I", .fieldLink RX2 18 "ShellHeap$Ground" "xs" "[I", .fieldLink RX2 22 "ShellHeap$Ground" "ys" "[I", .fieldLink RX2 31 "ShellHeap$Ground" "thickness" "[I"] ++ wsX20)
set_option maxRecDepth 20000 in
theorem gw_s_X2_weigh_s_X2_leaveOutEach_54 : GoodIn u_s_X2_weigh (wsV RX2 54 RX2 yX2_leaveOutEach u_s_X2_leaveOutEach) := goodIn_r _ [4, 5, 6, 7, 8, 2, 1, 9, 10, 11, 12, 13, 14, 15, 16, 17, 18, 28, 29, 30, 31, 32, 33, 34, 35, 36, 37, 38] (by decide +kernel) (by decide +kernel)
set_option maxRecDepth 20000 in
theorem gw_s_X2_weigh_s_X2_weighCell_50 : GoodIn u_s_X2_weigh (wsV RX2 50 RX2 yX2_weighCell u_s_X2_weighCell) := goodIn_r _ [20, 21, 22, 7, 23, 2, 1, 24, 9, 25, 26, 28, 29, 30, 31, 32, 33, 34, 35, 36, 37, 38] (by decide +kernel) (by decide +kernel)
set_option maxHeartbeats 4000000 in
set_option maxRecDepth 100000 in
theorem s_X2_weigh (l : Launch) (dC : Nat → ClassId) (dI : Nat → Nat → Nat) (sz : Nat) (h0 : Nat) (p1 : Int32) (gw : Int32) (gh : Int32) (h1 : Nat) (h2 : Nat) (h3 : Nat) (h4 : Nat) (h5 : Nat) (gc : Int32) (go : Int32) (gl : Int32) (gg : Int32) (ch1 : ClassId) (fh1 : Nat → Int32) (ch2 : ClassId) (fh2 : Nat → Int32) (ch3 : ClassId) (fh3 : Nat → Int32) (ch4 : ClassId) (fh4 : Nat → Int32) (ch5 : ClassId) (fh5 : Nat → Int32) (hB_gw : ((2 : Int) ≤ (gw).toInt ∧ (gw).toInt ≤ (12 : Int))) (hB_gh : ((2 : Int) ≤ (gh).toInt ∧ (gh).toInt ≤ (12 : Int))) (hB_gc : ((0 : Int) ≤ (gc).toInt ∧ (gc).toInt ≤ (10 : Int))) : Met l yX2_weigh u_s_X2_weigh ({ frames := 2, cells := 0, slots := 0, locals := 36 }) (va_Pc [.ref h0, .int p1] (z_C (dC, dI) vwCl [(h0, .inr (2, [.int gw, .int gh, .ref h1, .ref h2, .ref h3, .ref h4, .ref h5, .int gc, .int go, .int gl, .int gg])), (h1, .inl (ch1, 10, .inl fh1)), (h2, .inl (ch2, 10, .inl fh2)), (h3, .inl (ch3, 10, .inl fh3)), (h4, .inl (ch4, 10, .inl fh4)), (h5, .inl (ch5, 120, .inl fh5))] [(ch1, .int), (ch2, .int), (ch3, .int), (ch4, .int), (ch5, .int)] sz)) (va_Qv (fun (_ : Unit) => True) (fun (_ : Unit) (t : State) => ∃ (n_h0_whole : Int32), ∃ (n_h0_least : Int32), ∃ (n_h0_greatest : Int32), ∃ (g_h3 : Nat → Int32), ∃ (g_h4 : Nat → Int32), va_P (dC, dI) vwCl [(h0, .inr (2, [.int gw, .int gh, .ref h1, .ref h2, .ref h3, .ref h4, .ref h5, .int gc, .int n_h0_whole, .int n_h0_least, .int n_h0_greatest])), (h1, .inl (ch1, 10, .inl fh1)), (h2, .inl (ch2, 10, .inl fh2)), (h3, .inl (ch3, 10, .inl g_h3)), (h4, .inl (ch4, 10, .inl g_h4)), (h5, .inl (ch5, 120, .inl fh5))] t.heap ∧ va_K (dC, dI) vwCl [] t ∧ va_D (va_A [(h0, .inr (2, [.int gw, .int gh, .ref h1, .ref h2, .ref h3, .ref h4, .ref h5, .int gc, .int go, .int gl, .int gg])), (h1, .inl (ch1, 10, .inl fh1)), (h2, .inl (ch2, 10, .inl fh2)), (h3, .inl (ch3, 10, .inl fh3)), (h4, .inl (ch4, 10, .inl fh4)), (h5, .inl (ch5, 120, .inl fh5))] sz) [(h0, .inr (2, [.int gw, .int gh, .ref h1, .ref h2, .ref h3, .ref h4, .ref h5, .int gc, .int n_h0_whole, .int n_h0_least, .int n_h0_greatest])), (h1, .inl (ch1, 10, .inl fh1)), (h2, .inl (ch2, 10, .inl fh2)), (h3, .inl (ch3, 10, .inl g_h3)), (h4, .inl (ch4, 10, .inl g_h4)), (h5, .inl (ch5, 120, .inl fh5))]) (va_A [(h0, .inr (2, [.int gw, .int gh, .ref h1, .ref h2, .ref h3, .ref h4, .ref h5, .int gc, .int go, .int gl, .int gg])), (h1, .inl (ch1, 10, .inl fh1)), (h2, .inl (ch2, 10, .inl fh2)), (h3, .inl (ch3, 10, .inl fh3)), (h4, .inl (ch4, 10, .inl fh4)), (h5, .inl (ch5, 120, .inl fh5))] sz)) 0 0 (va_A [(h0, .inr (2, [.int gw, .int gh, .ref h1, .ref h2, .ref h3, .ref h4, .ref h5, .int gc, .int go, .int gl, .int gg])), (h1, .inl (ch1, 10, .inl fh1)), (h2, .inl (ch2, 10, .inl fh2)), (h3, .inl (ch3, 10, .inl fh3)), (h4, .inl (ch4, 10, .inl fh4)), (h5, .inl (ch5, 120, .inl fh5))] sz) := by
  refine Met.ofW (cc := cX2_weigh) (maxL := 4) (ret := none) (by decide) rfl ?_
  intro p e s m args below meth c s₁ B hml hv
  obtain ⟨rfl, hsz, hP, hK, hD0⟩ := hv
  have hx := B.exec
  have hb := B.bytes
  have hr := B.returns
  have hts := atoms_spec (ws := u_s_X2_weigh) B.pre
  have hown : s.vm.findClass RX2 = some m.cls := findClass_of_methodNamed B.named
  have hlocks := B.notSynchronized
  subst hsz
  have hD := hD0.self (sz := s.heap.size)
  generalize hAe : va_A [(h0, .inr (2, [.int gw, .int gh, .ref h1, .ref h2, .ref h3, .ref h4, .ref h5, .int gc, .int go, .int gl, .int gg])), (h1, .inl (ch1, 10, .inl fh1)), (h2, .inl (ch2, 10, .inl fh2)), (h3, .inl (ch3, 10, .inl fh3)), (h4, .inl (ch4, 10, .inl fh4)), (h5, .inl (ch5, 120, .inl fh5))] s.heap.size = A at hD ⊢
  have hA : ∀ q : Nat, s.heap.size ≤ q → A q := fun q h => by rw [← hAe]; exact Or.inr h
  have hS : va_S A s.heap s.heap [] := va_S.rf
  have hP : va_P (dC, dI) vwCl [(h0, .inr (2, [.int gw, .int gh, .ref h1, .ref h2, .ref h3, .ref h4, .ref h5, .int gc, .int go, .int gl, .int gg])), (h1, .inl (ch1, 10, .inl fh1)), (h2, .inl (ch2, 10, .inl fh2)), (h3, .inl (ch3, 10, .inl fh3)), (h4, .inl (ch4, 10, .inl fh4)), (h5, .inl (ch5, 120, .inl fh5))] s.heap := hP
  have w__fieldLink_RX2_37_ShellHeap_Ground_whole_I_ := hts (.fieldLink RX2 37 "ShellHeap$Ground" "whole" "I") (by decide +kernel)
  have hiX2 := show ∀ w ∈ u_ws RX2 TX2 11, w ∈ u_s_X2_weigh by decide +kernel
  have w__fieldLink_RX2_34_ShellHeap_Ground_columns_I_ := hts (.fieldLink RX2 34 "ShellHeap$Ground" "columns" "I") (by decide +kernel)
  have w__fieldLink_RX2_9_ShellHeap_Ground_w_I_ := hts (.fieldLink RX2 9 "ShellHeap$Ground" "w" "I") (by decide +kernel)
  have w__fieldLink_RX2_15_ShellHeap_Ground_h_I_ := hts (.fieldLink RX2 15 "ShellHeap$Ground" "h" "I") (by decide +kernel)
  have w__fieldLink_RX2_25_ShellHeap_Ground_ofBed_I_ := hts (.fieldLink RX2 25 "ShellHeap$Ground" "ofBed" "[I") (by decide +kernel)
  have w__fieldLink_RX2_28_ShellHeap_Ground_without_I_ := hts (.fieldLink RX2 28 "ShellHeap$Ground" "without" "[I") (by decide +kernel)
  have w__fieldLink_RX2_31_ShellHeap_Ground_thickness_I_ := hts (.fieldLink RX2 31 "ShellHeap$Ground" "thickness" "[I") (by decide +kernel)
  have krr_p1 := z_rng p1
  have hl := lv_entry ([.ref h0, .int p1]) (n := 4) (Nat.le_of_ble_eq_true rfl)
  rw [lg_entry_eq]
  generalize (lg_sl ([.ref h0, .int p1]) ++ List.replicate (4 - (lg_sl ([.ref h0, .int p1])).length) Slot.unset).toArray = ls at hl ⊢
  have hl : lv_has ls 4 [(0, .ref h0), (1, .int p1)] := hl
  refine z_nameQ (fun QQ hQQ => ?_)
  refine lv_aload_n hx hb dX2_weigh_0 rfl (lv_at hl 0 rfl) ?_
  refine lv_iconst (v := 0) hx hb dX2_weigh_1 (by decide) ?_
  refine va_put (D := (dC, dI)) (ci := 2) (v := .int 0) (ty := .int) (C := RX2) (T := TX2) (N := 11) hx hb hts hiX2 tyX2 tyX2_ok nmX2 hown hK hP hD hS 0 rfl rfl 8 (by decide) w__fieldLink_RX2_37_ShellHeap_Ground_whole_I_ (fun _ h9 => h9) rfl (by decide +kernel) rfl rfl (Nat.le_of_ble_eq_true rfl) dX2_weigh_2 (fun H_1 locs hP hD hS => ?_)
  have hP : va_P (dC, dI) vwCl [(h0, .inr (2, [.int gw, .int gh, .ref h1, .ref h2, .ref h3, .ref h4, .ref h5, .int gc, .int 0, .int gl, .int gg])), (h1, .inl (ch1, 10, .inl fh1)), (h2, .inl (ch2, 10, .inl fh2)), (h3, .inl (ch3, 10, .inl fh3)), (h4, .inl (ch4, 10, .inl fh4)), (h5, .inl (ch5, 120, .inl fh5))] H_1 := hP
  have hD : va_D A [(h0, .inr (2, [.int gw, .int gh, .ref h1, .ref h2, .ref h3, .ref h4, .ref h5, .int gc, .int 0, .int gl, .int gg])), (h1, .inl (ch1, 10, .inl fh1)), (h2, .inl (ch2, 10, .inl fh2)), (h3, .inl (ch3, 10, .inl fh3)), (h4, .inl (ch4, 10, .inl fh4)), (h5, .inl (ch5, 120, .inl fh5))] := hD
  refine lv_iconst (v := 0) hx hb dX2_weigh_5 (by decide) ?_
  refine lv_istore_n (lv' := [(2, .int 0), (0, .ref h0), (1, .int p1)]) hx hb dX2_weigh_6 rfl hl (by decide) rfl (fun ls hl => ?_)
  have loop_2 : ∀ (n_3 : Nat) (i_5 : Int32) (f_6 : Nat → Int32) (f_7 : Nat → Int32) (H : Heap) (locs : List Loc) (ls : Array Slot), (11 - (i_5).toInt).toNat < n_3 → (((0 : Int) ≤ (i_5).toInt ∧ (i_5).toInt ≤ (10 : Int))) → va_P (dC, dI) vwCl [(h0, .inr (2, [.int gw, .int gh, .ref h1, .ref h2, .ref h3, .ref h4, .ref h5, .int gc, .int 0, .int gl, .int gg])), (h1, .inl (ch1, 10, .inl fh1)), (h2, .inl (ch2, 10, .inl fh2)), (h3, .inl (ch3, 10, .inl f_6)), (h4, .inl (ch4, 10, .inl f_7)), (h5, .inl (ch5, 120, .inl fh5))] H → va_D A [(h0, .inr (2, [.int gw, .int gh, .ref h1, .ref h2, .ref h3, .ref h4, .ref h5, .int gc, .int 0, .int gl, .int gg])), (h1, .inl (ch1, 10, .inl fh1)), (h2, .inl (ch2, 10, .inl fh2)), (h3, .inl (ch3, 10, .inl f_6)), (h4, .inl (ch4, 10, .inl f_7)), (h5, .inl (ch5, 120, .inl fh5))] → va_S A s.heap H locs → lv_has ls 4 [(2, .int i_5), (0, .ref h0), (1, .int p1)] → W p l e ({ frames := 2, cells := 0, slots := 0, locals := 36 } : Room) s m ([.ref h0, .int p1] : List Value).toArray below meth c H locs 0 0 QQ (F0 m 7 ls []) := by
    intro n_3
    induction n_3 with
    | zero => intro i_5 f_6 f_7 H locs ls hm; exact absurd hm (Nat.not_lt_zero _)
    | succ n_3 ih_4 =>
      intro i_5 f_6 f_7 H locs ls hm hF_8 hP hD hS hl
      refine lv_iload_n hx hb dX2_weigh_7 rfl (lv_at hl 0 rfl) ?_
      refine lv_aload_n hx hb dX2_weigh_8 rfl (lv_at hl 1 rfl) ?_
      refine va_get (D := (dC, dI)) (ci := 2) (v := .int gc) (C := RX2) (T := TX2) (N := 11) hx hb hts hiX2 hown hK hP 0 rfl rfl 7 (by decide) w__fieldLink_RX2_34_ShellHeap_Ground_columns_I_ (fun _ h9 => h9) rfl dX2_weigh_9 ?_
      refine lv_icmp_ge (tgt := 77) hx hb dX2_weigh_12 (by decide) (fun c_9 => ?_) (fun c_9 => ?_)
      · have k_10 : (gc).toInt ≤ (i_5).toInt := z_le c_9
        refine lv_iconst (v := 0) hx hb dX2_weigh_77 (by decide) ?_
        refine lv_istore_n (lv' := [(2, .int 0), (0, .ref h0), (1, .int p1)]) hx hb dX2_weigh_78 rfl hl (by decide) rfl (fun ls hl => ?_)
        have loop_11 : ∀ (n_12 : Nat) (i_14 : Int32) (v_15 : Int32) (f_16 : Nat → Int32) (H : Heap) (locs : List Loc) (ls : Array Slot), (13 - (i_14).toInt).toNat < n_12 → (((0 : Int) ≤ (i_14).toInt ∧ (i_14).toInt ≤ (12 : Int))) → va_P (dC, dI) vwCl [(h0, .inr (2, [.int gw, .int gh, .ref h1, .ref h2, .ref h3, .ref h4, .ref h5, .int gc, .int v_15, .int gl, .int gg])), (h1, .inl (ch1, 10, .inl fh1)), (h2, .inl (ch2, 10, .inl fh2)), (h3, .inl (ch3, 10, .inl f_6)), (h4, .inl (ch4, 10, .inl f_16)), (h5, .inl (ch5, 120, .inl fh5))] H → va_D A [(h0, .inr (2, [.int gw, .int gh, .ref h1, .ref h2, .ref h3, .ref h4, .ref h5, .int gc, .int v_15, .int gl, .int gg])), (h1, .inl (ch1, 10, .inl fh1)), (h2, .inl (ch2, 10, .inl fh2)), (h3, .inl (ch3, 10, .inl f_6)), (h4, .inl (ch4, 10, .inl f_16)), (h5, .inl (ch5, 120, .inl fh5))] → va_S A s.heap H locs → lv_has ls 4 [(2, .int i_14), (0, .ref h0), (1, .int p1)] → W p l e ({ frames := 2, cells := 0, slots := 0, locals := 36 } : Room) s m ([.ref h0, .int p1] : List Value).toArray below meth c H locs 0 0 QQ (F0 m 79 ls []) := by
          intro n_12
          induction n_12 with
          | zero => intro i_14 v_15 f_16 H locs ls hm; exact absurd hm (Nat.not_lt_zero _)
          | succ n_12 ih_13 =>
            intro i_14 v_15 f_16 H locs ls hm hF_17 hP hD hS hl
            refine lv_iload_n hx hb dX2_weigh_79 rfl (lv_at hl 0 rfl) ?_
            refine lv_aload_n hx hb dX2_weigh_80 rfl (lv_at hl 1 rfl) ?_
            refine va_get (D := (dC, dI)) (ci := 2) (v := .int gw) (C := RX2) (T := TX2) (N := 11) hx hb hts hiX2 hown hK hP 0 rfl rfl 0 (by decide) w__fieldLink_RX2_9_ShellHeap_Ground_w_I_ (fun _ h9 => h9) rfl dX2_weigh_81 ?_
            refine lv_icmp_ge (tgt := 115) hx hb dX2_weigh_84 (by decide) (fun c_18 => ?_) (fun c_18 => ?_)
            · have k_19 : (gw).toInt ≤ (i_14).toInt := z_le c_18
              refine lv_aload_n hx hb dX2_weigh_115 rfl (lv_at hl 1 rfl) ?_
              have hPc := hP.sub (ws' := [(h0, .inr (2, [.int gw, .int gh, .ref h1, .ref h2, .ref h3, .ref h4, .ref h5, .int gc, .int v_15, .int gl, .int gg])), (h4, .inl (ch4, 10, .inl f_16))]) [0, 4] rfl
              have hDc := hD.sub (ws' := [(h0, .inr (2, [.int gw, .int gh, .ref h1, .ref h2, .ref h3, .ref h4, .ref h5, .int gc, .int v_15, .int gl, .int gg])), (h4, .inl (ch4, 10, .inl f_16))]) [0, 4] (by decide) rfl
              have hKc := hK.sub (tys' := [(ch4, .int)]) [3] rfl
              have hFc := va_free (wc := [(h0, .inr (2, [.int gw, .int gh, .ref h1, .ref h2, .ref h3, .ref h4, .ref h5, .int gc, .int v_15, .int gl, .int gg])), (h4, .inl (ch4, 10, .inl f_16))]) hD hS hA [0, 4] rfl
              refine va_callv (va_runV (As := []) (rest := []) ⟨hx, hb, hml, hown, hts⟩ (s_X2_leaveOutEach l dC dI H.size h0 (.int gw) (.int gh) (.ref h1) (.ref h2) (.ref h3) h4 (.ref h5) gc v_15 gl gg ch4 f_16 (by first | omega | decide)) (cwV 0 hts gw_s_X2_weigh_s_X2_leaveOutEach_54 rfl rfl rfl (by decide +kernel) ⟨Nat.le_of_ble_eq_true rfl, Nat.le_of_ble_eq_true rfl⟩) ⟨z_blind, va_recv hKc hPc (ci := 2) (q0 := 0) rfl rfl, z_pre hPc hKc hDc⟩ rfl rfl hl.1 rfl (lv_room (Nat.le_of_ble_eq_true rfl)) dX2_weigh_116 ⟨Nat.le_of_ble_eq_true rfl, Nat.le_of_ble_eq_true rfl⟩) hS (fun q _ h => hFc q h) hFc (fun u t H_20 locs ht hvm hw_22 hB hz1 hk1 hS => ?_)
              obtain ⟨n_h0_least_23, n_h0_greatest_24, hP1, hK1, hD1⟩ := hB
              rw [ht] at hP1
              have hK1 := va_K.moved hvm.symm hK1
              obtain ⟨hP, hD⟩ := va_join (wr := [(h1, .inl (ch1, 10, .inl fh1)), (h2, .inl (ch2, 10, .inl fh2)), (h3, .inl (ch3, 10, .inl f_6)), (h5, .inl (ch5, 120, .inl fh5))]) (w1 := [(h0, .inr (2, [.int gw, .int gh, .ref h1, .ref h2, .ref h3, .ref h4, .ref h5, .int gc, .int v_15, .int n_h0_least_23, .int n_h0_greatest_24])), (h4, .inl (ch4, 10, .inl f_16))]) hP hD [0, 4] [1, 2, 3, 5] rfl rfl (by decide) (by decide) hk1 hFc hP1 hD1
              have hP : va_P (dC, dI) vwCl [(h1, .inl (ch1, 10, .inl fh1)), (h2, .inl (ch2, 10, .inl fh2)), (h3, .inl (ch3, 10, .inl f_6)), (h5, .inl (ch5, 120, .inl fh5)), (h0, .inr (2, [.int gw, .int gh, .ref h1, .ref h2, .ref h3, .ref h4, .ref h5, .int gc, .int v_15, .int n_h0_least_23, .int n_h0_greatest_24])), (h4, .inl (ch4, 10, .inl f_16))] H_20 := hP
              have hD : va_D A [(h1, .inl (ch1, 10, .inl fh1)), (h2, .inl (ch2, 10, .inl fh2)), (h3, .inl (ch3, 10, .inl f_6)), (h5, .inl (ch5, 120, .inl fh5)), (h0, .inr (2, [.int gw, .int gh, .ref h1, .ref h2, .ref h3, .ref h4, .ref h5, .int gc, .int v_15, .int n_h0_least_23, .int n_h0_greatest_24])), (h4, .inl (ch4, 10, .inl f_16))] := hD
              clear hPc hDc hKc
              refine z_backQ hQQ ?_
              have hP9 := hP.sub (ws' := [(h0, .inr (2, [.int gw, .int gh, .ref h1, .ref h2, .ref h3, .ref h4, .ref h5, .int gc, .int v_15, .int n_h0_least_23, .int n_h0_greatest_24])), (h1, .inl (ch1, 10, .inl fh1)), (h2, .inl (ch2, 10, .inl fh2)), (h3, .inl (ch3, 10, .inl f_6)), (h4, .inl (ch4, 10, .inl f_16)), (h5, .inl (ch5, 120, .inl fh5))]) [4, 0, 1, 2, 5, 3] rfl
              have hD9 := hD.sub (ws' := [(h0, .inr (2, [.int gw, .int gh, .ref h1, .ref h2, .ref h3, .ref h4, .ref h5, .int gc, .int v_15, .int n_h0_least_23, .int n_h0_greatest_24])), (h1, .inl (ch1, 10, .inl fh1)), (h2, .inl (ch2, 10, .inl fh2)), (h3, .inl (ch3, 10, .inl f_6)), (h4, .inl (ch4, 10, .inl f_16)), (h5, .inl (ch5, 120, .inl fh5))]) [4, 0, 1, 2, 5, 3] (by decide) rfl
              have hK9 := hK.sub (tys' := []) [] rfl
              refine W.widen (k := 0) (n := 0) (Nat.le_of_ble_eq_true rfl) (Nat.le_of_ble_eq_true rfl) ?_
              exact W.vret hx hb hr (fun t ht hW => ⟨⟨(), rfl, trivial, ⟨v_15, n_h0_least_23, n_h0_greatest_24, f_6, f_16, by rw [ht]; exact hP9, va_K.moved hW.alike hK9, hD9⟩⟩, hS.F ht⟩) hS.2.2 dX2_weigh_119
            · have k_25 : (gw).toInt > (i_14).toInt := z_nle c_18
              refine lv_iconst (v := 0) hx hb dX2_weigh_87 (by decide) ?_
              refine lv_istore_n (lv' := [(3, .int 0), (2, .int i_14), (0, .ref h0), (1, .int p1)]) hx hb dX2_weigh_88 rfl hl (by decide) rfl (fun ls hl => ?_)
              have loop_26 : ∀ (n_27 : Nat) (i_29 : Int32) (v_30 : Int32) (f_31 : Nat → Int32) (H : Heap) (locs : List Loc) (ls : Array Slot), (13 - (i_29).toInt).toNat < n_27 → (((0 : Int) ≤ (i_29).toInt ∧ (i_29).toInt ≤ (12 : Int))) → va_P (dC, dI) vwCl [(h0, .inr (2, [.int gw, .int gh, .ref h1, .ref h2, .ref h3, .ref h4, .ref h5, .int gc, .int v_30, .int gl, .int gg])), (h1, .inl (ch1, 10, .inl fh1)), (h2, .inl (ch2, 10, .inl fh2)), (h3, .inl (ch3, 10, .inl f_6)), (h4, .inl (ch4, 10, .inl f_31)), (h5, .inl (ch5, 120, .inl fh5))] H → va_D A [(h0, .inr (2, [.int gw, .int gh, .ref h1, .ref h2, .ref h3, .ref h4, .ref h5, .int gc, .int v_30, .int gl, .int gg])), (h1, .inl (ch1, 10, .inl fh1)), (h2, .inl (ch2, 10, .inl fh2)), (h3, .inl (ch3, 10, .inl f_6)), (h4, .inl (ch4, 10, .inl f_31)), (h5, .inl (ch5, 120, .inl fh5))] → va_S A s.heap H locs → lv_has ls 4 [(3, .int i_29), (2, .int i_14), (0, .ref h0), (1, .int p1)] → W p l e ({ frames := 2, cells := 0, slots := 0, locals := 36 } : Room) s m ([.ref h0, .int p1] : List Value).toArray below meth c H locs 0 0 QQ (F0 m 89 ls []) := by
                intro n_27
                induction n_27 with
                | zero => intro i_29 v_30 f_31 H locs ls hm; exact absurd hm (Nat.not_lt_zero _)
                | succ n_27 ih_28 =>
                  intro i_29 v_30 f_31 H locs ls hm hF_32 hP hD hS hl
                  refine lv_iload_n hx hb dX2_weigh_89 rfl (lv_at hl 0 rfl) ?_
                  refine lv_aload_n hx hb dX2_weigh_90 rfl (lv_at hl 2 rfl) ?_
                  refine va_get (D := (dC, dI)) (ci := 2) (v := .int gh) (C := RX2) (T := TX2) (N := 11) hx hb hts hiX2 hown hK hP 0 rfl rfl 1 (by decide) w__fieldLink_RX2_15_ShellHeap_Ground_h_I_ (fun _ h9 => h9) rfl dX2_weigh_91 ?_
                  refine lv_icmp_ge (tgt := 109) hx hb dX2_weigh_94 (by decide) (fun c_33 => ?_) (fun c_33 => ?_)
                  · have k_34 : (gh).toInt ≤ (i_29).toInt := z_le c_33
                    obtain ⟨z_35, ez_35⟩ : ∃ y : Int32, y = i_14 + 1 := ⟨_, rfl⟩
                    have kz_35 : (z_35).toInt = (i_14).toInt + (1 : Int) := by rw [ez_35]; exact z_add (b := 1) rfl rfl (by omega) (by omega)
                    refine lv_iinc (v := z_35) (lv' := [(2, .int z_35), (3, .int i_29), (0, .ref h0), (1, .int p1)]) hx hb dX2_weigh_109 hl (k := 1) rfl (by rw [ez_35]; rfl) (by decide) rfl (fun ls hl => ?_)
                    refine lv_goto (tgt := 79) hx hb dX2_weigh_112 (by decide) ?_
                    exact ih_13 z_35 v_30 f_31 _ _ _ (show (13 - (z_35).toInt).toNat < n_12 by omega) (show ((0 : Int) ≤ (z_35).toInt ∧ (z_35).toInt ≤ (12 : Int)) by omega) hP hD hS (lv_sub hl [0, 2, 3] rfl)
                  · have k_36 : (gh).toInt > (i_29).toInt := z_nle c_33
                    refine lv_aload_n hx hb dX2_weigh_97 rfl (lv_at hl 2 rfl) ?_
                    refine lv_iload_n hx hb dX2_weigh_98 rfl (lv_at hl 1 rfl) ?_
                    refine lv_iload_n hx hb dX2_weigh_99 rfl (lv_at hl 0 rfl) ?_
                    have hPc := hP.sub (ws' := [(h0, .inr (2, [.int gw, .int gh, .ref h1, .ref h2, .ref h3, .ref h4, .ref h5, .int gc, .int v_30, .int gl, .int gg])), (h1, .inl (ch1, 10, .inl fh1)), (h2, .inl (ch2, 10, .inl fh2)), (h3, .inl (ch3, 10, .inl f_6)), (h4, .inl (ch4, 10, .inl f_31))]) [0, 1, 2, 3, 4] rfl
                    have hDc := hD.sub (ws' := [(h0, .inr (2, [.int gw, .int gh, .ref h1, .ref h2, .ref h3, .ref h4, .ref h5, .int gc, .int v_30, .int gl, .int gg])), (h1, .inl (ch1, 10, .inl fh1)), (h2, .inl (ch2, 10, .inl fh2)), (h3, .inl (ch3, 10, .inl f_6)), (h4, .inl (ch4, 10, .inl f_31))]) [0, 1, 2, 3, 4] (by decide) rfl
                    have hKc := hK.sub (tys' := [(ch1, .int), (ch2, .int), (ch3, .int), (ch4, .int)]) [0, 1, 2, 3] rfl
                    have hFc := va_free (wc := [(h0, .inr (2, [.int gw, .int gh, .ref h1, .ref h2, .ref h3, .ref h4, .ref h5, .int gc, .int v_30, .int gl, .int gg])), (h1, .inl (ch1, 10, .inl fh1)), (h2, .inl (ch2, 10, .inl fh2)), (h3, .inl (ch3, 10, .inl f_6)), (h4, .inl (ch4, 10, .inl f_31))]) hD hS hA [0, 1, 2, 3, 4] rfl
                    refine va_callv (va_runV (As := [.int i_14, .int i_29]) (rest := []) ⟨hx, hb, hml, hown, hts⟩ (s_X2_weighCell l dC dI H.size h0 i_14 i_29 (.int gw) (.int gh) h1 h2 h3 h4 (.ref h5) gc v_30 (.int gl) (.int gg) ch1 fh1 ch2 fh2 ch3 f_6 ch4 f_31 (by first | omega | decide)) (cwV 2 hts gw_s_X2_weigh_s_X2_weighCell_50 rfl rfl rfl (by decide +kernel) ⟨Nat.le_of_ble_eq_true rfl, Nat.le_of_ble_eq_true rfl⟩) ⟨z_blind, va_recv hKc hPc (ci := 2) (q0 := 0) rfl rfl, z_pre hPc hKc hDc⟩ rfl rfl hl.1 rfl (lv_room (Nat.le_of_ble_eq_true rfl)) dX2_weigh_100 ⟨Nat.le_of_ble_eq_true rfl, Nat.le_of_ble_eq_true rfl⟩) hS (fun q _ h => hFc q h) hFc (fun u t H_37 locs ht hvm hw_39 hB hz1 hk1 hS => ?_)
                    obtain ⟨n_h0_whole_40, g_h4_41, hP1, hK1, hD1⟩ := hB
                    rw [ht] at hP1
                    have hK1 := va_K.moved hvm.symm hK1
                    obtain ⟨hP, hD⟩ := va_join (wr := [(h5, .inl (ch5, 120, .inl fh5))]) (w1 := [(h0, .inr (2, [.int gw, .int gh, .ref h1, .ref h2, .ref h3, .ref h4, .ref h5, .int gc, .int n_h0_whole_40, .int gl, .int gg])), (h1, .inl (ch1, 10, .inl fh1)), (h2, .inl (ch2, 10, .inl fh2)), (h3, .inl (ch3, 10, .inl f_6)), (h4, .inl (ch4, 10, .inl g_h4_41))]) hP hD [0, 1, 2, 3, 4] [5] rfl rfl (by decide) (by decide) hk1 hFc hP1 hD1
                    have hP : va_P (dC, dI) vwCl [(h5, .inl (ch5, 120, .inl fh5)), (h0, .inr (2, [.int gw, .int gh, .ref h1, .ref h2, .ref h3, .ref h4, .ref h5, .int gc, .int n_h0_whole_40, .int gl, .int gg])), (h1, .inl (ch1, 10, .inl fh1)), (h2, .inl (ch2, 10, .inl fh2)), (h3, .inl (ch3, 10, .inl f_6)), (h4, .inl (ch4, 10, .inl g_h4_41))] H_37 := hP
                    have hD : va_D A [(h5, .inl (ch5, 120, .inl fh5)), (h0, .inr (2, [.int gw, .int gh, .ref h1, .ref h2, .ref h3, .ref h4, .ref h5, .int gc, .int n_h0_whole_40, .int gl, .int gg])), (h1, .inl (ch1, 10, .inl fh1)), (h2, .inl (ch2, 10, .inl fh2)), (h3, .inl (ch3, 10, .inl f_6)), (h4, .inl (ch4, 10, .inl g_h4_41))] := hD
                    clear hPc hDc hKc
                    obtain ⟨z_42, ez_42⟩ : ∃ y : Int32, y = i_29 + 1 := ⟨_, rfl⟩
                    have kz_42 : (z_42).toInt = (i_29).toInt + (1 : Int) := by rw [ez_42]; exact z_add (b := 1) rfl rfl (by omega) (by omega)
                    refine lv_iinc (v := z_42) (lv' := [(3, .int z_42), (2, .int i_14), (0, .ref h0), (1, .int p1)]) hx hb dX2_weigh_103 hl (k := 0) rfl (by rw [ez_42]; rfl) (by decide) rfl (fun ls hl => ?_)
                    refine lv_goto (tgt := 89) hx hb dX2_weigh_106 (by decide) ?_
                    exact ih_28 z_42 n_h0_whole_40 g_h4_41 _ _ _ (show (13 - (z_42).toInt).toNat < n_27 by omega) (show ((0 : Int) ≤ (z_42).toInt ∧ (z_42).toInt ≤ (12 : Int)) by omega) (hP.sub (ws' := [(h0, .inr (2, [.int gw, .int gh, .ref h1, .ref h2, .ref h3, .ref h4, .ref h5, .int gc, .int n_h0_whole_40, .int gl, .int gg])), (h1, .inl (ch1, 10, .inl fh1)), (h2, .inl (ch2, 10, .inl fh2)), (h3, .inl (ch3, 10, .inl f_6)), (h4, .inl (ch4, 10, .inl g_h4_41)), (h5, .inl (ch5, 120, .inl fh5))]) [1, 2, 3, 4, 5, 0] rfl) (hD.sub (ws' := [(h0, .inr (2, [.int gw, .int gh, .ref h1, .ref h2, .ref h3, .ref h4, .ref h5, .int gc, .int n_h0_whole_40, .int gl, .int gg])), (h1, .inl (ch1, 10, .inl fh1)), (h2, .inl (ch2, 10, .inl fh2)), (h3, .inl (ch3, 10, .inl f_6)), (h4, .inl (ch4, 10, .inl g_h4_41)), (h5, .inl (ch5, 120, .inl fh5))]) [1, 2, 3, 4, 5, 0] (by decide) rfl) hS (lv_sub hl [0, 1, 2, 3] rfl)
              exact loop_26 _ 0 v_15 f_16 _ _ _ (Nat.lt_succ_self _) (show ((0 : Int) ≤ (0 : Int) ∧ (0 : Int) ≤ (12 : Int)) by omega) hP hD hS hl
        exact loop_11 _ 0 0 f_7 _ _ _ (Nat.lt_succ_self _) (show ((0 : Int) ≤ (0 : Int) ∧ (0 : Int) ≤ (12 : Int)) by omega) hP hD hS hl
      · have k_43 : (gc).toInt > (i_5).toInt := z_nle c_9
        refine lv_aload_n hx hb dX2_weigh_15 rfl (lv_at hl 1 rfl) ?_
        refine va_get (D := (dC, dI)) (ci := 2) (v := .ref h3) (C := RX2) (T := TX2) (N := 11) hx hb hts hiX2 hown hK hP 0 rfl rfl 4 (by decide) w__fieldLink_RX2_25_ShellHeap_Ground_ofBed_I_ (fun _ h9 => h9) rfl dX2_weigh_16 ?_
        refine lv_iload_n hx hb dX2_weigh_19 rfl (lv_at hl 0 rfl) ?_
        refine lv_iconst (v := 0) hx hb dX2_weigh_20 (by decide) ?_
        refine va_iast hx hb hK hP hD hS 3 2 rfl rfl (z_vpin (by omega) (by omega)) dX2_weigh_21 (fun H_44 locs hP hD hS => ?_)
        have hP : va_P (dC, dI) vwCl [(h0, .inr (2, [.int gw, .int gh, .ref h1, .ref h2, .ref h3, .ref h4, .ref h5, .int gc, .int 0, .int gl, .int gg])), (h1, .inl (ch1, 10, .inl fh1)), (h2, .inl (ch2, 10, .inl fh2)), (h3, .inl (ch3, 10, .inl (upd f_6 (i_5 : Int32).toNatClampNeg 0))), (h4, .inl (ch4, 10, .inl f_7)), (h5, .inl (ch5, 120, .inl fh5))] H_44 := hP
        have hD : va_D A [(h0, .inr (2, [.int gw, .int gh, .ref h1, .ref h2, .ref h3, .ref h4, .ref h5, .int gc, .int 0, .int gl, .int gg])), (h1, .inl (ch1, 10, .inl fh1)), (h2, .inl (ch2, 10, .inl fh2)), (h3, .inl (ch3, 10, .inl (upd f_6 (i_5 : Int32).toNatClampNeg 0))), (h4, .inl (ch4, 10, .inl f_7)), (h5, .inl (ch5, 120, .inl fh5))] := hD
        generalize (upd f_6 (i_5 : Int32).toNatClampNeg 0) = f_45 at hP hD
        refine lv_aload_n hx hb dX2_weigh_22 rfl (lv_at hl 1 rfl) ?_
        refine va_get (D := (dC, dI)) (ci := 2) (v := .ref h4) (C := RX2) (T := TX2) (N := 11) hx hb hts hiX2 hown hK hP 0 rfl rfl 5 (by decide) w__fieldLink_RX2_28_ShellHeap_Ground_without_I_ (fun _ h9 => h9) rfl dX2_weigh_23 ?_
        refine lv_iload_n hx hb dX2_weigh_26 rfl (lv_at hl 0 rfl) ?_
        refine lv_iconst (v := 0) hx hb dX2_weigh_27 (by decide) ?_
        refine va_iast hx hb hK hP hD hS 4 3 rfl rfl (z_vpin (by omega) (by omega)) dX2_weigh_28 (fun H_46 locs hP hD hS => ?_)
        have hP : va_P (dC, dI) vwCl [(h0, .inr (2, [.int gw, .int gh, .ref h1, .ref h2, .ref h3, .ref h4, .ref h5, .int gc, .int 0, .int gl, .int gg])), (h1, .inl (ch1, 10, .inl fh1)), (h2, .inl (ch2, 10, .inl fh2)), (h3, .inl (ch3, 10, .inl f_45)), (h4, .inl (ch4, 10, .inl (upd f_7 (i_5 : Int32).toNatClampNeg 0))), (h5, .inl (ch5, 120, .inl fh5))] H_46 := hP
        have hD : va_D A [(h0, .inr (2, [.int gw, .int gh, .ref h1, .ref h2, .ref h3, .ref h4, .ref h5, .int gc, .int 0, .int gl, .int gg])), (h1, .inl (ch1, 10, .inl fh1)), (h2, .inl (ch2, 10, .inl fh2)), (h3, .inl (ch3, 10, .inl f_45)), (h4, .inl (ch4, 10, .inl (upd f_7 (i_5 : Int32).toNatClampNeg 0))), (h5, .inl (ch5, 120, .inl fh5))] := hD
        generalize (upd f_7 (i_5 : Int32).toNatClampNeg 0) = f_47 at hP hD
        refine lv_iconst (v := 0) hx hb dX2_weigh_29 (by decide) ?_
        refine lv_istore_n (lv' := [(3, .int 0), (2, .int i_5), (0, .ref h0), (1, .int p1)]) hx hb dX2_weigh_30 rfl hl (by decide) rfl (fun ls hl => ?_)
        have loop_48 : ∀ (n_49 : Nat) (i_51 : Int32) (f_52 : Nat → Int32) (H : Heap) (locs : List Loc) (ls : Array Slot), (13 - (i_51).toInt).toNat < n_49 → (((0 : Int) ≤ (i_51).toInt ∧ (i_51).toInt ≤ (12 : Int))) → va_P (dC, dI) vwCl [(h0, .inr (2, [.int gw, .int gh, .ref h1, .ref h2, .ref h3, .ref h4, .ref h5, .int gc, .int 0, .int gl, .int gg])), (h1, .inl (ch1, 10, .inl fh1)), (h2, .inl (ch2, 10, .inl fh2)), (h3, .inl (ch3, 10, .inl f_52)), (h4, .inl (ch4, 10, .inl f_47)), (h5, .inl (ch5, 120, .inl fh5))] H → va_D A [(h0, .inr (2, [.int gw, .int gh, .ref h1, .ref h2, .ref h3, .ref h4, .ref h5, .int gc, .int 0, .int gl, .int gg])), (h1, .inl (ch1, 10, .inl fh1)), (h2, .inl (ch2, 10, .inl fh2)), (h3, .inl (ch3, 10, .inl f_52)), (h4, .inl (ch4, 10, .inl f_47)), (h5, .inl (ch5, 120, .inl fh5))] → va_S A s.heap H locs → lv_has ls 4 [(3, .int i_51), (2, .int i_5), (0, .ref h0), (1, .int p1)] → W p l e ({ frames := 2, cells := 0, slots := 0, locals := 36 } : Room) s m ([.ref h0, .int p1] : List Value).toArray below meth c H locs 0 0 QQ (F0 m 31 ls []) := by
          intro n_49
          induction n_49 with
          | zero => intro i_51 f_52 H locs ls hm; exact absurd hm (Nat.not_lt_zero _)
          | succ n_49 ih_50 =>
            intro i_51 f_52 H locs ls hm hF_53 hP hD hS hl
            refine lv_iload_n hx hb dX2_weigh_31 rfl (lv_at hl 0 rfl) ?_
            refine lv_bipush (v := 12) hx hb dX2_weigh_32 (by decide) ?_
            refine lv_icmp_ge (tgt := 71) hx hb dX2_weigh_34 (by decide) (fun c_54 => ?_) (fun c_54 => ?_)
            · have k_55 : (12 : Int) ≤ (i_51).toInt := z_le c_54
              obtain rfl : i_51 = 12 := z_eq' (show (i_51).toInt = (12 : Int) by omega)
              obtain ⟨z_56, ez_56⟩ : ∃ y : Int32, y = i_5 + 1 := ⟨_, rfl⟩
              have kz_56 : (z_56).toInt = (i_5).toInt + (1 : Int) := by rw [ez_56]; exact z_add (b := 1) rfl rfl (by omega) (by omega)
              refine lv_iinc (v := z_56) (lv' := [(2, .int z_56), (3, .int 12), (0, .ref h0), (1, .int p1)]) hx hb dX2_weigh_71 hl (k := 1) rfl (by rw [ez_56]; rfl) (by decide) rfl (fun ls hl => ?_)
              refine lv_goto (tgt := 7) hx hb dX2_weigh_74 (by decide) ?_
              exact ih_4 z_56 f_52 f_47 _ _ _ (show (11 - (z_56).toInt).toNat < n_3 by omega) (show ((0 : Int) ≤ (z_56).toInt ∧ (z_56).toInt ≤ (10 : Int)) by omega) hP hD hS (lv_sub hl [0, 2, 3] rfl)
            · have k_57 : (12 : Int) > (i_51).toInt := z_nle c_54
              refine lv_iload_n hx hb dX2_weigh_37 rfl (lv_at hl 3 rfl) ?_
              refine lv_iload_n hx hb dX2_weigh_38 rfl (lv_at hl 0 rfl) ?_
              refine lv_ishr hx hb dX2_weigh_39 ?_
              refine lv_topi (fun z_58 ez_58 => ?_)
              refine lv_iconst (v := 1) hx hb dX2_weigh_40 (by decide) ?_
              refine lv_iand hx hb dX2_weigh_41 ?_
              refine lv_topi (fun z_59 ez_59 => ?_)
              have kz_59 : (0 : Int) ≤ (z_59).toInt ∧ (z_59).toInt ≤ (1 : Int) := by rw [ez_59]; exact z_and _ 1 (by decide) (by decide)
              refine lv_if_eq (tgt := 65) hx hb dX2_weigh_42 (by decide) (fun c_60 => ?_) (fun c_60 => ?_)
              · have k_61 : (z_59).toInt = (0 : Int) := z_eq c_60
                obtain rfl : z_59 = 0 := z_eq' (show (z_59).toInt = (0 : Int) by omega)
                obtain ⟨z_62, ez_62⟩ : ∃ y : Int32, y = i_51 + 1 := ⟨_, rfl⟩
                have kz_62 : (z_62).toInt = (i_51).toInt + (1 : Int) := by rw [ez_62]; exact z_add (b := 1) rfl rfl (by omega) (by omega)
                refine lv_iinc (v := z_62) (lv' := [(3, .int z_62), (2, .int i_5), (0, .ref h0), (1, .int p1)]) hx hb dX2_weigh_65 hl (k := 0) rfl (by rw [ez_62]; rfl) (by decide) rfl (fun ls hl => ?_)
                refine lv_goto (tgt := 31) hx hb dX2_weigh_68 (by decide) ?_
                exact ih_50 z_62 f_52 _ _ _ (show (13 - (z_62).toInt).toNat < n_49 by omega) (show ((0 : Int) ≤ (z_62).toInt ∧ (z_62).toInt ≤ (12 : Int)) by omega) hP hD hS (lv_sub hl [0, 1, 2, 3] rfl)
              · have k_63 : (z_59).toInt ≠ (0 : Int) := z_ne c_60
                obtain rfl : z_59 = 1 := z_eq' (show (z_59).toInt = (1 : Int) by omega)
                refine lv_aload_n hx hb dX2_weigh_45 rfl (lv_at hl 2 rfl) ?_
                refine va_get (D := (dC, dI)) (ci := 2) (v := .ref h3) (C := RX2) (T := TX2) (N := 11) hx hb hts hiX2 hown hK hP 0 rfl rfl 4 (by decide) w__fieldLink_RX2_25_ShellHeap_Ground_ofBed_I_ (fun _ h9 => h9) rfl dX2_weigh_46 ?_
                refine lv_iload_n hx hb dX2_weigh_49 rfl (lv_at hl 1 rfl) ?_
                refine lv_dup2_11 hx hb dX2_weigh_50 rfl rfl ?_
                refine va_iald hx hb hK hP 3 2 rfl rfl (z_vpin (by omega) (by omega)) dX2_weigh_51 ?_
                refine lv_topi (fun z_64 ez_64 => ?_)
                refine lv_aload_n hx hb dX2_weigh_52 rfl (lv_at hl 2 rfl) ?_
                refine va_get (D := (dC, dI)) (ci := 2) (v := .ref h5) (C := RX2) (T := TX2) (N := 11) hx hb hts hiX2 hown hK hP 0 rfl rfl 6 (by decide) w__fieldLink_RX2_31_ShellHeap_Ground_thickness_I_ (fun _ h9 => h9) rfl dX2_weigh_53 ?_
                refine lv_iload_n hx hb dX2_weigh_56 rfl (lv_at hl 1 rfl) ?_
                refine lv_bipush (v := 12) hx hb dX2_weigh_57 (by decide) ?_
                refine lv_imul hx hb dX2_weigh_59 ?_
                refine lv_topi (fun z_65 ez_65 => ?_)
                have kz_65 : (z_65).toInt = (i_5).toInt * (12 : Int) := by rw [ez_65]; exact z_mul (a := (i_5).toInt) (b := (12 : Int)) rfl rfl (by omega) (by omega)
                refine lv_iload_n hx hb dX2_weigh_60 rfl (lv_at hl 0 rfl) ?_
                refine lv_iadd hx hb dX2_weigh_61 ?_
                refine lv_topi (fun z_66 ez_66 => ?_)
                have kz_66 : (z_66).toInt = (z_65).toInt + (i_51).toInt := by rw [ez_66]; exact z_add (a := (z_65).toInt) (b := (i_51).toInt) rfl rfl (by omega) (by omega)
                refine va_iald hx hb hK hP 5 4 rfl rfl (z_vpin (by omega) (by omega)) dX2_weigh_62 ?_
                refine lv_topi (fun z_67 ez_67 => ?_)
                refine lv_iadd hx hb dX2_weigh_63 ?_
                refine lv_topi (fun z_68 ez_68 => ?_)
                refine va_iast hx hb hK hP hD hS 3 2 rfl rfl (z_vpin (by omega) (by omega)) dX2_weigh_64 (fun H_69 locs hP hD hS => ?_)
                have hP : va_P (dC, dI) vwCl [(h0, .inr (2, [.int gw, .int gh, .ref h1, .ref h2, .ref h3, .ref h4, .ref h5, .int gc, .int 0, .int gl, .int gg])), (h1, .inl (ch1, 10, .inl fh1)), (h2, .inl (ch2, 10, .inl fh2)), (h3, .inl (ch3, 10, .inl (upd f_52 (i_5 : Int32).toNatClampNeg z_68))), (h4, .inl (ch4, 10, .inl f_47)), (h5, .inl (ch5, 120, .inl fh5))] H_69 := hP
                have hD : va_D A [(h0, .inr (2, [.int gw, .int gh, .ref h1, .ref h2, .ref h3, .ref h4, .ref h5, .int gc, .int 0, .int gl, .int gg])), (h1, .inl (ch1, 10, .inl fh1)), (h2, .inl (ch2, 10, .inl fh2)), (h3, .inl (ch3, 10, .inl (upd f_52 (i_5 : Int32).toNatClampNeg z_68))), (h4, .inl (ch4, 10, .inl f_47)), (h5, .inl (ch5, 120, .inl fh5))] := hD
                generalize (upd f_52 (i_5 : Int32).toNatClampNeg z_68) = f_70 at hP hD
                obtain ⟨z_71, ez_71⟩ : ∃ y : Int32, y = i_51 + 1 := ⟨_, rfl⟩
                have kz_71 : (z_71).toInt = (i_51).toInt + (1 : Int) := by rw [ez_71]; exact z_add (b := 1) rfl rfl (by omega) (by omega)
                refine lv_iinc (v := z_71) (lv' := [(3, .int z_71), (2, .int i_5), (0, .ref h0), (1, .int p1)]) hx hb dX2_weigh_65 hl (k := 0) rfl (by rw [ez_71]; rfl) (by decide) rfl (fun ls hl => ?_)
                refine lv_goto (tgt := 31) hx hb dX2_weigh_68 (by decide) ?_
                exact ih_50 z_71 f_70 _ _ _ (show (13 - (z_71).toInt).toNat < n_49 by omega) (show ((0 : Int) ≤ (z_71).toInt ∧ (z_71).toInt ≤ (12 : Int)) by omega) hP hD hS (lv_sub hl [0, 1, 2, 3] rfl)
        exact loop_48 _ 0 f_45 _ _ _ (Nat.lt_succ_self _) (show ((0 : Int) ≤ (0 : Int) ∧ (0 : Int) ≤ (12 : Int)) by omega) hP hD hS hl
  exact loop_2 _ 0 fh3 fh4 _ _ _ (Nat.lt_succ_self _) (show ((0 : Int) ≤ (0 : Int) ∧ (0 : Int) ≤ (10 : Int)) by omega) hP hD hS hl
