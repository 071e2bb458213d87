def u_s_X8_tightness : List Cond := .code yX8_tightness cX8_tightness 1 (some .int) :: ([] ++ [])
theorem gd_s_X8_tightness : z_gd u_s_X8_tightness := z_gdc (by decide +kernel) (z_gd0)
set_option maxHeartbeats 4000000 in
set_option maxRecDepth 100000 in
theorem s_X8_tightness (l : Launch) (dC : Nat → ClassId) (dI : Nat → Nat → Nat) (sz : Nat) (p0 : Int32) : Met l yX8_tightness u_s_X8_tightness ({ frames := 0, cells := 0, slots := 0, locals := 0 }) (va_Pc [.int p0] (z_C (dC, dI) vwCl [] [] sz)) (va_Qi (fun (r : Int32) (_ : Unit) => True) (fun (_ : Unit) (_ : State) => True) (va_A [] sz)) 0 0 (va_A [] sz) := by
  refine Met.ofW (cc := cX8_tightness) (maxL := 1) (ret := (some .int)) (by decide) rfl ?_
  intro p e s m args below meth c s₁ B hml hv
  obtain ⟨rfl, hsz, hP, hK, hD0⟩ := hv
  have hx := B.exec
  have hb := B.bytes
  have hr := B.returns
  have hts := atoms_spec (ws := u_s_X8_tightness) B.pre
  have hown : s.vm.findClass RX8 = some m.cls := findClass_of_methodNamed B.named
  have hlocks := B.notSynchronized
  subst hsz
  have hD := hD0
  generalize hAe : va_A [] s.heap.size = A
  have hA : ∀ q : Nat, s.heap.size ≤ q → A q := fun q h => by rw [← hAe]; exact Or.inr h
  have hS : va_S A s.heap s.heap [] := va_S.rf
  have hP : va_P (dC, dI) vwCl [] s.heap := hP
  have krr_p0 := z_rng p0
  have hl := lv_entry ([.int p0]) (n := 1) (Nat.le_of_ble_eq_true rfl)
  rw [lg_entry_eq]
  generalize (lg_sl ([.int p0]) ++ List.replicate (1 - (lg_sl ([.int p0])).length) Slot.unset).toArray = ls at hl ⊢
  have hl : lv_has ls 1 [(0, .int p0)] := hl
  refine lv_iload_n hx hb dX8_tightness_0 rfl (lv_at hl 0 rfl) ?_
  refine lv_bipush (v := 10) hx hb dX8_tightness_1 (by decide) ?_
  refine lv_idiv hx hb dX8_tightness_3 (by decide) ?_
  refine lv_topi (fun z_1 ez_1 => ?_)
  refine W.widen (k := 0) (n := 0) (Nat.le_of_ble_eq_true rfl) (Nat.le_of_ble_eq_true rfl) ?_
  exact W.iret (v := z_1) hx hb hr (fun t ht hW => ⟨⟨z_1, (), rfl, trivial, trivial⟩, hS.F ht⟩) hS.2.2 dX8_tightness_4
def u_s_X8_lastWaiting : List Cond := .code yX8_lastWaiting cX8_lastWaiting 1 (some .int) :: ([.fieldLink RX8 23 "ShellHeap$RulesReader" "waits" "I", .fieldLink RX8 20 "ShellHeap$RulesReader" "waiting" "[I"] ++ (wsX80 ++ []))
theorem gd_s_X8_lastWaiting : z_gd u_s_X8_lastWaiting := z_gdc (by decide +kernel) (z_gda gdX8 (z_gd0))
set_option maxHeartbeats 4000000 in
set_option maxRecDepth 100000 in
theorem s_X8_lastWaiting (l : Launch) (dC : Nat → ClassId) (dI : Nat → Nat → Nat) (sz : Nat) (h0 : Nat) (a_tp : Nat) (a_t1 : Nat) (a_t2 : Nat) (a_w1 : Nat) (uw : Int32) (uo : Int32) (up : Int32) (a_dr : Nat) (h0_8 : Value) (ca_w1 : ClassId) (fa_w1 : Nat → Int32) (hB_uw : ((0 : Int) ≤ (uw).toInt ∧ (uw).toInt ≤ (104 : Int))) : Met l yX8_lastWaiting u_s_X8_lastWaiting ({ frames := 0, cells := 0, slots := 0, locals := 0 }) (va_Pc [.ref h0] (z_C (dC, dI) vwCl [(h0, .inr (8, [.ref a_tp, .ref a_t1, .ref a_t2, .ref a_w1, .int uw, .int uo, .int up, .ref a_dr, h0_8])), (a_w1, .inl (ca_w1, 104, .inl fa_w1))] [(ca_w1, .int)] sz)) (va_Qi (fun (r : Int32) (_ : Unit) => True) (fun (_ : Unit) (_ : State) => True) (va_A [] sz)) 0 0 (va_A [] sz) := by
  refine Met.ofW (cc := cX8_lastWaiting) (maxL := 1) (ret := (some .int)) (by decide) rfl ?_
  intro p e s m args below meth c s₁ B hml hv
  obtain ⟨rfl, hsz, hP, hK, hD0⟩ := hv
  have hx := B.exec
  have hb := B.bytes
  have hr := B.returns
  have hts := atoms_spec (ws := u_s_X8_lastWaiting) B.pre
  have hown : s.vm.findClass RX8 = some m.cls := findClass_of_methodNamed B.named
  have hlocks := B.notSynchronized
  subst hsz
  have hD := hD0
  generalize hAe : va_A [] s.heap.size = A
  have hA : ∀ q : Nat, s.heap.size ≤ q → A q := fun q h => by rw [← hAe]; exact Or.inr h
  have hS : va_S A s.heap s.heap [] := va_S.rf
  have hP : va_P (dC, dI) vwCl [(h0, .inr (8, [.ref a_tp, .ref a_t1, .ref a_t2, .ref a_w1, .int uw, .int uo, .int up, .ref a_dr, h0_8])), (a_w1, .inl (ca_w1, 104, .inl fa_w1))] s.heap := hP
  have w__fieldLink_RX8_23_ShellHeap_RulesReader_waits_I_ := hts (.fieldLink RX8 23 "ShellHeap$RulesReader" "waits" "I") (z_mc (z_ml z_m0))
  have hiX8 := show ∀ w ∈ u_ws RX8 TX8 9, w ∈ u_s_X8_lastWaiting from fun w h => z_mc (z_mr (z_ml h))
  have w__fieldLink_RX8_20_ShellHeap_RulesReader_waiting_I_ := hts (.fieldLink RX8 20 "ShellHeap$RulesReader" "waiting" "[I") (z_mc (z_ml z_m1))
  have hl := lv_entry ([.ref h0]) (n := 1) (Nat.le_of_ble_eq_true rfl)
  rw [lg_entry_eq]
  generalize (lg_sl ([.ref h0]) ++ List.replicate (1 - (lg_sl ([.ref h0])).length) Slot.unset).toArray = ls at hl ⊢
  have hl : lv_has ls 1 [(0, .ref h0)] := hl
  refine lv_aload_n hx hb dX8_lastWaiting_0 rfl (lv_at hl 0 rfl) ?_
  refine va_get (D := (dC, dI)) (ci := 8) (v := .int uw) (C := RX8) (T := TX8) (N := 9) hx hb hts hiX8 hown hK hP 0 rfl rfl 4 (by decide) w__fieldLink_RX8_23_ShellHeap_RulesReader_waits_I_ (fun _ h9 => h9) rfl dX8_lastWaiting_1 ?_
  refine lv_if_le (tgt := 33) hx hb dX8_lastWaiting_4 (by decide) (fun c_1 => ?_) (fun c_1 => ?_)
  · have k_2 : (uw).toInt ≤ (0 : Int) := z_le c_1
    obtain rfl : uw = 0 := z_eq' (show (uw).toInt = (0 : Int) by omega)
    refine lv_iconst (v := 0) hx hb dX8_lastWaiting_33 (by decide) ?_
    refine W.widen (k := 0) (n := 0) (Nat.le_of_ble_eq_true rfl) (Nat.le_of_ble_eq_true rfl) ?_
    exact W.iret (v := 0) hx hb hr (fun t ht hW => ⟨⟨0, (), rfl, trivial, trivial⟩, hS.F ht⟩) hS.2.2 dX8_lastWaiting_34
  · have k_4 : (uw).toInt > (0 : Int) := z_nle c_1
    refine lv_aload_n hx hb dX8_lastWaiting_7 rfl (lv_at hl 0 rfl) ?_
    refine va_get (D := (dC, dI)) (ci := 8) (v := .int uw) (C := RX8) (T := TX8) (N := 9) hx hb hts hiX8 hown hK hP 0 rfl rfl 4 (by decide) w__fieldLink_RX8_23_ShellHeap_RulesReader_waits_I_ (fun _ h9 => h9) rfl dX8_lastWaiting_8 ?_
    refine lv_aload_n hx hb dX8_lastWaiting_11 rfl (lv_at hl 0 rfl) ?_
    refine va_get (D := (dC, dI)) (ci := 8) (v := .ref a_w1) (C := RX8) (T := TX8) (N := 9) hx hb hts hiX8 hown hK hP 0 rfl rfl 3 (by decide) w__fieldLink_RX8_20_ShellHeap_RulesReader_waiting_I_ (fun _ h9 => h9) rfl dX8_lastWaiting_12 ?_
    refine va_alen (v := 104) hx hb hK hP 1 0 rfl rfl (show Int32.ofNat 104 = 104 by decide) dX8_lastWaiting_15 ?_
    refine lv_icmp_gt (tgt := 33) hx hb dX8_lastWaiting_16 (by decide) (fun c_5 => ?_) (fun c_5 => ?_)
    · exfalso
      have k_6 : (104 : Int) < (uw).toInt := z_lt c_5
      omega
    refine lv_aload_n hx hb dX8_lastWaiting_19 rfl (lv_at hl 0 rfl) ?_
    refine va_get (D := (dC, dI)) (ci := 8) (v := .ref a_w1) (C := RX8) (T := TX8) (N := 9) hx hb hts hiX8 hown hK hP 0 rfl rfl 3 (by decide) w__fieldLink_RX8_20_ShellHeap_RulesReader_waiting_I_ (fun _ h9 => h9) rfl dX8_lastWaiting_20 ?_
    refine lv_aload_n hx hb dX8_lastWaiting_23 rfl (lv_at hl 0 rfl) ?_
    refine va_get (D := (dC, dI)) (ci := 8) (v := .int uw) (C := RX8) (T := TX8) (N := 9) hx hb hts hiX8 hown hK hP 0 rfl rfl 4 (by decide) w__fieldLink_RX8_23_ShellHeap_RulesReader_waits_I_ (fun _ h9 => h9) rfl dX8_lastWaiting_24 ?_
    refine lv_iconst (v := 1) hx hb dX8_lastWaiting_27 (by decide) ?_
    refine lv_isub hx hb dX8_lastWaiting_28 ?_
    refine lv_topi (fun z_7 ez_7 => ?_)
    have kz_7 : (z_7).toInt = (uw).toInt - (1 : Int) := by rw [ez_7]; exact z_sub (a := (uw).toInt) (b := (1 : Int)) rfl rfl (z_mlo hB_uw.1 (by decide)) (z_mhi hB_uw.2 (by decide))
    refine va_iald hx hb hK hP 1 0 rfl rfl (z_vpin (by omega) (by omega)) dX8_lastWaiting_29 ?_
    refine lv_topi (fun z_8 ez_8 => ?_)
    refine lv_goto (tgt := 34) hx hb dX8_lastWaiting_30 (by decide) ?_
    refine W.widen (k := 0) (n := 0) (Nat.le_of_ble_eq_true rfl) (Nat.le_of_ble_eq_true rfl) ?_
    exact W.iret (v := z_8) hx hb hr (fun t ht hW => ⟨⟨z_8, (), rfl, trivial, trivial⟩, hS.F ht⟩) hS.2.2 dX8_lastWaiting_34
def u_s_X8_await : List Cond := .code yX8_await cX8_await 2 none :: ([.fieldLink RX8 23 "ShellHeap$RulesReader" "waits" "I", .fieldLink RX8 20 "ShellHeap$RulesReader" "waiting" "[I"] ++ (wsX80 ++ []))
theorem gd_s_X8_await : z_gd u_s_X8_await := z_gdc (by decide +kernel) (z_gda gdX8 (z_gd0))
set_option maxHeartbeats 4000000 in
set_option maxRecDepth 100000 in
theorem s_X8_await (l : Launch) (dC : Nat → ClassId) (dI : Nat → Nat → Nat) (sz : Nat) (h0 : Nat) (p1 : Int32) (a_tp : Nat) (a_t1 : Nat) (a_t2 : Nat) (a_w1 : Nat) (uw : Int32) (uo : Int32) (up : Int32) (a_dr : Nat) (h0_8 : Value) (ca_w1 : ClassId) (fa_w1 : Nat → Int32) (hB_uw : ((0 : Int) ≤ (uw).toInt ∧ (uw).toInt ≤ (104 : Int))) : Met l yX8_await u_s_X8_await ({ frames := 0, cells := 0, slots := 0, locals := 0 }) (va_Pc [.ref h0, .int p1] (z_C (dC, dI) vwCl [(h0, .inr (8, [.ref a_tp, .ref a_t1, .ref a_t2, .ref a_w1, .int uw, .int uo, .int up, .ref a_dr, h0_8])), (a_w1, .inl (ca_w1, 104, .inl fa_w1))] [(ca_w1, .int)] sz)) (va_Qv (fun (_ : Unit) => True) (fun (_ : Unit) (t : State) => ∃ (n_h0_waits : Int32), ∃ (g_a_w1 : Nat → Int32), ((0 : Int) ≤ (n_h0_waits).toInt ∧ (n_h0_waits).toInt ≤ (104 : Int)) ∧ va_P (dC, dI) vwCl [(h0, .inr (8, [.ref a_tp, .ref a_t1, .ref a_t2, .ref a_w1, .int n_h0_waits, .int uo, .int up, .ref a_dr, h0_8])), (a_w1, .inl (ca_w1, 104, .inl g_a_w1))] t.heap ∧ va_K (dC, dI) vwCl [] t ∧ va_D (va_A [(h0, .inr (8, [.ref a_tp, .ref a_t1, .ref a_t2, .ref a_w1, .int uw, .int uo, .int up, .ref a_dr, h0_8])), (a_w1, .inl (ca_w1, 104, .inl fa_w1))] sz) [(h0, .inr (8, [.ref a_tp, .ref a_t1, .ref a_t2, .ref a_w1, .int n_h0_waits, .int uo, .int up, .ref a_dr, h0_8])), (a_w1, .inl (ca_w1, 104, .inl g_a_w1))]) (va_A [(h0, .inr (8, [.ref a_tp, .ref a_t1, .ref a_t2, .ref a_w1, .int uw, .int uo, .int up, .ref a_dr, h0_8])), (a_w1, .inl (ca_w1, 104, .inl fa_w1))] sz)) 0 0 (va_A [(h0, .inr (8, [.ref a_tp, .ref a_t1, .ref a_t2, .ref a_w1, .int uw, .int uo, .int up, .ref a_dr, h0_8])), (a_w1, .inl (ca_w1, 104, .inl fa_w1))] sz) := by
  refine Met.ofW (cc := cX8_await) (maxL := 2) (ret := none) (by decide) rfl ?_
  intro p e s m args below meth c s₁ B hml hv
  obtain ⟨rfl, hsz, hP, hK, hD0⟩ := hv
  have hx := B.exec
  have hb := B.bytes
  have hr := B.returns
  have hts := atoms_spec (ws := u_s_X8_await) B.pre
  have hown : s.vm.findClass RX8 = some m.cls := findClass_of_methodNamed B.named
  have hlocks := B.notSynchronized
  subst hsz
  have hD := hD0.self (sz := s.heap.size)
  generalize hAe : va_A [(h0, .inr (8, [.ref a_tp, .ref a_t1, .ref a_t2, .ref a_w1, .int uw, .int uo, .int up, .ref a_dr, h0_8])), (a_w1, .inl (ca_w1, 104, .inl fa_w1))] s.heap.size = A at hD ⊢
  have hA : ∀ q : Nat, s.heap.size ≤ q → A q := fun q h => by rw [← hAe]; exact Or.inr h
  have hS : va_S A s.heap s.heap [] := va_S.rf
  have hP : va_P (dC, dI) vwCl [(h0, .inr (8, [.ref a_tp, .ref a_t1, .ref a_t2, .ref a_w1, .int uw, .int uo, .int up, .ref a_dr, h0_8])), (a_w1, .inl (ca_w1, 104, .inl fa_w1))] s.heap := hP
  have w__fieldLink_RX8_23_ShellHeap_RulesReader_waits_I_ := hts (.fieldLink RX8 23 "ShellHeap$RulesReader" "waits" "I") (z_mc (z_ml z_m0))
  have hiX8 := show ∀ w ∈ u_ws RX8 TX8 9, w ∈ u_s_X8_await from fun w h => z_mc (z_mr (z_ml h))
  have w__fieldLink_RX8_20_ShellHeap_RulesReader_waiting_I_ := hts (.fieldLink RX8 20 "ShellHeap$RulesReader" "waiting" "[I") (z_mc (z_ml z_m1))
  have krr_p1 := z_rng p1
  have hl := lv_entry ([.ref h0, .int p1]) (n := 2) (Nat.le_of_ble_eq_true rfl)
  rw [lg_entry_eq]
  generalize (lg_sl ([.ref h0, .int p1]) ++ List.replicate (2 - (lg_sl ([.ref h0, .int p1])).length) Slot.unset).toArray = ls at hl ⊢
  have hl : lv_has ls 2 [(0, .ref h0), (1, .int p1)] := hl
  refine lv_aload_n hx hb dX8_await_0 rfl (lv_at hl 0 rfl) ?_
  refine va_get (D := (dC, dI)) (ci := 8) (v := .int uw) (C := RX8) (T := TX8) (N := 9) hx hb hts hiX8 hown hK hP 0 rfl rfl 4 (by decide) w__fieldLink_RX8_23_ShellHeap_RulesReader_waits_I_ (fun _ h9 => h9) rfl dX8_await_1 ?_
  refine lv_aload_n hx hb dX8_await_4 rfl (lv_at hl 0 rfl) ?_
  refine va_get (D := (dC, dI)) (ci := 8) (v := .ref a_w1) (C := RX8) (T := TX8) (N := 9) hx hb hts hiX8 hown hK hP 0 rfl rfl 3 (by decide) w__fieldLink_RX8_20_ShellHeap_RulesReader_waiting_I_ (fun _ h9 => h9) rfl dX8_await_5 ?_
  refine va_alen (v := 104) hx hb hK hP 1 0 rfl rfl (show Int32.ofNat 104 = 104 by decide) dX8_await_8 ?_
  refine lv_icmp_ge (tgt := 32) hx hb dX8_await_9 (by decide) (fun c_1 => ?_) (fun c_1 => ?_)
  · have k_2 : (104 : Int) ≤ (uw).toInt := z_le c_1
    obtain rfl : uw = 104 := z_eq' (show (uw).toInt = (104 : Int) by omega)
    have hP9 := hP
    have hD9 := hD
    have hK9 := hK.sub (tys' := []) [] rfl
    refine W.widen (k := 0) (n := 0) (Nat.le_of_ble_eq_true rfl) (Nat.le_of_ble_eq_true rfl) ?_
    exact W.vret hx hb hr (fun t ht hW => ⟨⟨(), rfl, trivial, ⟨104, fa_w1, (by decide), by rw [ht]; exact hP9, va_K.moved hW.alike hK9, hD9⟩⟩, hS.F ht⟩) hS.2.2 dX8_await_32
  · have k_4 : (104 : Int) > (uw).toInt := z_nle c_1
    refine lv_aload_n hx hb dX8_await_12 rfl (lv_at hl 0 rfl) ?_
    refine va_get (D := (dC, dI)) (ci := 8) (v := .ref a_w1) (C := RX8) (T := TX8) (N := 9) hx hb hts hiX8 hown hK hP 0 rfl rfl 3 (by decide) w__fieldLink_RX8_20_ShellHeap_RulesReader_waiting_I_ (fun _ h9 => h9) rfl dX8_await_13 ?_
    refine lv_aload_n hx hb dX8_await_16 rfl (lv_at hl 0 rfl) ?_
    refine va_get (D := (dC, dI)) (ci := 8) (v := .int uw) (C := RX8) (T := TX8) (N := 9) hx hb hts hiX8 hown hK hP 0 rfl rfl 4 (by decide) w__fieldLink_RX8_23_ShellHeap_RulesReader_waits_I_ (fun _ h9 => h9) rfl dX8_await_17 ?_
    refine lv_iload_n hx hb dX8_await_20 rfl (lv_at hl 1 rfl) ?_
    refine va_iast hx hb hK hP hD hS 1 0 rfl rfl (z_vpin (by omega) (by omega)) dX8_await_21 (fun H_5 locs hP hD hS => ?_)
    obtain ⟨hP, hD⟩ := z_s_1 hP hD
    generalize (upd fa_w1 (uw : Int32).toNatClampNeg p1) = f_6 at hP hD
    refine lv_aload_n hx hb dX8_await_22 rfl (lv_at hl 0 rfl) ?_
    refine lv_dup hx hb dX8_await_23 rfl ?_
    refine va_get (D := (dC, dI)) (ci := 8) (v := .int uw) (C := RX8) (T := TX8) (N := 9) hx hb hts hiX8 hown hK hP 0 rfl rfl 4 (by decide) w__fieldLink_RX8_23_ShellHeap_RulesReader_waits_I_ (fun _ h9 => h9) rfl dX8_await_24 ?_
    refine lv_iconst (v := 1) hx hb dX8_await_27 (by decide) ?_
    refine lv_iadd hx hb dX8_await_28 ?_
    refine lv_topi (fun z_7 ez_7 => ?_)
    have kz_7 : (z_7).toInt = (uw).toInt + (1 : Int) := by rw [ez_7]; exact z_add (a := (uw).toInt) (b := (1 : Int)) rfl rfl (z_al hB_uw.1 (by decide)) (z_ah hB_uw.2 (by decide))
    refine va_put (D := (dC, dI)) (ci := 8) (v := .int z_7) (ty := .int) (C := RX8) (T := TX8) (N := 9) hx hb hts hiX8 tyX8 tyX8_ok nmX8 hown hK hP hD hS 0 rfl rfl 4 (by decide) w__fieldLink_RX8_23_ShellHeap_RulesReader_waits_I_ (fun _ h9 => h9) rfl (by decide +kernel) rfl rfl (Nat.le_of_ble_eq_true rfl) dX8_await_29 (fun H_8 locs hP hD hS => ?_)
    obtain ⟨hP, hD⟩ := z_s_0_4 hP hD
    have hP9 := hP
    have hD9 := hD
    have hK9 := hK.sub (tys' := []) [] rfl
    refine W.widen (k := 0) (n := 0) (Nat.le_of_ble_eq_true rfl) (Nat.le_of_ble_eq_true rfl) ?_
    exact W.vret hx hb hr (fun t ht hW => ⟨⟨(), rfl, trivial, ⟨z_7, f_6, (by first | omega | decide), by rw [ht]; exact hP9, va_K.moved hW.alike hK9, hD9⟩⟩, hS.F ht⟩) hS.2.2 dX8_await_32
def u_s_X8_settle : List Cond := .code yX8_settle cX8_settle 2 none :: ([.fieldLink RX8 23 "ShellHeap$RulesReader" "waits" "I", .methodLink RX8 150 yX8_lastWaiting, .instanceMethod yX8_lastWaiting, .selects RX8 yX8_lastWaiting yX8_lastWaiting, .initialized RX8, .methodLink RX8 103 yX8_tightness, .static yX8_tightness, .fieldLink RX8 35 "ShellHeap$RulesReader" "draft" "LShellHeap$Rules;", .methodLink RX8 146 yX7_add, .instanceMethod yX7_add, .selects RX7 yX7_add yX7_add, .initialized RX7] ++ (wsX80 ++ (u_s_X8_lastWaiting ++ (u_s_X8_tightness ++ (u_s_X7_add ++ [])))))
theorem gd_s_X8_settle : z_gd u_s_X8_settle := z_gdc (by decide +kernel) (z_gda gdX8 (z_gda gd_s_X8_lastWaiting (z_gda gd_s_X8_tightness (z_gda gd_s_X7_add (z_gd0)))))
set_option maxRecDepth 20000 in
theorem gw_s_X8_settle_s_X8_lastWaiting_150 : GoodIn u_s_X8_settle (wsV RX8 150 RX8 yX8_lastWaiting u_s_X8_lastWaiting) := z_gV (z_gr _ [2, 3, 4, 5] rfl (by decide +kernel)) (fun w h => ⟨z_mc (z_mr (z_mr (z_ml h))), gd_s_X8_lastWaiting w h⟩)
set_option maxRecDepth 20000 in
theorem gw_s_X8_settle_s_X8_tightness_103 : GoodIn u_s_X8_settle (va_wsS RX8 103 yX8_tightness u_s_X8_tightness) := z_gS (z_gr _ [6, 7, 5] rfl (by decide +kernel)) (fun w h => ⟨z_mc (z_mr (z_mr (z_mr (z_ml h)))), gd_s_X8_tightness w h⟩)
set_option maxRecDepth 20000 in
theorem gw_s_X8_settle_s_X7_add_146 : GoodIn u_s_X8_settle (wsV RX8 146 RX7 yX7_add u_s_X7_add) := z_gV (z_gr _ [9, 10, 11, 12] rfl (by decide +kernel)) (fun w h => ⟨z_mc (z_mr (z_mr (z_mr (z_mr (z_ml h))))), gd_s_X7_add w h⟩)
set_option maxHeartbeats 4000000 in
set_option maxRecDepth 100000 in
theorem s_X8_settle (l : Launch) (dC : Nat → ClassId) (dI : Nat → Nat → Nat) (sz : Nat) (h0 : Nat) (p1 : Int32) (a_tp : Nat) (a_t1 : Nat) (a_t2 : Nat) (a_w1 : Nat) (uw : Int32) (uo : Int32) (up : Int32) (a_dr : Nat) (h0_8 : Value) (ca_w1 : ClassId) (fa_w1 : Nat → Int32) (a_d1 : Nat) (a_d2 : Nat) (a_d3 : Nat) (rl : Int32) (rc : Int32) (rk : Int32) (ca_d1 : ClassId) (fa_d1 : Nat → Int32) (ca_d2 : ClassId) (fa_d2 : Nat → Int32) (ca_d3 : ClassId) (fa_d3 : Nat → Int32) (hB_uw : ((0 : Int) ≤ (uw).toInt ∧ (uw).toInt ≤ (104 : Int))) (hB_uo : ((0 : Int) ≤ (uo).toInt ∧ (uo).toInt ≤ (8 : Int))) (hB_up : ((0 : Int) ≤ (up).toInt ∧ (up).toInt ≤ (1 : Int))) (hB_rl : ((0 : Int) ≤ (rl).toInt ∧ (rl).toInt ≤ (96 : Int))) (hB_rc : ((0 : Int) ≤ (rc).toInt ∧ (rc).toInt ≤ (6 : Int))) (hB_rk : ((0 : Int) ≤ (rk).toInt ∧ (rk).toInt ≤ (96 : Int))) (hI_a_d3 : ∀ j : Nat, ((0 : Int) ≤ (fa_d3 j).toInt ∧ (fa_d3 j).toInt ≤ (96 : Int))) : Met l yX8_settle u_s_X8_settle ({ frames := 1, cells := 0, slots := 0, locals := 22 }) (va_Pc [.ref h0, .int p1] (z_C (dC, dI) vwCl [(h0, .inr (8, [.ref a_tp, .ref a_t1, .ref a_t2, .ref a_w1, .int uw, .int uo, .int up, .ref a_dr, h0_8])), (a_w1, .inl (ca_w1, 104, .inl fa_w1)), (a_dr, .inr (7, [.ref a_d1, .ref a_d2, .ref a_d3, .int rl, .int rc, .int rk])), (a_d1, .inl (ca_d1, 96, .inl fa_d1)), (a_d2, .inl (ca_d2, 96, .inl fa_d2)), (a_d3, .inl (ca_d3, 7, .inl fa_d3))] [(ca_w1, .int), (ca_d1, .int), (ca_d2, .int), (ca_d3, .int)] sz)) (va_Qv (fun (_ : Unit) => True) (fun (_ : Unit) (t : State) => ∃ (n_h0_waits : Int32), ∃ (n_a_dr_length : Int32), ∃ (g_a_d1 : Nat → Int32), ∃ (g_a_d2 : Nat → Int32), ((0 : Int) ≤ (n_h0_waits).toInt ∧ (n_h0_waits).toInt ≤ (104 : Int)) ∧ ((0 : Int) ≤ (n_a_dr_length).toInt ∧ (n_a_dr_length).toInt ≤ (96 : Int)) ∧ va_P (dC, dI) vwCl [(h0, .inr (8, [.ref a_tp, .ref a_t1, .ref a_t2, .ref a_w1, .int n_h0_waits, .int uo, .int up, .ref a_dr, h0_8])), (a_w1, .inl (ca_w1, 104, .inl fa_w1)), (a_dr, .inr (7, [.ref a_d1, .ref a_d2, .ref a_d3, .int n_a_dr_length, .int rc, .int rk])), (a_d1, .inl (ca_d1, 96, .inl g_a_d1)), (a_d2, .inl (ca_d2, 96, .inl g_a_d2)), (a_d3, .inl (ca_d3, 7, .inl fa_d3))] t.heap ∧ va_K (dC, dI) vwCl [] t ∧ va_D (va_A [(h0, .inr (8, [.ref a_tp, .ref a_t1, .ref a_t2, .ref a_w1, .int uw, .int uo, .int up, .ref a_dr, h0_8])), (a_w1, .inl (ca_w1, 104, .inl fa_w1)), (a_dr, .inr (7, [.ref a_d1, .ref a_d2, .ref a_d3, .int rl, .int rc, .int rk])), (a_d1, .inl (ca_d1, 96, .inl fa_d1)), (a_d2, .inl (ca_d2, 96, .inl fa_d2)), (a_d3, .inl (ca_d3, 7, .inl fa_d3))] sz) [(h0, .inr (8, [.ref a_tp, .ref a_t1, .ref a_t2, .ref a_w1, .int n_h0_waits, .int uo, .int up, .ref a_dr, h0_8])), (a_w1, .inl (ca_w1, 104, .inl fa_w1)), (a_dr, .inr (7, [.ref a_d1, .ref a_d2, .ref a_d3, .int n_a_dr_length, .int rc, .int rk])), (a_d1, .inl (ca_d1, 96, .inl g_a_d1)), (a_d2, .inl (ca_d2, 96, .inl g_a_d2)), (a_d3, .inl (ca_d3, 7, .inl fa_d3))]) (va_A [(h0, .inr (8, [.ref a_tp, .ref a_t1, .ref a_t2, .ref a_w1, .int uw, .int uo, .int up, .ref a_dr, h0_8])), (a_w1, .inl (ca_w1, 104, .inl fa_w1)), (a_dr, .inr (7, [.ref a_d1, .ref a_d2, .ref a_d3, .int rl, .int rc, .int rk])), (a_d1, .inl (ca_d1, 96, .inl fa_d1)), (a_d2, .inl (ca_d2, 96, .inl fa_d2)), (a_d3, .inl (ca_d3, 7, .inl fa_d3))] sz)) 0 0 (va_A [(h0, .inr (8, [.ref a_tp, .ref a_t1, .ref a_t2, .ref a_w1, .int uw, .int uo, .int up, .ref a_dr, h0_8])), (a_w1, .inl (ca_w1, 104, .inl fa_w1)), (a_dr, .inr (7, [.ref a_d1, .ref a_d2, .ref a_d3, .int rl, .int rc, .int rk])), (a_d1, .inl (ca_d1, 96, .inl fa_d1)), (a_d2, .inl (ca_d2, 96, .inl fa_d2)), (a_d3, .inl (ca_d3, 7, .inl fa_d3))] sz) := by
  refine Met.ofW (cc := cX8_settle) (maxL := 2) (ret := none) (by decide) rfl ?_
  intro p e s m args below meth c s₁ B hml hv
  obtain ⟨rfl, hsz, hP, hK, hD0⟩ := hv
  have hx := B.exec
  have hb := B.bytes
  have hr := B.returns
  have hts := atoms_spec (ws := u_s_X8_settle) B.pre
  have hown : s.vm.findClass RX8 = some m.cls := findClass_of_methodNamed B.named
  have hlocks := B.notSynchronized
  subst hsz
  have hD := hD0.self (sz := s.heap.size)
  generalize hAe : va_A [(h0, .inr (8, [.ref a_tp, .ref a_t1, .ref a_t2, .ref a_w1, .int uw, .int uo, .int up, .ref a_dr, h0_8])), (a_w1, .inl (ca_w1, 104, .inl fa_w1)), (a_dr, .inr (7, [.ref a_d1, .ref a_d2, .ref a_d3, .int rl, .int rc, .int rk])), (a_d1, .inl (ca_d1, 96, .inl fa_d1)), (a_d2, .inl (ca_d2, 96, .inl fa_d2)), (a_d3, .inl (ca_d3, 7, .inl fa_d3))] s.heap.size = A at hD ⊢
  have hA : ∀ q : Nat, s.heap.size ≤ q → A q := fun q h => by rw [← hAe]; exact Or.inr h
  have hS : va_S A s.heap s.heap [] := va_S.rf
  have hP : va_P (dC, dI) vwCl [(h0, .inr (8, [.ref a_tp, .ref a_t1, .ref a_t2, .ref a_w1, .int uw, .int uo, .int up, .ref a_dr, h0_8])), (a_w1, .inl (ca_w1, 104, .inl fa_w1)), (a_dr, .inr (7, [.ref a_d1, .ref a_d2, .ref a_d3, .int rl, .int rc, .int rk])), (a_d1, .inl (ca_d1, 96, .inl fa_d1)), (a_d2, .inl (ca_d2, 96, .inl fa_d2)), (a_d3, .inl (ca_d3, 7, .inl fa_d3))] s.heap := hP
  have w__fieldLink_RX8_23_ShellHeap_RulesReader_waits_I_ := hts (.fieldLink RX8 23 "ShellHeap$RulesReader" "waits" "I") (z_mc (z_ml z_m0))
  have hiX8 := show ∀ w ∈ u_ws RX8 TX8 9, w ∈ u_s_X8_settle from fun w h => z_mc (z_mr (z_ml h))
  have w__fieldLink_RX8_35_ShellHeap_RulesReader_draft_LShellHeap_Rules_ := hts (.fieldLink RX8 35 "ShellHeap$RulesReader" "draft" "LShellHeap$Rules;") (z_mc (z_ml z_m7))
  have krr_p1 := z_rng p1
  have hl := lv_entry ([.ref h0, .int p1]) (n := 2) (Nat.le_of_ble_eq_true rfl)
  rw [lg_entry_eq]
  generalize (lg_sl ([.ref h0, .int p1]) ++ List.replicate (2 - (lg_sl ([.ref h0, .int p1])).length) Slot.unset).toArray = ls at hl ⊢
  have hl : lv_has ls 2 [(0, .ref h0), (1, .int p1)] := hl
  refine z_nameQ (fun QQ hQQ => ?_)
  have loop_1 : ∀ (n_2 : Nat) (v_4 : Int32) (v_5 : Int32) (f_6 : Nat → Int32) (f_7 : Nat → Int32) (H : Heap) (locs : List Loc) (ls : Array Slot), ((v_4).toInt + 1).toNat < n_2 → (((0 : Int) ≤ (v_4).toInt ∧ (v_4).toInt ≤ (104 : Int))) → (((0 : Int) ≤ (v_5).toInt ∧ (v_5).toInt ≤ (96 : Int))) → va_P (dC, dI) vwCl [(h0, .inr (8, [.ref a_tp, .ref a_t1, .ref a_t2, .ref a_w1, .int v_4, .int uo, .int up, .ref a_dr, h0_8])), (a_w1, .inl (ca_w1, 104, .inl fa_w1)), (a_dr, .inr (7, [.ref a_d1, .ref a_d2, .ref a_d3, .int v_5, .int rc, .int rk])), (a_d1, .inl (ca_d1, 96, .inl f_6)), (a_d2, .inl (ca_d2, 96, .inl f_7)), (a_d3, .inl (ca_d3, 7, .inl fa_d3))] H → va_D A [(h0, .inr (8, [.ref a_tp, .ref a_t1, .ref a_t2, .ref a_w1, .int v_4, .int uo, .int up, .ref a_dr, h0_8])), (a_w1, .inl (ca_w1, 104, .inl fa_w1)), (a_dr, .inr (7, [.ref a_d1, .ref a_d2, .ref a_d3, .int v_5, .int rc, .int rk])), (a_d1, .inl (ca_d1, 96, .inl f_6)), (a_d2, .inl (ca_d2, 96, .inl f_7)), (a_d3, .inl (ca_d3, 7, .inl fa_d3))] → va_S A s.heap H locs → lv_has ls 2 [(0, .ref h0), (1, .int p1)] → W p l e ({ frames := 1, cells := 0, slots := 0, locals := 22 } : Room) s m ([.ref h0, .int p1] : List Value).toArray below meth c H locs 0 0 QQ (F0 m 0 ls []) := by
    intro n_2
    induction n_2 with
    | zero => intro v_4 v_5 f_6 f_7 H locs ls hm; exact absurd hm (Nat.not_lt_zero _)
    | succ n_2 ih_3 =>
      intro v_4 v_5 f_6 f_7 H locs ls hm hF_8 hF_9 hP hD hS hl
      refine lv_aload_n hx hb dX8_settle_0 rfl (lv_at hl 0 rfl) ?_
      refine va_get (D := (dC, dI)) (ci := 8) (v := .int v_4) (C := RX8) (T := TX8) (N := 9) hx hb hts hiX8 hown hK hP 0 rfl rfl 4 (by decide) w__fieldLink_RX8_23_ShellHeap_RulesReader_waits_I_ (fun _ h9 => h9) rfl dX8_settle_1 ?_
      refine lv_if_le (tgt := 43) hx hb dX8_settle_4 (by decide) (fun c_10 => ?_) (fun c_10 => ?_)
      · have k_11 : (v_4).toInt ≤ (0 : Int) := z_le c_10
        obtain rfl : v_4 = 0 := z_eq' (show (v_4).toInt = (0 : Int) by omega)
        refine z_backQ hQQ ?_
        have hP9 := hP
        have hD9 := hD
        have hK9 := hK.sub (tys' := []) [] rfl
        refine W.widen (k := 0) (n := 0) (Nat.le_of_ble_eq_true rfl) (Nat.le_of_ble_eq_true rfl) ?_
        exact W.vret hx hb hr (fun t ht hW => ⟨⟨(), rfl, trivial, ⟨0, v_5, f_6, f_7, (by decide), hF_9, by rw [ht]; exact hP9, va_K.moved hW.alike hK9, hD9⟩⟩, hS.F ht⟩) hS.2.2 dX8_settle_43
      · have k_13 : (v_4).toInt > (0 : Int) := z_nle c_10
        refine lv_aload_n hx hb dX8_settle_7 rfl (lv_at hl 0 rfl) ?_
        obtain ⟨hPc, hDc⟩ := z_sub2 (ws' := [(h0, .inr (8, [.ref a_tp, .ref a_t1, .ref a_t2, .ref a_w1, .int v_4, .int uo, .int up, .ref a_dr, h0_8])), (a_w1, .inl (ca_w1, 104, .inl fa_w1))]) hP hD [0, 1] (by decide) rfl
        have hKc := hK.sub (tys' := [(ca_w1, .int)]) [0] rfl
        have hFc := va_free (ws := []) (wc := []) (z_D0 _) hS hA [] rfl
        refine va_calli (va_runV (As := []) (rest := []) ⟨hx, hb, hml, hown, hts⟩ (s_X8_lastWaiting l dC dI H.size h0 a_tp a_t1 a_t2 a_w1 v_4 uo up a_dr h0_8 ca_w1 fa_w1 hF_8) (cwV 0 hts gw_s_X8_settle_s_X8_lastWaiting_150 rfl rfl rfl (by decide +kernel) ⟨Nat.le_of_ble_eq_true rfl, Nat.le_of_ble_eq_true rfl⟩) ⟨z_blind, va_recv hKc hPc (ci := 8) (q0 := 0) rfl rfl, z_pre hPc hKc hDc⟩ rfl rfl hl.1 rfl (lv_room (Nat.le_of_ble_eq_true rfl)) dX8_settle_8 ⟨Nat.le_of_ble_eq_true rfl, Nat.le_of_ble_eq_true rfl⟩) hS (fun q _ h => hFc q h) hFc (fun r_15 u t H_14 locs ht hvm hw_16 hB hz1 hk1 hS => ?_)
        replace hP := z_pure hP hk1
        clear hPc hDc hKc
        obtain ⟨hPc, hDc⟩ := z_sub2 (ws' := []) hP hD [] (by decide) rfl
        have hKc := hK.sub (tys' := []) [] rfl
        have hFc := va_free (ws := []) (wc := []) (z_D0 _) hS hA [] rfl
        refine va_calli (va_runS (As := [.int r_15]) (rest := []) ⟨hx, hb, hml, hown, hts⟩ (s_X8_tightness l dC dI H_14.size r_15) (va_cwS 1 hts gw_s_X8_settle_s_X8_tightness_103 rfl rfl rfl (by decide +kernel) ⟨Nat.le_of_ble_eq_true rfl, Nat.le_of_ble_eq_true rfl⟩) ⟨z_blind, z_pre hPc hKc hDc⟩ rfl rfl hl.1 rfl (lv_room (Nat.le_of_ble_eq_true rfl)) dX8_settle_11 ⟨Nat.le_of_ble_eq_true rfl, Nat.le_of_ble_eq_true rfl⟩) hS (fun q _ h => hFc q h) hFc (fun r_18 u t H_17 locs ht hvm hw_19 hB hz1 hk1 hS => ?_)
        replace hP := z_pure hP hk1
        clear hPc hDc hKc
        refine lv_iload_n hx hb dX8_settle_14 rfl (lv_at hl 1 rfl) ?_
        refine lv_icmp_lt (tgt := 43) hx hb dX8_settle_15 (by decide) (fun c_20 => ?_) (fun c_20 => ?_)
        · have k_21 : (r_18).toInt < (p1).toInt := z_lt c_20
          refine z_backQ hQQ ?_
          have hP9 := hP
          have hD9 := hD
          have hK9 := hK.sub (tys' := []) [] rfl
          refine W.widen (k := 0) (n := 0) (Nat.le_of_ble_eq_true rfl) (Nat.le_of_ble_eq_true rfl) ?_
          exact W.vret hx hb hr (fun t ht hW => ⟨⟨(), rfl, trivial, ⟨v_4, v_5, f_6, f_7, hF_8, hF_9, by rw [ht]; exact hP9, va_K.moved hW.alike hK9, hD9⟩⟩, hS.F ht⟩) hS.2.2 dX8_settle_43
        · have k_22 : (r_18).toInt ≥ (p1).toInt := z_nlt c_20
          refine lv_aload_n hx hb dX8_settle_18 rfl (lv_at hl 0 rfl) ?_
          refine va_get (D := (dC, dI)) (ci := 8) (v := .ref a_dr) (C := RX8) (T := TX8) (N := 9) hx hb hts hiX8 hown hK hP 0 rfl rfl 7 (by decide) w__fieldLink_RX8_35_ShellHeap_RulesReader_draft_LShellHeap_Rules_ (fun _ h9 => h9) rfl dX8_settle_19 ?_
          refine lv_aload_n hx hb dX8_settle_22 rfl (lv_at hl 0 rfl) ?_
          obtain ⟨hPc, hDc⟩ := z_sub2 (ws' := [(h0, .inr (8, [.ref a_tp, .ref a_t1, .ref a_t2, .ref a_w1, .int v_4, .int uo, .int up, .ref a_dr, h0_8])), (a_w1, .inl (ca_w1, 104, .inl fa_w1))]) hP hD [0, 1] (by decide) rfl
          have hKc := hK.sub (tys' := [(ca_w1, .int)]) [0] rfl
          have hFc := va_free (ws := []) (wc := []) (z_D0 _) hS hA [] rfl
          refine va_calli (va_runV (As := []) (rest := [.ref a_dr]) ⟨hx, hb, hml, hown, hts⟩ (s_X8_lastWaiting l dC dI H_17.size h0 a_tp a_t1 a_t2 a_w1 v_4 uo up a_dr h0_8 ca_w1 fa_w1 hF_8) (cwV 0 hts gw_s_X8_settle_s_X8_lastWaiting_150 rfl rfl rfl (by decide +kernel) ⟨Nat.le_of_ble_eq_true rfl, Nat.le_of_ble_eq_true rfl⟩) ⟨z_blind, va_recv hKc hPc (ci := 8) (q0 := 0) rfl rfl, z_pre hPc hKc hDc⟩ rfl rfl hl.1 rfl (lv_room (Nat.le_of_ble_eq_true rfl)) dX8_settle_23 ⟨Nat.le_of_ble_eq_true rfl, Nat.le_of_ble_eq_true rfl⟩) hS (fun q _ h => hFc q h) hFc (fun r_24 u t H_23 locs ht hvm hw_25 hB hz1 hk1 hS => ?_)
          replace hP := z_pure hP hk1
          clear hPc hDc hKc
          refine lv_iconst (v := 0) hx hb dX8_settle_26 (by decide) ?_
          obtain ⟨hPc, hDc, hFc⟩ := z_sub3 (ws' := [(a_dr, .inr (7, [.ref a_d1, .ref a_d2, .ref a_d3, .int v_5, .int rc, .int rk])), (a_d1, .inl (ca_d1, 96, .inl f_6)), (a_d2, .inl (ca_d2, 96, .inl f_7))]) hP hD hS hA [2, 3, 4] (by decide) rfl
          have hKc := hK.sub (tys' := [(ca_d1, .int), (ca_d2, .int)]) [1, 2] rfl
          refine va_callv (va_runV (As := [.int r_24, .int 0]) (rest := []) ⟨hx, hb, hml, hown, hts⟩ (s_X7_add l dC dI H_23.size a_dr r_24 0 a_d1 a_d2 (.ref a_d3) v_5 (.int rc) (.int rk) ca_d1 f_6 ca_d2 f_7 hF_9) (cwV 2 hts gw_s_X8_settle_s_X7_add_146 rfl rfl rfl (by decide +kernel) ⟨Nat.le_of_ble_eq_true rfl, Nat.le_of_ble_eq_true rfl⟩) ⟨z_blind, va_recv hKc hPc (ci := 7) (q0 := 0) rfl rfl, z_pre hPc hKc hDc⟩ rfl rfl hl.1 rfl (lv_room (Nat.le_of_ble_eq_true rfl)) dX8_settle_27 ⟨Nat.le_of_ble_eq_true rfl, Nat.le_of_ble_eq_true rfl⟩) hS (fun q _ h => hFc q h) hFc (fun u t H_26 locs ht hvm hw_28 hB hz1 hk1 hS => ?_)
          obtain ⟨n_h0_length_29, g_h1_30, g_h2_31, hp_32, hP1, hK1, hD1⟩ := hB
          rw [ht] at hP1
          have hK1 := va_K.moved hvm.symm hK1
          obtain ⟨hP, hD⟩ := z_ap_3 (va_join (wr := [(h0, .inr (8, [.ref a_tp, .ref a_t1, .ref a_t2, .ref a_w1, .int v_4, .int uo, .int up, .ref a_dr, h0_8])), (a_w1, .inl (ca_w1, 104, .inl fa_w1)), (a_d3, .inl (ca_d3, 7, .inl fa_d3))]) hP hD [2, 3, 4] [0, 1, 5] rfl rfl (by decide) (by decide) hk1 hFc hP1 hD1)
          clear hPc hDc hKc
          refine lv_aload_n hx hb dX8_settle_30 rfl (lv_at hl 0 rfl) ?_
          refine lv_dup hx hb dX8_settle_31 rfl ?_
          refine va_get (D := (dC, dI)) (ci := 8) (v := .int v_4) (C := RX8) (T := TX8) (N := 9) hx hb hts hiX8 hown hK hP 0 rfl rfl 4 (by decide) w__fieldLink_RX8_23_ShellHeap_RulesReader_waits_I_ (fun _ h9 => h9) rfl dX8_settle_32 ?_
          refine lv_iconst (v := 1) hx hb dX8_settle_35 (by decide) ?_
          refine lv_isub hx hb dX8_settle_36 ?_
          refine lv_topi (fun z_33 ez_33 => ?_)
          have kz_33 : (z_33).toInt = (v_4).toInt - (1 : Int) := by rw [ez_33]; exact z_sub (a := (v_4).toInt) (b := (1 : Int)) rfl rfl (z_mlo hF_8.1 (by decide)) (z_mhi hF_8.2 (by decide))
          refine va_put (D := (dC, dI)) (ci := 8) (v := .int z_33) (ty := .int) (C := RX8) (T := TX8) (N := 9) hx hb hts hiX8 tyX8 tyX8_ok nmX8 hown hK hP hD hS 0 rfl rfl 4 (by decide) w__fieldLink_RX8_23_ShellHeap_RulesReader_waits_I_ (fun _ h9 => h9) rfl (by decide +kernel) rfl rfl (Nat.le_of_ble_eq_true rfl) dX8_settle_37 (fun H_34 locs hP hD hS => ?_)
          obtain ⟨hP, hD⟩ := z_s_0_4 hP hD
          refine lv_goto (tgt := 0) hx hb dX8_settle_40 (by decide) ?_
          exact ih_3 z_33 n_h0_length_29 g_h1_30 g_h2_31 _ _ _ (show ((z_33).toInt + 1).toNat < n_2 by omega) (show ((0 : Int) ≤ (z_33).toInt ∧ (z_33).toInt ≤ (104 : Int)) by omega) (show ((0 : Int) ≤ (n_h0_length_29).toInt ∧ (n_h0_length_29).toInt ≤ (96 : Int)) by omega) (hP.sub (ws' := [(h0, .inr (8, [.ref a_tp, .ref a_t1, .ref a_t2, .ref a_w1, .int z_33, .int uo, .int up, .ref a_dr, h0_8])), (a_w1, .inl (ca_w1, 104, .inl fa_w1)), (a_dr, .inr (7, [.ref a_d1, .ref a_d2, .ref a_d3, .int n_h0_length_29, .int rc, .int rk])), (a_d1, .inl (ca_d1, 96, .inl g_h1_30)), (a_d2, .inl (ca_d2, 96, .inl g_h2_31)), (a_d3, .inl (ca_d3, 7, .inl fa_d3))]) [0, 1, 3, 4, 5, 2] rfl) (hD.sub (ws' := [(h0, .inr (8, [.ref a_tp, .ref a_t1, .ref a_t2, .ref a_w1, .int z_33, .int uo, .int up, .ref a_dr, h0_8])), (a_w1, .inl (ca_w1, 104, .inl fa_w1)), (a_dr, .inr (7, [.ref a_d1, .ref a_d2, .ref a_d3, .int n_h0_length_29, .int rc, .int rk])), (a_d1, .inl (ca_d1, 96, .inl g_h1_30)), (a_d2, .inl (ca_d2, 96, .inl g_h2_31)), (a_d3, .inl (ca_d3, 7, .inl fa_d3))]) [0, 1, 3, 4, 5, 2] (by decide) rfl) hS (lv_sub hl [0, 1] rfl)
  exact loop_1 _ uw rl fa_d1 fa_d2 _ _ _ (Nat.lt_succ_self _) (show ((0 : Int) ≤ (uw).toInt ∧ (uw).toInt ≤ (104 : Int)) by omega) (show ((0 : Int) ≤ (rl).toInt ∧ (rl).toInt ≤ (96 : Int)) by omega) hP hD hS hl
