def u_c_X10_next : List Cond := .code yX10_next cX10_next 1 none :: ([.fieldLink RX10 19 "ShellHeap$Tape" "at" "I", .fieldLink RX10 15 "ShellHeap$Tape" "text" "I", .fieldLink RX10 29 "ShellHeap$Tape" "start" "I", .fieldLink RX10 38 "ShellHeap$Tape" "sign" "I", .fieldLink RX10 35 "ShellHeap$Tape" "sort" "I", .fieldLink RX10 32 "ShellHeap$Tape" "end" "I"] ++ wsX100)
set_option maxHeartbeats 4000000 in
set_option maxRecDepth 100000 in
theorem c_X10_next (l : Launch) (dC : Nat → ClassId) (dI : Nat → Nat → Nat) (sz : Nat) (h0 : Nat) (h0_0 : Value) (h0_3 : Value) (h0_4 : Value) (h0_5 : Value) (h0_6 : Value) (h0_7 : Value) (h0_8 : Value) (h0_9 : Value) (h0_10 : Value) : Met l yX10_next u_c_X10_next ({ frames := 0, cells := 0, slots := 0, locals := 0 }) (va_Pc [.ref h0] (z_C (dC, dI) vwCl [(h0, .inr (10, [h0_0, .int 0, .int 0, h0_3, h0_4, h0_5, h0_6, h0_7, h0_8, h0_9, h0_10]))] [] sz)) (va_Qv (fun (_ : Unit) => True) (fun (_ : Unit) (t : State) => va_P (dC, dI) vwCl [(h0, .inr (10, [h0_0, .int 0, .int 0, h0_3, h0_4, .int 0, .int 0, .int 0, .int (-1), h0_9, h0_10]))] t.heap ∧ va_K (dC, dI) vwCl [] t ∧ va_D (va_A [(h0, .inr (10, [h0_0, .int 0, .int 0, h0_3, h0_4, h0_5, h0_6, h0_7, h0_8, h0_9, h0_10]))] sz) [(h0, .inr (10, [h0_0, .int 0, .int 0, h0_3, h0_4, .int 0, .int 0, .int 0, .int (-1), h0_9, h0_10]))]) (va_A [(h0, .inr (10, [h0_0, .int 0, .int 0, h0_3, h0_4, h0_5, h0_6, h0_7, h0_8, h0_9, h0_10]))] sz)) 0 0 (va_A [(h0, .inr (10, [h0_0, .int 0, .int 0, h0_3, h0_4, h0_5, h0_6, h0_7, h0_8, h0_9, h0_10]))] sz) := by
  refine Met.ofW (cc := cX10_next) (maxL := 1) (ret := none) (by decide) rfl ?_
  intro p e s m args below meth c s₁ B hml hv
  obtain ⟨rfl, hsz, hP, hK, hD0⟩ := hv
  have hx := B.exec
  have hb := B.bytes
  have hr := B.returns
  have hts := atoms_spec (ws := u_c_X10_next) B.pre
  have hown : s.vm.findClass RX10 = some m.cls := findClass_of_methodNamed B.named
  have hlocks := B.notSynchronized
  subst hsz
  have hD := hD0.self (sz := s.heap.size)
  generalize hAe : va_A [(h0, .inr (10, [h0_0, .int 0, .int 0, h0_3, h0_4, h0_5, h0_6, h0_7, h0_8, h0_9, h0_10]))] s.heap.size = A at hD ⊢
  have hA : ∀ q : Nat, s.heap.size ≤ q → A q := fun q h => by rw [← hAe]; exact Or.inr h
  have hS : va_S A s.heap s.heap [] := va_S.rf
  have hP : va_P (dC, dI) vwCl [(h0, .inr (10, [h0_0, .int 0, .int 0, h0_3, h0_4, h0_5, h0_6, h0_7, h0_8, h0_9, h0_10]))] s.heap := hP
  have w__fieldLink_RX10_19_ShellHeap_Tape_at_I_ := hts (.fieldLink RX10 19 "ShellHeap$Tape" "at" "I") (by decide +kernel)
  have hiX10 := show ∀ w ∈ u_ws RX10 TX10 11, w ∈ u_c_X10_next by decide +kernel
  have w__fieldLink_RX10_15_ShellHeap_Tape_text_I_ := hts (.fieldLink RX10 15 "ShellHeap$Tape" "text" "I") (by decide +kernel)
  have w__fieldLink_RX10_29_ShellHeap_Tape_start_I_ := hts (.fieldLink RX10 29 "ShellHeap$Tape" "start" "I") (by decide +kernel)
  have w__fieldLink_RX10_38_ShellHeap_Tape_sign_I_ := hts (.fieldLink RX10 38 "ShellHeap$Tape" "sign" "I") (by decide +kernel)
  have w__fieldLink_RX10_35_ShellHeap_Tape_sort_I_ := hts (.fieldLink RX10 35 "ShellHeap$Tape" "sort" "I") (by decide +kernel)
  have w__fieldLink_RX10_32_ShellHeap_Tape_end_I_ := hts (.fieldLink RX10 32 "ShellHeap$Tape" "end" "I") (by decide +kernel)
  have hl := lv_entry ([.ref h0]) (n := 1) (Nat.le_of_ble_eq_true rfl)
  rw [lg_entry_eq]
  generalize (lg_sl ([.ref h0]) ++ List.replicate (1 - (lg_sl ([.ref h0])).length) Slot.unset).toArray = ls at hl ⊢
  have hl : lv_has ls 1 [(0, .ref h0)] := hl
  refine lv_aload_n hx hb dX10_next_0 rfl (lv_at hl 0 rfl) ?_
  refine va_get (D := (dC, dI)) (ci := 10) (v := .int 0) (C := RX10) (T := TX10) (N := 11) hx hb hts hiX10 hown hK hP 0 rfl rfl 2 (by decide) w__fieldLink_RX10_19_ShellHeap_Tape_at_I_ (fun _ h9 => h9) rfl dX10_next_1 ?_
  refine lv_aload_n hx hb dX10_next_4 rfl (lv_at hl 0 rfl) ?_
  refine va_get (D := (dC, dI)) (ci := 10) (v := .int 0) (C := RX10) (T := TX10) (N := 11) hx hb hts hiX10 hown hK hP 0 rfl rfl 1 (by decide) w__fieldLink_RX10_15_ShellHeap_Tape_text_I_ (fun _ h9 => h9) rfl dX10_next_5 ?_
  refine lv_icmp_ge (tgt := 50) hx hb dX10_next_8 (by decide) (fun _ => ?_) (fun c_1 => absurd (by decide) c_1)
  refine lv_aload_n hx hb dX10_next_50 rfl (lv_at hl 0 rfl) ?_
  refine lv_aload_n hx hb dX10_next_51 rfl (lv_at hl 0 rfl) ?_
  refine va_get (D := (dC, dI)) (ci := 10) (v := .int 0) (C := RX10) (T := TX10) (N := 11) hx hb hts hiX10 hown hK hP 0 rfl rfl 2 (by decide) w__fieldLink_RX10_19_ShellHeap_Tape_at_I_ (fun _ h9 => h9) rfl dX10_next_52 ?_
  refine va_put (D := (dC, dI)) (ci := 10) (v := .int 0) (ty := .int) (C := RX10) (T := TX10) (N := 11) hx hb hts hiX10 tyX10 tyX10_ok nmX10 hown hK hP hD hS 0 rfl rfl 5 (by decide) w__fieldLink_RX10_29_ShellHeap_Tape_start_I_ (fun _ h9 => h9) rfl (by decide +kernel) rfl rfl (Nat.le_of_ble_eq_true rfl) dX10_next_55 (fun H_2 locs hP hD hS => ?_)
  have hP : va_P (dC, dI) vwCl [(h0, .inr (10, [h0_0, .int 0, .int 0, h0_3, h0_4, .int 0, h0_6, h0_7, h0_8, h0_9, h0_10]))] H_2 := hP
  have hD : va_D A [(h0, .inr (10, [h0_0, .int 0, .int 0, h0_3, h0_4, .int 0, h0_6, h0_7, h0_8, h0_9, h0_10]))] := hD
  refine lv_aload_n hx hb dX10_next_58 rfl (lv_at hl 0 rfl) ?_
  refine lv_iconst (v := (-1)) hx hb dX10_next_59 (by decide) ?_
  refine va_put (D := (dC, dI)) (ci := 10) (v := .int (-1)) (ty := .int) (C := RX10) (T := TX10) (N := 11) hx hb hts hiX10 tyX10 tyX10_ok nmX10 hown hK hP hD hS 0 rfl rfl 8 (by decide) w__fieldLink_RX10_38_ShellHeap_Tape_sign_I_ (fun _ h9 => h9) rfl (by decide +kernel) rfl rfl (Nat.le_of_ble_eq_true rfl) dX10_next_60 (fun H_3 locs hP hD hS => ?_)
  have hP : va_P (dC, dI) vwCl [(h0, .inr (10, [h0_0, .int 0, .int 0, h0_3, h0_4, .int 0, h0_6, h0_7, .int (-1), h0_9, h0_10]))] H_3 := hP
  have hD : va_D A [(h0, .inr (10, [h0_0, .int 0, .int 0, h0_3, h0_4, .int 0, h0_6, h0_7, .int (-1), h0_9, h0_10]))] := hD
  refine lv_aload_n hx hb dX10_next_63 rfl (lv_at hl 0 rfl) ?_
  refine va_get (D := (dC, dI)) (ci := 10) (v := .int 0) (C := RX10) (T := TX10) (N := 11) hx hb hts hiX10 hown hK hP 0 rfl rfl 2 (by decide) w__fieldLink_RX10_19_ShellHeap_Tape_at_I_ (fun _ h9 => h9) rfl dX10_next_64 ?_
  refine lv_aload_n hx hb dX10_next_67 rfl (lv_at hl 0 rfl) ?_
  refine va_get (D := (dC, dI)) (ci := 10) (v := .int 0) (C := RX10) (T := TX10) (N := 11) hx hb hts hiX10 hown hK hP 0 rfl rfl 1 (by decide) w__fieldLink_RX10_15_ShellHeap_Tape_text_I_ (fun _ h9 => h9) rfl dX10_next_68 ?_
  refine lv_icmp_lt (tgt := 82) hx hb dX10_next_71 (by decide) (fun c_4 => absurd c_4 (by decide)) (fun _ => ?_)
  refine lv_aload_n hx hb dX10_next_74 rfl (lv_at hl 0 rfl) ?_
  refine lv_iconst (v := 0) hx hb dX10_next_75 (by decide) ?_
  refine va_put (D := (dC, dI)) (ci := 10) (v := .int 0) (ty := .int) (C := RX10) (T := TX10) (N := 11) hx hb hts hiX10 tyX10 tyX10_ok nmX10 hown hK hP hD hS 0 rfl rfl 7 (by decide) w__fieldLink_RX10_35_ShellHeap_Tape_sort_I_ (fun _ h9 => h9) rfl (by decide +kernel) rfl rfl (Nat.le_of_ble_eq_true rfl) dX10_next_76 (fun H_5 locs hP hD hS => ?_)
  have hP : va_P (dC, dI) vwCl [(h0, .inr (10, [h0_0, .int 0, .int 0, h0_3, h0_4, .int 0, h0_6, .int 0, .int (-1), h0_9, h0_10]))] H_5 := hP
  have hD : va_D A [(h0, .inr (10, [h0_0, .int 0, .int 0, h0_3, h0_4, .int 0, h0_6, .int 0, .int (-1), h0_9, h0_10]))] := hD
  refine lv_goto (tgt := 154) hx hb dX10_next_79 (by decide) ?_
  refine lv_aload_n hx hb dX10_next_154 rfl (lv_at hl 0 rfl) ?_
  refine lv_aload_n hx hb dX10_next_155 rfl (lv_at hl 0 rfl) ?_
  refine va_get (D := (dC, dI)) (ci := 10) (v := .int 0) (C := RX10) (T := TX10) (N := 11) hx hb hts hiX10 hown hK hP 0 rfl rfl 2 (by decide) w__fieldLink_RX10_19_ShellHeap_Tape_at_I_ (fun _ h9 => h9) rfl dX10_next_156 ?_
  refine va_put (D := (dC, dI)) (ci := 10) (v := .int 0) (ty := .int) (C := RX10) (T := TX10) (N := 11) hx hb hts hiX10 tyX10 tyX10_ok nmX10 hown hK hP hD hS 0 rfl rfl 6 (by decide) w__fieldLink_RX10_32_ShellHeap_Tape_end_I_ (fun _ h9 => h9) rfl (by decide +kernel) rfl rfl (Nat.le_of_ble_eq_true rfl) dX10_next_159 (fun H_6 locs hP hD hS => ?_)
  have hP : va_P (dC, dI) vwCl [(h0, .inr (10, [h0_0, .int 0, .int 0, h0_3, h0_4, .int 0, .int 0, .int 0, .int (-1), h0_9, h0_10]))] H_6 := hP
  have hD : va_D A [(h0, .inr (10, [h0_0, .int 0, .int 0, h0_3, h0_4, .int 0, .int 0, .int 0, .int (-1), h0_9, h0_10]))] := hD
  have hP9 := hP.sub (ws' := [(h0, .inr (10, [h0_0, .int 0, .int 0, h0_3, h0_4, .int 0, .int 0, .int 0, .int (-1), h0_9, h0_10]))]) [0] rfl
  have hD9 := hD.sub (ws' := [(h0, .inr (10, [h0_0, .int 0, .int 0, h0_3, h0_4, .int 0, .int 0, .int 0, .int (-1), h0_9, h0_10]))]) [0] (by decide) rfl
  have hK9 := hK.sub (tys' := []) [] rfl
  refine W.widen (k := 0) (n := 0) (Nat.le_of_ble_eq_true rfl) (Nat.le_of_ble_eq_true rfl) ?_
  exact W.vret hx hb hr (fun t ht hW => ⟨⟨(), rfl, trivial, ⟨by rw [ht]; exact hP9, va_K.moved hW.alike hK9, hD9⟩⟩, hS.F ht⟩) hS.2.2 dX10_next_162
def u_c_X10_open : List Cond := .code yX10_open cX10_open 3 none :: ([.fieldLink RX10 15 "ShellHeap$Tape" "text" "I", .fieldLink RX10 22 "ShellHeap$Tape" "digitsJoin" "Z", .fieldLink RX10 26 "ShellHeap$Tape" "fed" "I", .fieldLink RX10 19 "ShellHeap$Tape" "at" "I", .fieldLink RX10 41 "ShellHeap$Tape" "faultSort" "I", .fieldLink RX10 44 "ShellHeap$Tape" "faultPlace" "I", .methodLink RX10 47 yX10_next, .instanceMethod yX10_next, .selects RX10 yX10_next yX10_next, .initialized RX10, .code yX10_next cX10_next 1 none, .fieldLink RX10 29 "ShellHeap$Tape" "start" "I", .fieldLink RX10 38 "ShellHeap$Tape" "sign" "I", .fieldLink RX10 35 "ShellHeap$Tape" "sort" "I", .fieldLink RX10 32 "ShellHeap$Tape" "end" "I"] ++ wsX100)
set_option maxRecDepth 20000 in
theorem gw_c_X10_open_c_X10_next_47 : GoodIn u_c_X10_open (wsV RX10 47 RX10 yX10_next u_c_X10_next) := goodIn_r _ [7, 8, 9, 10, 11, 4, 1, 12, 13, 14, 15, 16, 17, 18, 19, 20, 21, 22, 23, 24, 25, 26] (by decide +kernel) (by decide +kernel)
set_option maxHeartbeats 4000000 in
set_option maxRecDepth 100000 in
theorem c_X10_open (l : Launch) (dC : Nat → ClassId) (dI : Nat → Nat → Nat) (sz : Nat) (h0 : Nat) (h0_0 : Value) (h0_1 : Value) (h0_2 : Value) (h0_3 : Value) (h0_4 : Value) (h0_5 : Value) (h0_6 : Value) (h0_7 : Value) (h0_8 : Value) (h0_9 : Value) (h0_10 : Value) : Met l yX10_open u_c_X10_open ({ frames := 1, cells := 0, slots := 0, locals := 20 }) (va_Pc [.ref h0, .int 0, .int 0] (z_C (dC, dI) vwCl [(h0, .inr (10, [h0_0, h0_1, h0_2, h0_3, h0_4, h0_5, h0_6, h0_7, h0_8, h0_9, h0_10]))] [] sz)) (va_Qv (fun (_ : Unit) => True) (fun (_ : Unit) (t : State) => va_P (dC, dI) vwCl [(h0, .inr (10, [h0_0, .int 0, .int 0, .int 0, .int 0, .int 0, .int 0, .int 0, .int (-1), .int 0, .int (-1)]))] t.heap ∧ va_K (dC, dI) vwCl [] t ∧ va_D (va_A [(h0, .inr (10, [h0_0, h0_1, h0_2, h0_3, h0_4, h0_5, h0_6, h0_7, h0_8, h0_9, h0_10]))] sz) [(h0, .inr (10, [h0_0, .int 0, .int 0, .int 0, .int 0, .int 0, .int 0, .int 0, .int (-1), .int 0, .int (-1)]))]) (va_A [(h0, .inr (10, [h0_0, h0_1, h0_2, h0_3, h0_4, h0_5, h0_6, h0_7, h0_8, h0_9, h0_10]))] sz)) 0 0 (va_A [(h0, .inr (10, [h0_0, h0_1, h0_2, h0_3, h0_4, h0_5, h0_6, h0_7, h0_8, h0_9, h0_10]))] sz) := by
  refine Met.ofW (cc := cX10_open) (maxL := 3) (ret := none) (by decide) rfl ?_
  intro p e s m args below meth c s₁ B hml hv
  obtain ⟨rfl, hsz, hP, hK, hD0⟩ := hv
  have hx := B.exec
  have hb := B.bytes
  have hr := B.returns
  have hts := atoms_spec (ws := u_c_X10_open) B.pre
  have hown : s.vm.findClass RX10 = some m.cls := findClass_of_methodNamed B.named
  have hlocks := B.notSynchronized
  subst hsz
  have hD := hD0.self (sz := s.heap.size)
  generalize hAe : va_A [(h0, .inr (10, [h0_0, h0_1, h0_2, h0_3, h0_4, h0_5, h0_6, h0_7, h0_8, h0_9, h0_10]))] s.heap.size = A at hD ⊢
  have hA : ∀ q : Nat, s.heap.size ≤ q → A q := fun q h => by rw [← hAe]; exact Or.inr h
  have hS : va_S A s.heap s.heap [] := va_S.rf
  have hP : va_P (dC, dI) vwCl [(h0, .inr (10, [h0_0, h0_1, h0_2, h0_3, h0_4, h0_5, h0_6, h0_7, h0_8, h0_9, h0_10]))] s.heap := hP
  have w__fieldLink_RX10_15_ShellHeap_Tape_text_I_ := hts (.fieldLink RX10 15 "ShellHeap$Tape" "text" "I") (by decide +kernel)
  have hiX10 := show ∀ w ∈ u_ws RX10 TX10 11, w ∈ u_c_X10_open by decide +kernel
  have w__fieldLink_RX10_22_ShellHeap_Tape_digitsJoin_Z_ := hts (.fieldLink RX10 22 "ShellHeap$Tape" "digitsJoin" "Z") (by decide +kernel)
  have w__fieldLink_RX10_26_ShellHeap_Tape_fed_I_ := hts (.fieldLink RX10 26 "ShellHeap$Tape" "fed" "I") (by decide +kernel)
  have w__fieldLink_RX10_19_ShellHeap_Tape_at_I_ := hts (.fieldLink RX10 19 "ShellHeap$Tape" "at" "I") (by decide +kernel)
  have w__fieldLink_RX10_41_ShellHeap_Tape_faultSort_I_ := hts (.fieldLink RX10 41 "ShellHeap$Tape" "faultSort" "I") (by decide +kernel)
  have w__fieldLink_RX10_44_ShellHeap_Tape_faultPlace_I_ := hts (.fieldLink RX10 44 "ShellHeap$Tape" "faultPlace" "I") (by decide +kernel)
  have hl := lv_entry ([.ref h0, .int 0, .int 0]) (n := 3) (Nat.le_of_ble_eq_true rfl)
  rw [lg_entry_eq]
  generalize (lg_sl ([.ref h0, .int 0, .int 0]) ++ List.replicate (3 - (lg_sl ([.ref h0, .int 0, .int 0])).length) Slot.unset).toArray = ls at hl ⊢
  have hl : lv_has ls 3 [(0, .ref h0), (1, .int 0), (2, .int 0)] := hl
  refine lv_aload_n hx hb dX10_open_0 rfl (lv_at hl 0 rfl) ?_
  refine lv_iload_n hx hb dX10_open_1 rfl (lv_at hl 1 rfl) ?_
  refine va_put (D := (dC, dI)) (ci := 10) (v := .int 0) (ty := .int) (C := RX10) (T := TX10) (N := 11) hx hb hts hiX10 tyX10 tyX10_ok nmX10 hown hK hP hD hS 0 rfl rfl 1 (by decide) w__fieldLink_RX10_15_ShellHeap_Tape_text_I_ (fun _ h9 => h9) rfl (by decide +kernel) rfl rfl (Nat.le_of_ble_eq_true rfl) dX10_open_2 (fun H_1 locs hP hD hS => ?_)
  have hP : va_P (dC, dI) vwCl [(h0, .inr (10, [h0_0, .int 0, h0_2, h0_3, h0_4, h0_5, h0_6, h0_7, h0_8, h0_9, h0_10]))] H_1 := hP
  have hD : va_D A [(h0, .inr (10, [h0_0, .int 0, h0_2, h0_3, h0_4, h0_5, h0_6, h0_7, h0_8, h0_9, h0_10]))] := hD
  refine lv_aload_n hx hb dX10_open_5 rfl (lv_at hl 0 rfl) ?_
  refine lv_iload_n hx hb dX10_open_6 rfl (lv_at hl 2 rfl) ?_
  refine va_put (D := (dC, dI)) (ci := 10) (v := .int 0) (ty := .boolean) (C := RX10) (T := TX10) (N := 11) hx hb hts hiX10 tyX10 tyX10_ok nmX10 hown hK hP hD hS 0 rfl rfl 3 (by decide) w__fieldLink_RX10_22_ShellHeap_Tape_digitsJoin_Z_ (fun _ h9 => h9) rfl (by decide +kernel) rfl rfl (Nat.le_of_ble_eq_true rfl) dX10_open_7 (fun H_2 locs hP hD hS => ?_)
  have hP : va_P (dC, dI) vwCl [(h0, .inr (10, [h0_0, .int 0, h0_2, .int 0, h0_4, h0_5, h0_6, h0_7, h0_8, h0_9, h0_10]))] H_2 := hP
  have hD : va_D A [(h0, .inr (10, [h0_0, .int 0, h0_2, .int 0, h0_4, h0_5, h0_6, h0_7, h0_8, h0_9, h0_10]))] := hD
  refine lv_aload_n hx hb dX10_open_10 rfl (lv_at hl 0 rfl) ?_
  refine lv_iconst (v := 0) hx hb dX10_open_11 (by decide) ?_
  refine va_put (D := (dC, dI)) (ci := 10) (v := .int 0) (ty := .int) (C := RX10) (T := TX10) (N := 11) hx hb hts hiX10 tyX10 tyX10_ok nmX10 hown hK hP hD hS 0 rfl rfl 4 (by decide) w__fieldLink_RX10_26_ShellHeap_Tape_fed_I_ (fun _ h9 => h9) rfl (by decide +kernel) rfl rfl (Nat.le_of_ble_eq_true rfl) dX10_open_12 (fun H_3 locs hP hD hS => ?_)
  have hP : va_P (dC, dI) vwCl [(h0, .inr (10, [h0_0, .int 0, h0_2, .int 0, .int 0, h0_5, h0_6, h0_7, h0_8, h0_9, h0_10]))] H_3 := hP
  have hD : va_D A [(h0, .inr (10, [h0_0, .int 0, h0_2, .int 0, .int 0, h0_5, h0_6, h0_7, h0_8, h0_9, h0_10]))] := hD
  refine lv_aload_n hx hb dX10_open_15 rfl (lv_at hl 0 rfl) ?_
  refine lv_iconst (v := 0) hx hb dX10_open_16 (by decide) ?_
  refine va_put (D := (dC, dI)) (ci := 10) (v := .int 0) (ty := .int) (C := RX10) (T := TX10) (N := 11) hx hb hts hiX10 tyX10 tyX10_ok nmX10 hown hK hP hD hS 0 rfl rfl 2 (by decide) w__fieldLink_RX10_19_ShellHeap_Tape_at_I_ (fun _ h9 => h9) rfl (by decide +kernel) rfl rfl (Nat.le_of_ble_eq_true rfl) dX10_open_17 (fun H_4 locs hP hD hS => ?_)
  have hP : va_P (dC, dI) vwCl [(h0, .inr (10, [h0_0, .int 0, .int 0, .int 0, .int 0, h0_5, h0_6, h0_7, h0_8, h0_9, h0_10]))] H_4 := hP
  have hD : va_D A [(h0, .inr (10, [h0_0, .int 0, .int 0, .int 0, .int 0, h0_5, h0_6, h0_7, h0_8, h0_9, h0_10]))] := hD
  refine lv_aload_n hx hb dX10_open_20 rfl (lv_at hl 0 rfl) ?_
  refine lv_iconst (v := 0) hx hb dX10_open_21 (by decide) ?_
  refine va_put (D := (dC, dI)) (ci := 10) (v := .int 0) (ty := .int) (C := RX10) (T := TX10) (N := 11) hx hb hts hiX10 tyX10 tyX10_ok nmX10 hown hK hP hD hS 0 rfl rfl 9 (by decide) w__fieldLink_RX10_41_ShellHeap_Tape_faultSort_I_ (fun _ h9 => h9) rfl (by decide +kernel) rfl rfl (Nat.le_of_ble_eq_true rfl) dX10_open_22 (fun H_5 locs hP hD hS => ?_)
  have hP : va_P (dC, dI) vwCl [(h0, .inr (10, [h0_0, .int 0, .int 0, .int 0, .int 0, h0_5, h0_6, h0_7, h0_8, .int 0, h0_10]))] H_5 := hP
  have hD : va_D A [(h0, .inr (10, [h0_0, .int 0, .int 0, .int 0, .int 0, h0_5, h0_6, h0_7, h0_8, .int 0, h0_10]))] := hD
  refine lv_aload_n hx hb dX10_open_25 rfl (lv_at hl 0 rfl) ?_
  refine lv_iconst (v := (-1)) hx hb dX10_open_26 (by decide) ?_
  refine va_put (D := (dC, dI)) (ci := 10) (v := .int (-1)) (ty := .int) (C := RX10) (T := TX10) (N := 11) hx hb hts hiX10 tyX10 tyX10_ok nmX10 hown hK hP hD hS 0 rfl rfl 10 (by decide) w__fieldLink_RX10_44_ShellHeap_Tape_faultPlace_I_ (fun _ h9 => h9) rfl (by decide +kernel) rfl rfl (Nat.le_of_ble_eq_true rfl) dX10_open_27 (fun H_6 locs hP hD hS => ?_)
  have hP : va_P (dC, dI) vwCl [(h0, .inr (10, [h0_0, .int 0, .int 0, .int 0, .int 0, h0_5, h0_6, h0_7, h0_8, .int 0, .int (-1)]))] H_6 := hP
  have hD : va_D A [(h0, .inr (10, [h0_0, .int 0, .int 0, .int 0, .int 0, h0_5, h0_6, h0_7, h0_8, .int 0, .int (-1)]))] := hD
  refine lv_aload_n hx hb dX10_open_30 rfl (lv_at hl 0 rfl) ?_
  have hPc := hP.sub (ws' := [(h0, .inr (10, [h0_0, .int 0, .int 0, .int 0, .int 0, h0_5, h0_6, h0_7, h0_8, .int 0, .int (-1)]))]) [0] rfl
  have hDc := hD.sub (ws' := [(h0, .inr (10, [h0_0, .int 0, .int 0, .int 0, .int 0, h0_5, h0_6, h0_7, h0_8, .int 0, .int (-1)]))]) [0] (by decide) rfl
  have hKc := hK.sub (tys' := []) [] rfl
  have hFc := va_free (wc := [(h0, .inr (10, [h0_0, .int 0, .int 0, .int 0, .int 0, h0_5, h0_6, h0_7, h0_8, .int 0, .int (-1)]))]) hD hS hA [0] rfl
  refine va_callv (va_runV (As := []) (rest := []) ⟨hx, hb, hml, hown, hts⟩ (c_X10_next l dC dI H_6.size h0 h0_0 (.int 0) (.int 0) h0_5 h0_6 h0_7 h0_8 (.int 0) (.int (-1))) (cwV 0 hts gw_c_X10_open_c_X10_next_47 rfl rfl rfl (by decide +kernel) ⟨Nat.le_of_ble_eq_true rfl, Nat.le_of_ble_eq_true rfl⟩) ⟨z_blind, va_recv hKc hPc (ci := 10) (q0 := 0) rfl rfl, z_pre hPc hKc hDc⟩ rfl rfl hl.1 rfl (lv_room (Nat.le_of_ble_eq_true rfl)) dX10_open_31 ⟨Nat.le_of_ble_eq_true rfl, Nat.le_of_ble_eq_true rfl⟩) hS (fun q _ h => hFc q h) hFc (fun u t H_7 locs ht hvm hw_9 hB hz1 hk1 hS => ?_)
  obtain ⟨hP1, hK1, hD1⟩ := hB
  rw [ht] at hP1
  have hK1 := va_K.moved hvm.symm hK1
  obtain ⟨hP, hD⟩ := va_join (wr := []) (w1 := [(h0, .inr (10, [h0_0, .int 0, .int 0, .int 0, .int 0, .int 0, .int 0, .int 0, .int (-1), .int 0, .int (-1)]))]) hP hD [0] [] rfl rfl (by decide) (by decide) hk1 hFc hP1 hD1
  have hP : va_P (dC, dI) vwCl [(h0, .inr (10, [h0_0, .int 0, .int 0, .int 0, .int 0, .int 0, .int 0, .int 0, .int (-1), .int 0, .int (-1)]))] H_7 := hP
  have hD : va_D A [(h0, .inr (10, [h0_0, .int 0, .int 0, .int 0, .int 0, .int 0, .int 0, .int 0, .int (-1), .int 0, .int (-1)]))] := hD
  clear hPc hDc hKc
  have hP9 := hP.sub (ws' := [(h0, .inr (10, [h0_0, .int 0, .int 0, .int 0, .int 0, .int 0, .int 0, .int 0, .int (-1), .int 0, .int (-1)]))]) [0] rfl
  have hD9 := hD.sub (ws' := [(h0, .inr (10, [h0_0, .int 0, .int 0, .int 0, .int 0, .int 0, .int 0, .int 0, .int (-1), .int 0, .int (-1)]))]) [0] (by decide) rfl
  have hK9 := hK.sub (tys' := []) [] rfl
  refine W.widen (k := 0) (n := 0) (Nat.le_of_ble_eq_true rfl) (Nat.le_of_ble_eq_true rfl) ?_
  exact W.vret hx hb hr (fun t ht hW => ⟨⟨(), rfl, trivial, ⟨by rw [ht]; exact hP9, va_K.moved hW.alike hK9, hD9⟩⟩, hS.F ht⟩) hS.2.2 dX10_open_34
def u_c_X7_clear : List Cond := .code yX7_clear cX7_clear 1 none :: ([.fieldLink RX7 19 "ShellHeap$Rules" "length" "I", .fieldLink RX7 23 "ShellHeap$Rules" "causes" "I", .fieldLink RX7 26 "ShellHeap$Rules" "knots" "I"] ++ wsX70)
set_option maxHeartbeats 4000000 in
set_option maxRecDepth 100000 in
theorem c_X7_clear (l : Launch) (dC : Nat → ClassId) (dI : Nat → Nat → Nat) (sz : Nat) (h0 : Nat) (h0_0 : Value) (h0_1 : Value) (h0_2 : Value) (h0_3 : Value) (h0_4 : Value) (h0_5 : Value) : Met l yX7_clear u_c_X7_clear ({ frames := 0, cells := 0, slots := 0, locals := 0 }) (va_Pc [.ref h0] (z_C (dC, dI) vwCl [(h0, .inr (7, [h0_0, h0_1, h0_2, h0_3, h0_4, h0_5]))] [] sz)) (va_Qv (fun (_ : Unit) => True) (fun (_ : Unit) (t : State) => va_P (dC, dI) vwCl [(h0, .inr (7, [h0_0, h0_1, h0_2, .int 0, .int 0, .int 0]))] t.heap ∧ va_K (dC, dI) vwCl [] t ∧ va_D (va_A [(h0, .inr (7, [h0_0, h0_1, h0_2, h0_3, h0_4, h0_5]))] sz) [(h0, .inr (7, [h0_0, h0_1, h0_2, .int 0, .int 0, .int 0]))]) (va_A [(h0, .inr (7, [h0_0, h0_1, h0_2, h0_3, h0_4, h0_5]))] sz)) 0 0 (va_A [(h0, .inr (7, [h0_0, h0_1, h0_2, h0_3, h0_4, h0_5]))] sz) := by
  refine Met.ofW (cc := cX7_clear) (maxL := 1) (ret := none) (by decide) rfl ?_
  intro p e s m args below meth c s₁ B hml hv
  obtain ⟨rfl, hsz, hP, hK, hD0⟩ := hv
  have hx := B.exec
  have hb := B.bytes
  have hr := B.returns
  have hts := atoms_spec (ws := u_c_X7_clear) B.pre
  have hown : s.vm.findClass RX7 = some m.cls := findClass_of_methodNamed B.named
  have hlocks := B.notSynchronized
  subst hsz
  have hD := hD0.self (sz := s.heap.size)
  generalize hAe : va_A [(h0, .inr (7, [h0_0, h0_1, h0_2, h0_3, h0_4, h0_5]))] s.heap.size = A at hD ⊢
  have hA : ∀ q : Nat, s.heap.size ≤ q → A q := fun q h => by rw [← hAe]; exact Or.inr h
  have hS : va_S A s.heap s.heap [] := va_S.rf
  have hP : va_P (dC, dI) vwCl [(h0, .inr (7, [h0_0, h0_1, h0_2, h0_3, h0_4, h0_5]))] s.heap := hP
  have w__fieldLink_RX7_19_ShellHeap_Rules_length_I_ := hts (.fieldLink RX7 19 "ShellHeap$Rules" "length" "I") (by decide +kernel)
  have hiX7 := show ∀ w ∈ u_ws RX7 TX7 6, w ∈ u_c_X7_clear by decide +kernel
  have w__fieldLink_RX7_23_ShellHeap_Rules_causes_I_ := hts (.fieldLink RX7 23 "ShellHeap$Rules" "causes" "I") (by decide +kernel)
  have w__fieldLink_RX7_26_ShellHeap_Rules_knots_I_ := hts (.fieldLink RX7 26 "ShellHeap$Rules" "knots" "I") (by decide +kernel)
  have hl := lv_entry ([.ref h0]) (n := 1) (Nat.le_of_ble_eq_true rfl)
  rw [lg_entry_eq]
  generalize (lg_sl ([.ref h0]) ++ List.replicate (1 - (lg_sl ([.ref h0])).length) Slot.unset).toArray = ls at hl ⊢
  have hl : lv_has ls 1 [(0, .ref h0)] := hl
  refine lv_aload_n hx hb dX7_clear_0 rfl (lv_at hl 0 rfl) ?_
  refine lv_iconst (v := 0) hx hb dX7_clear_1 (by decide) ?_
  refine va_put (D := (dC, dI)) (ci := 7) (v := .int 0) (ty := .int) (C := RX7) (T := TX7) (N := 6) hx hb hts hiX7 tyX7 tyX7_ok nmX7 hown hK hP hD hS 0 rfl rfl 3 (by decide) w__fieldLink_RX7_19_ShellHeap_Rules_length_I_ (fun _ h9 => h9) rfl (by decide +kernel) rfl rfl (Nat.le_of_ble_eq_true rfl) dX7_clear_2 (fun H_1 locs hP hD hS => ?_)
  have hP : va_P (dC, dI) vwCl [(h0, .inr (7, [h0_0, h0_1, h0_2, .int 0, h0_4, h0_5]))] H_1 := hP
  have hD : va_D A [(h0, .inr (7, [h0_0, h0_1, h0_2, .int 0, h0_4, h0_5]))] := hD
  refine lv_aload_n hx hb dX7_clear_5 rfl (lv_at hl 0 rfl) ?_
  refine lv_iconst (v := 0) hx hb dX7_clear_6 (by decide) ?_
  refine va_put (D := (dC, dI)) (ci := 7) (v := .int 0) (ty := .int) (C := RX7) (T := TX7) (N := 6) hx hb hts hiX7 tyX7 tyX7_ok nmX7 hown hK hP hD hS 0 rfl rfl 4 (by decide) w__fieldLink_RX7_23_ShellHeap_Rules_causes_I_ (fun _ h9 => h9) rfl (by decide +kernel) rfl rfl (Nat.le_of_ble_eq_true rfl) dX7_clear_7 (fun H_2 locs hP hD hS => ?_)
  have hP : va_P (dC, dI) vwCl [(h0, .inr (7, [h0_0, h0_1, h0_2, .int 0, .int 0, h0_5]))] H_2 := hP
  have hD : va_D A [(h0, .inr (7, [h0_0, h0_1, h0_2, .int 0, .int 0, h0_5]))] := hD
  refine lv_aload_n hx hb dX7_clear_10 rfl (lv_at hl 0 rfl) ?_
  refine lv_iconst (v := 0) hx hb dX7_clear_11 (by decide) ?_
  refine va_put (D := (dC, dI)) (ci := 7) (v := .int 0) (ty := .int) (C := RX7) (T := TX7) (N := 6) hx hb hts hiX7 tyX7 tyX7_ok nmX7 hown hK hP hD hS 0 rfl rfl 5 (by decide) w__fieldLink_RX7_26_ShellHeap_Rules_knots_I_ (fun _ h9 => h9) rfl (by decide +kernel) rfl rfl (Nat.le_of_ble_eq_true rfl) dX7_clear_12 (fun H_3 locs hP hD hS => ?_)
  have hP : va_P (dC, dI) vwCl [(h0, .inr (7, [h0_0, h0_1, h0_2, .int 0, .int 0, .int 0]))] H_3 := hP
  have hD : va_D A [(h0, .inr (7, [h0_0, h0_1, h0_2, .int 0, .int 0, .int 0]))] := hD
  have hP9 := hP.sub (ws' := [(h0, .inr (7, [h0_0, h0_1, h0_2, .int 0, .int 0, .int 0]))]) [0] rfl
  have hD9 := hD.sub (ws' := [(h0, .inr (7, [h0_0, h0_1, h0_2, .int 0, .int 0, .int 0]))]) [0] (by decide) rfl
  have hK9 := hK.sub (tys' := []) [] rfl
  refine W.widen (k := 0) (n := 0) (Nat.le_of_ble_eq_true rfl) (Nat.le_of_ble_eq_true rfl) ?_
  exact W.vret hx hb hr (fun t ht hW => ⟨⟨(), rfl, trivial, ⟨by rw [ht]; exact hP9, va_K.moved hW.alike hK9, hD9⟩⟩, hS.F ht⟩) hS.2.2 dX7_clear_15
def u_c_X8_read : List Cond := .code yX8_read cX8_read 3 (some .boolean) :: ([.fieldLink RX8 42 "ShellHeap$RulesReader" "tape" "LShellHeap$Tape;", .methodLink RX8 46 yX10_open, .instanceMethod yX10_open, .selects RX10 yX10_open yX10_open, .initialized RX10, .code yX10_open cX10_open 3 none, .fieldLink RX10 15 "ShellHeap$Tape" "text" "I", .fieldLink RX10 22 "ShellHeap$Tape" "digitsJoin" "Z", .fieldLink RX10 26 "ShellHeap$Tape" "fed" "I", .fieldLink RX10 19 "ShellHeap$Tape" "at" "I", .fieldLink RX10 41 "ShellHeap$Tape" "faultSort" "I", .fieldLink RX10 44 "ShellHeap$Tape" "faultPlace" "I", .methodLink RX10 47 yX10_next, .instanceMethod yX10_next, .selects RX10 yX10_next yX10_next, .code yX10_next cX10_next 1 none, .fieldLink RX10 29 "ShellHeap$Tape" "start" "I", .fieldLink RX10 38 "ShellHeap$Tape" "sign" "I", .fieldLink RX10 35 "ShellHeap$Tape" "sort" "I", .fieldLink RX10 32 "ShellHeap$Tape" "end" "I", .fieldLink RX8 35 "ShellHeap$RulesReader" "draft" "LShellHeap$Rules;", .methodLink RX8 51 yX7_clear, .instanceMethod yX7_clear, .selects RX7 yX7_clear yX7_clear, .initialized RX7, .code yX7_clear cX7_clear 1 none, .fieldLink RX7 19 "ShellHeap$Rules" "length" "I", .fieldLink RX7 23 "ShellHeap$Rules" "causes" "I", .fieldLink RX7 26 "ShellHeap$Rules" "knots" "I", .fieldLink RX8 54 "ShellHeap$Tape" "sort" "I", .fieldLink RX8 39 "ShellHeap$RulesReader" "standing" "LShellHeap$Rules;"] ++ wsX80 ++ wsX100 ++ wsX70)
set_option maxRecDepth 20000 in
theorem gw_c_X8_read_c_X10_open_46 : GoodIn u_c_X8_read (wsV RX8 46 RX10 yX10_open u_c_X10_open) := goodIn_r _ [2, 3, 4, 5, 6, 7, 8, 9, 10, 11, 12, 13, 14, 15, 5, 16, 17, 18, 19, 20, 41, 42, 43, 44, 45, 46, 47, 48, 49, 50, 51] (by decide +kernel) (by decide +kernel)
set_option maxRecDepth 20000 in
theorem gw_c_X8_read_c_X7_clear_51 : GoodIn u_c_X8_read (wsV RX8 51 RX7 yX7_clear u_c_X7_clear) := goodIn_r _ [22, 23, 24, 25, 26, 27, 28, 29, 52, 53, 54, 55, 56, 57] (by decide +kernel) (by decide +kernel)
set_option maxHeartbeats 4000000 in
set_option maxRecDepth 100000 in
theorem c_X8_read (l : Launch) (dC : Nat → ClassId) (dI : Nat → Nat → Nat) (sz : Nat) (h0 : Nat) (h1 : Nat) (h0_1 : Value) (h0_2 : Value) (h0_3 : Value) (h0_4 : Value) (h0_5 : Value) (h0_6 : Value) (h2 : Nat) (h3 : Nat) (h1_0 : Value) (h1_1 : Value) (h1_2 : Value) (h1_3 : Value) (h1_4 : Value) (h1_5 : Value) (h1_6 : Value) (h1_7 : Value) (h1_8 : Value) (h1_9 : Value) (h1_10 : Value) (h2_0 : Value) (h2_1 : Value) (h2_2 : Value) (h2_3 : Value) (h2_4 : Value) (h2_5 : Value) : Met l yX8_read u_c_X8_read ({ frames := 2, cells := 0, slots := 0, locals := 42 }) (va_Pc [.ref h0, .int 0] (z_C (dC, dI) vwCl [(h0, .inr (8, [.ref h1, h0_1, h0_2, h0_3, h0_4, h0_5, h0_6, .ref h2, .ref h3])), (h1, .inr (10, [h1_0, h1_1, h1_2, h1_3, h1_4, h1_5, h1_6, h1_7, h1_8, h1_9, h1_10])), (h2, .inr (7, [h2_0, h2_1, h2_2, h2_3, h2_4, h2_5]))] [] sz)) (va_Qi (fun (r : Int32) (_ : Unit) => r = 1) (fun (_ : Unit) (t : State) => va_P (dC, dI) vwCl [(h0, .inr (8, [.ref h1, h0_1, h0_2, h0_3, h0_4, h0_5, h0_6, .ref h3, .ref h2])), (h2, .inr (7, [h2_0, h2_1, h2_2, .int 0, .int 0, .int 0]))] t.heap ∧ va_K (dC, dI) vwCl [] t ∧ va_D (va_A [(h0, .inr (8, [.ref h1, h0_1, h0_2, h0_3, h0_4, h0_5, h0_6, .ref h2, .ref h3])), (h1, .inr (10, [h1_0, h1_1, h1_2, h1_3, h1_4, h1_5, h1_6, h1_7, h1_8, h1_9, h1_10])), (h2, .inr (7, [h2_0, h2_1, h2_2, h2_3, h2_4, h2_5]))] sz) [(h0, .inr (8, [.ref h1, h0_1, h0_2, h0_3, h0_4, h0_5, h0_6, .ref h3, .ref h2])), (h2, .inr (7, [h2_0, h2_1, h2_2, .int 0, .int 0, .int 0]))]) (va_A [(h0, .inr (8, [.ref h1, h0_1, h0_2, h0_3, h0_4, h0_5, h0_6, .ref h2, .ref h3])), (h1, .inr (10, [h1_0, h1_1, h1_2, h1_3, h1_4, h1_5, h1_6, h1_7, h1_8, h1_9, h1_10])), (h2, .inr (7, [h2_0, h2_1, h2_2, h2_3, h2_4, h2_5]))] sz)) 0 0 (va_A [(h0, .inr (8, [.ref h1, h0_1, h0_2, h0_3, h0_4, h0_5, h0_6, .ref h2, .ref h3])), (h1, .inr (10, [h1_0, h1_1, h1_2, h1_3, h1_4, h1_5, h1_6, h1_7, h1_8, h1_9, h1_10])), (h2, .inr (7, [h2_0, h2_1, h2_2, h2_3, h2_4, h2_5]))] sz) := by
  refine Met.ofW (cc := cX8_read) (maxL := 3) (ret := (some .boolean)) (by decide) rfl ?_
  intro p e s m args below meth c s₁ B hml hv
  obtain ⟨rfl, hsz, hP, hK, hD0⟩ := hv
  have hx := B.exec
  have hb := B.bytes
  have hr := B.returns
  have hts := atoms_spec (ws := u_c_X8_read) B.pre
  have hown : s.vm.findClass RX8 = some m.cls := findClass_of_methodNamed B.named
  have hlocks := B.notSynchronized
  subst hsz
  have hD := hD0.self (sz := s.heap.size)
  generalize hAe : va_A [(h0, .inr (8, [.ref h1, h0_1, h0_2, h0_3, h0_4, h0_5, h0_6, .ref h2, .ref h3])), (h1, .inr (10, [h1_0, h1_1, h1_2, h1_3, h1_4, h1_5, h1_6, h1_7, h1_8, h1_9, h1_10])), (h2, .inr (7, [h2_0, h2_1, h2_2, h2_3, h2_4, h2_5]))] s.heap.size = A at hD ⊢
  have hA : ∀ q : Nat, s.heap.size ≤ q → A q := fun q h => by rw [← hAe]; exact Or.inr h
  have hS : va_S A s.heap s.heap [] := va_S.rf
  have hP : va_P (dC, dI) vwCl [(h0, .inr (8, [.ref h1, h0_1, h0_2, h0_3, h0_4, h0_5, h0_6, .ref h2, .ref h3])), (h1, .inr (10, [h1_0, h1_1, h1_2, h1_3, h1_4, h1_5, h1_6, h1_7, h1_8, h1_9, h1_10])), (h2, .inr (7, [h2_0, h2_1, h2_2, h2_3, h2_4, h2_5]))] s.heap := hP
  have w__fieldLink_RX8_42_ShellHeap_RulesReader_tape_LShellHeap_Tape_ := hts (.fieldLink RX8 42 "ShellHeap$RulesReader" "tape" "LShellHeap$Tape;") (by decide +kernel)
  have hiX8 := show ∀ w ∈ u_ws RX8 TX8 9, w ∈ u_c_X8_read by decide +kernel
  have w__fieldLink_RX8_35_ShellHeap_RulesReader_draft_LShellHeap_Rules_ := hts (.fieldLink RX8 35 "ShellHeap$RulesReader" "draft" "LShellHeap$Rules;") (by decide +kernel)
  have w__fieldLink_RX8_54_ShellHeap_Tape_sort_I_ := hts (.fieldLink RX8 54 "ShellHeap$Tape" "sort" "I") (by decide +kernel)
  have hiX10 := show ∀ w ∈ u_ws RX10 TX10 11, w ∈ u_c_X8_read by decide +kernel
  have w__fieldLink_RX8_39_ShellHeap_RulesReader_standing_LShellHeap_Rules_ := hts (.fieldLink RX8 39 "ShellHeap$RulesReader" "standing" "LShellHeap$Rules;") (by decide +kernel)
  have hl := lv_entry ([.ref h0, .int 0]) (n := 3) (Nat.le_of_ble_eq_true rfl)
  rw [lg_entry_eq]
  generalize (lg_sl ([.ref h0, .int 0]) ++ List.replicate (3 - (lg_sl ([.ref h0, .int 0])).length) Slot.unset).toArray = ls at hl ⊢
  have hl : lv_has ls 3 [(0, .ref h0), (1, .int 0)] := hl
  refine lv_aload_n hx hb dX8_read_0 rfl (lv_at hl 0 rfl) ?_
  refine va_get (D := (dC, dI)) (ci := 8) (v := .ref h1) (C := RX8) (T := TX8) (N := 9) hx hb hts hiX8 hown hK hP 0 rfl rfl 0 (by decide) w__fieldLink_RX8_42_ShellHeap_RulesReader_tape_LShellHeap_Tape_ (fun _ h9 => h9) rfl dX8_read_1 ?_
  refine lv_iload_n hx hb dX8_read_4 rfl (lv_at hl 1 rfl) ?_
  refine lv_iconst (v := 0) hx hb dX8_read_5 (by decide) ?_
  have hPc := hP.sub (ws' := [(h1, .inr (10, [h1_0, h1_1, h1_2, h1_3, h1_4, h1_5, h1_6, h1_7, h1_8, h1_9, h1_10]))]) [1] rfl
  have hDc := hD.sub (ws' := [(h1, .inr (10, [h1_0, h1_1, h1_2, h1_3, h1_4, h1_5, h1_6, h1_7, h1_8, h1_9, h1_10]))]) [1] (by decide) rfl
  have hKc := hK.sub (tys' := []) [] rfl
  have hFc := va_free (wc := [(h1, .inr (10, [h1_0, h1_1, h1_2, h1_3, h1_4, h1_5, h1_6, h1_7, h1_8, h1_9, h1_10]))]) hD hS hA [1] rfl
  refine va_callv (va_runV (As := [.int 0, .int 0]) (rest := []) ⟨hx, hb, hml, hown, hts⟩ (c_X10_open l dC dI s.heap.size h1 h1_0 h1_1 h1_2 h1_3 h1_4 h1_5 h1_6 h1_7 h1_8 h1_9 h1_10) (cwV 2 hts gw_c_X8_read_c_X10_open_46 rfl rfl rfl (by decide +kernel) ⟨Nat.le_of_ble_eq_true rfl, Nat.le_of_ble_eq_true rfl⟩) ⟨z_blind, va_recv hKc hPc (ci := 10) (q0 := 0) rfl rfl, z_pre hPc hKc hDc⟩ rfl rfl hl.1 rfl (lv_room (Nat.le_of_ble_eq_true rfl)) dX8_read_6 ⟨Nat.le_of_ble_eq_true rfl, Nat.le_of_ble_eq_true rfl⟩) hS (fun q _ h => hFc q h) hFc (fun u t H_1 locs ht hvm hw_3 hB hz1 hk1 hS => ?_)
  obtain ⟨hP1, hK1, hD1⟩ := hB
  rw [ht] at hP1
  have hK1 := va_K.moved hvm.symm hK1
  obtain ⟨hP, hD⟩ := va_join (wr := [(h0, .inr (8, [.ref h1, h0_1, h0_2, h0_3, h0_4, h0_5, h0_6, .ref h2, .ref h3])), (h2, .inr (7, [h2_0, h2_1, h2_2, h2_3, h2_4, h2_5]))]) (w1 := [(h1, .inr (10, [h1_0, .int 0, .int 0, .int 0, .int 0, .int 0, .int 0, .int 0, .int (-1), .int 0, .int (-1)]))]) hP hD [1] [0, 2] rfl rfl (by decide) (by decide) hk1 hFc hP1 hD1
  have hP : va_P (dC, dI) vwCl [(h0, .inr (8, [.ref h1, h0_1, h0_2, h0_3, h0_4, h0_5, h0_6, .ref h2, .ref h3])), (h2, .inr (7, [h2_0, h2_1, h2_2, h2_3, h2_4, h2_5])), (h1, .inr (10, [h1_0, .int 0, .int 0, .int 0, .int 0, .int 0, .int 0, .int 0, .int (-1), .int 0, .int (-1)]))] H_1 := hP
  have hD : va_D A [(h0, .inr (8, [.ref h1, h0_1, h0_2, h0_3, h0_4, h0_5, h0_6, .ref h2, .ref h3])), (h2, .inr (7, [h2_0, h2_1, h2_2, h2_3, h2_4, h2_5])), (h1, .inr (10, [h1_0, .int 0, .int 0, .int 0, .int 0, .int 0, .int 0, .int 0, .int (-1), .int 0, .int (-1)]))] := hD
  clear hPc hDc hKc
  refine lv_aload_n hx hb dX8_read_9 rfl (lv_at hl 0 rfl) ?_
  refine va_get (D := (dC, dI)) (ci := 8) (v := .ref h2) (C := RX8) (T := TX8) (N := 9) hx hb hts hiX8 hown hK hP 0 rfl rfl 7 (by decide) w__fieldLink_RX8_35_ShellHeap_RulesReader_draft_LShellHeap_Rules_ (fun _ h9 => h9) rfl dX8_read_10 ?_
  have hPc := hP.sub (ws' := [(h2, .inr (7, [h2_0, h2_1, h2_2, h2_3, h2_4, h2_5]))]) [1] rfl
  have hDc := hD.sub (ws' := [(h2, .inr (7, [h2_0, h2_1, h2_2, h2_3, h2_4, h2_5]))]) [1] (by decide) rfl
  have hKc := hK.sub (tys' := []) [] rfl
  have hFc := va_free (wc := [(h2, .inr (7, [h2_0, h2_1, h2_2, h2_3, h2_4, h2_5]))]) hD hS hA [1] rfl
  refine va_callv (va_runV (As := []) (rest := []) ⟨hx, hb, hml, hown, hts⟩ (c_X7_clear l dC dI H_1.size h2 h2_0 h2_1 h2_2 h2_3 h2_4 h2_5) (cwV 0 hts gw_c_X8_read_c_X7_clear_51 rfl rfl rfl (by decide +kernel) ⟨Nat.le_of_ble_eq_true rfl, Nat.le_of_ble_eq_true rfl⟩) ⟨z_blind, va_recv hKc hPc (ci := 7) (q0 := 0) rfl rfl, z_pre hPc hKc hDc⟩ rfl rfl hl.1 rfl (lv_room (Nat.le_of_ble_eq_true rfl)) dX8_read_13 ⟨Nat.le_of_ble_eq_true rfl, Nat.le_of_ble_eq_true rfl⟩) hS (fun q _ h => hFc q h) hFc (fun u t H_4 locs ht hvm hw_6 hB hz1 hk1 hS => ?_)
  obtain ⟨hP1, hK1, hD1⟩ := hB
  rw [ht] at hP1
  have hK1 := va_K.moved hvm.symm hK1
  obtain ⟨hP, hD⟩ := va_join (wr := [(h0, .inr (8, [.ref h1, h0_1, h0_2, h0_3, h0_4, h0_5, h0_6, .ref h2, .ref h3])), (h1, .inr (10, [h1_0, .int 0, .int 0, .int 0, .int 0, .int 0, .int 0, .int 0, .int (-1), .int 0, .int (-1)]))]) (w1 := [(h2, .inr (7, [h2_0, h2_1, h2_2, .int 0, .int 0, .int 0]))]) hP hD [1] [0, 2] rfl rfl (by decide) (by decide) hk1 hFc hP1 hD1
  have hP : va_P (dC, dI) vwCl [(h0, .inr (8, [.ref h1, h0_1, h0_2, h0_3, h0_4, h0_5, h0_6, .ref h2, .ref h3])), (h1, .inr (10, [h1_0, .int 0, .int 0, .int 0, .int 0, .int 0, .int 0, .int 0, .int (-1), .int 0, .int (-1)])), (h2, .inr (7, [h2_0, h2_1, h2_2, .int 0, .int 0, .int 0]))] H_4 := hP
  have hD : va_D A [(h0, .inr (8, [.ref h1, h0_1, h0_2, h0_3, h0_4, h0_5, h0_6, .ref h2, .ref h3])), (h1, .inr (10, [h1_0, .int 0, .int 0, .int 0, .int 0, .int 0, .int 0, .int 0, .int (-1), .int 0, .int (-1)])), (h2, .inr (7, [h2_0, h2_1, h2_2, .int 0, .int 0, .int 0]))] := hD
  clear hPc hDc hKc
  refine lv_iconst (v := 0) hx hb dX8_read_16 (by decide) ?_
  refine lv_istore_n (lv' := [(2, .int 0), (0, .ref h0), (1, .int 0)]) hx hb dX8_read_17 rfl hl (by decide) rfl (fun ls hl => ?_)
  refine lv_iload_n hx hb dX8_read_18 rfl (lv_at hl 0 rfl) ?_
  refine lv_sipush (v := 700) hx hb dX8_read_19 (by decide) ?_
  refine lv_icmp_ge (tgt := 50) hx hb dX8_read_22 (by decide) (fun c_7 => absurd c_7 (by decide)) (fun _ => ?_)
  refine lv_aload_n hx hb dX8_read_25 rfl (lv_at hl 1 rfl) ?_
  refine va_get (D := (dC, dI)) (ci := 8) (v := .ref h1) (C := RX8) (T := TX8) (N := 9) hx hb hts hiX8 hown hK hP 0 rfl rfl 0 (by decide) w__fieldLink_RX8_42_ShellHeap_RulesReader_tape_LShellHeap_Tape_ (fun _ h9 => h9) rfl dX8_read_26 ?_
  refine va_get (D := (dC, dI)) (ci := 10) (v := .int 0) (C := RX10) (T := TX10) (N := 11) hx hb hts hiX10 hown hK hP 1 rfl rfl 7 (by decide) w__fieldLink_RX8_54_ShellHeap_Tape_sort_I_ (fun _ h9 => h9) rfl dX8_read_29 ?_
  refine lv_if_eq (tgt := 50) hx hb dX8_read_32 (by decide) (fun _ => ?_) (fun c_8 => absurd (by decide) c_8)
  refine lv_aload_n hx hb dX8_read_50 rfl (lv_at hl 1 rfl) ?_
  refine va_get (D := (dC, dI)) (ci := 8) (v := .ref h2) (C := RX8) (T := TX8) (N := 9) hx hb hts hiX8 hown hK hP 0 rfl rfl 7 (by decide) w__fieldLink_RX8_35_ShellHeap_RulesReader_draft_LShellHeap_Rules_ (fun _ h9 => h9) rfl dX8_read_51 ?_
  refine lv_astore_n (lv' := [(2, .ref h2), (0, .ref h0), (1, .int 0)]) hx hb dX8_read_54 rfl hl (by decide) rfl (fun ls hl => ?_)
  refine lv_aload_n hx hb dX8_read_55 rfl (lv_at hl 1 rfl) ?_
  refine lv_aload_n hx hb dX8_read_56 rfl (lv_at hl 1 rfl) ?_
  refine va_get (D := (dC, dI)) (ci := 8) (v := .ref h3) (C := RX8) (T := TX8) (N := 9) hx hb hts hiX8 hown hK hP 0 rfl rfl 8 (by decide) w__fieldLink_RX8_39_ShellHeap_RulesReader_standing_LShellHeap_Rules_ (fun _ h9 => h9) rfl dX8_read_57 ?_
  refine va_put (D := (dC, dI)) (ci := 8) (v := .ref h3) (ty := .object "ShellHeap$Rules") (C := RX8) (T := TX8) (N := 9) hx hb hts hiX8 tyX8 tyX8_ok nmX8 hown hK hP hD hS 0 rfl rfl 7 (by decide) w__fieldLink_RX8_35_ShellHeap_RulesReader_draft_LShellHeap_Rules_ (fun _ h9 => h9) rfl (by decide +kernel) rfl rfl (Nat.le_of_ble_eq_true rfl) dX8_read_60 (fun H_9 locs hP hD hS => ?_)
  have hP : va_P (dC, dI) vwCl [(h0, .inr (8, [.ref h1, h0_1, h0_2, h0_3, h0_4, h0_5, h0_6, .ref h3, .ref h3])), (h1, .inr (10, [h1_0, .int 0, .int 0, .int 0, .int 0, .int 0, .int 0, .int 0, .int (-1), .int 0, .int (-1)])), (h2, .inr (7, [h2_0, h2_1, h2_2, .int 0, .int 0, .int 0]))] H_9 := hP
  have hD : va_D A [(h0, .inr (8, [.ref h1, h0_1, h0_2, h0_3, h0_4, h0_5, h0_6, .ref h3, .ref h3])), (h1, .inr (10, [h1_0, .int 0, .int 0, .int 0, .int 0, .int 0, .int 0, .int 0, .int (-1), .int 0, .int (-1)])), (h2, .inr (7, [h2_0, h2_1, h2_2, .int 0, .int 0, .int 0]))] := hD
  refine lv_aload_n hx hb dX8_read_63 rfl (lv_at hl 1 rfl) ?_
  refine lv_aload_n hx hb dX8_read_64 rfl (lv_at hl 0 rfl) ?_
  refine va_put (D := (dC, dI)) (ci := 8) (v := .ref h2) (ty := .object "ShellHeap$Rules") (C := RX8) (T := TX8) (N := 9) hx hb hts hiX8 tyX8 tyX8_ok nmX8 hown hK hP hD hS 0 rfl rfl 8 (by decide) w__fieldLink_RX8_39_ShellHeap_RulesReader_standing_LShellHeap_Rules_ (fun _ h9 => h9) rfl (by decide +kernel) rfl rfl (Nat.le_of_ble_eq_true rfl) dX8_read_65 (fun H_10 locs hP hD hS => ?_)
  have hP : va_P (dC, dI) vwCl [(h0, .inr (8, [.ref h1, h0_1, h0_2, h0_3, h0_4, h0_5, h0_6, .ref h3, .ref h2])), (h1, .inr (10, [h1_0, .int 0, .int 0, .int 0, .int 0, .int 0, .int 0, .int 0, .int (-1), .int 0, .int (-1)])), (h2, .inr (7, [h2_0, h2_1, h2_2, .int 0, .int 0, .int 0]))] H_10 := hP
  have hD : va_D A [(h0, .inr (8, [.ref h1, h0_1, h0_2, h0_3, h0_4, h0_5, h0_6, .ref h3, .ref h2])), (h1, .inr (10, [h1_0, .int 0, .int 0, .int 0, .int 0, .int 0, .int 0, .int 0, .int (-1), .int 0, .int (-1)])), (h2, .inr (7, [h2_0, h2_1, h2_2, .int 0, .int 0, .int 0]))] := hD
  refine lv_iconst (v := 1) hx hb dX8_read_68 (by decide) ?_
  have hP9 := hP.sub (ws' := [(h0, .inr (8, [.ref h1, h0_1, h0_2, h0_3, h0_4, h0_5, h0_6, .ref h3, .ref h2])), (h2, .inr (7, [h2_0, h2_1, h2_2, .int 0, .int 0, .int 0]))]) [0, 2] rfl
  have hD9 := hD.sub (ws' := [(h0, .inr (8, [.ref h1, h0_1, h0_2, h0_3, h0_4, h0_5, h0_6, .ref h3, .ref h2])), (h2, .inr (7, [h2_0, h2_1, h2_2, .int 0, .int 0, .int 0]))]) [0, 2] (by decide) rfl
  have hK9 := hK.sub (tys' := []) [] rfl
  refine W.widen (k := 0) (n := 0) (Nat.le_of_ble_eq_true rfl) (Nat.le_of_ble_eq_true rfl) ?_
  exact W.zret (v := 1) hx hb hr (by rfl) (fun t ht hW => ⟨⟨1, (), rfl, rfl, ⟨by rw [ht]; exact hP9, va_K.moved hW.alike hK9, hD9⟩⟩, hS.F ht⟩) hS.2.2 dX8_read_69
def u_c_X11_rules : List Cond := .code yX11_rules cX11_rules 2 (some .int) :: ([.fieldLink RX11 10 "ShellHeap" "tape" "LShellHeap$Tape;", .methodLink RX11 99 yX10_hasFed, .instanceMethod yX10_hasFed, .selects RX10 yX10_hasFed yX10_hasFed, .initialized RX10, .code yX10_hasFed cX10_hasFed 2 (some .boolean), .fieldLink RX10 26 "ShellHeap$Tape" "fed" "I", .fieldLink RX11 74 "ShellHeap" "rulesReader" "LShellHeap$RulesReader;", .methodLink RX11 103 yX8_read, .instanceMethod yX8_read, .selects RX8 yX8_read yX8_read, .initialized RX8, .code yX8_read cX8_read 3 (some .boolean), .fieldLink RX8 42 "ShellHeap$RulesReader" "tape" "LShellHeap$Tape;", .methodLink RX8 46 yX10_open, .instanceMethod yX10_open, .selects RX10 yX10_open yX10_open, .code yX10_open cX10_open 3 none, .fieldLink RX10 15 "ShellHeap$Tape" "text" "I", .fieldLink RX10 22 "ShellHeap$Tape" "digitsJoin" "Z", .fieldLink RX10 19 "ShellHeap$Tape" "at" "I", .fieldLink RX10 41 "ShellHeap$Tape" "faultSort" "I", .fieldLink RX10 44 "ShellHeap$Tape" "faultPlace" "I", .methodLink RX10 47 yX10_next, .instanceMethod yX10_next, .selects RX10 yX10_next yX10_next, .code yX10_next cX10_next 1 none, .fieldLink RX10 29 "ShellHeap$Tape" "start" "I", .fieldLink RX10 38 "ShellHeap$Tape" "sign" "I", .fieldLink RX10 35 "ShellHeap$Tape" "sort" "I", .fieldLink RX10 32 "ShellHeap$Tape" "end" "I", .fieldLink RX8 35 "ShellHeap$RulesReader" "draft" "LShellHeap$Rules;", .methodLink RX8 51 yX7_clear, .instanceMethod yX7_clear, .selects RX7 yX7_clear yX7_clear, .initialized RX7, .code yX7_clear cX7_clear 1 none, .fieldLink RX7 19 "ShellHeap$Rules" "length" "I", .fieldLink RX7 23 "ShellHeap$Rules" "causes" "I", .fieldLink RX7 26 "ShellHeap$Rules" "knots" "I", .fieldLink RX8 54 "ShellHeap$Tape" "sort" "I", .fieldLink RX8 39 "ShellHeap$RulesReader" "standing" "LShellHeap$Rules;", .fieldLink RX11 106 "ShellHeap$RulesReader" "standing" "LShellHeap$Rules;", .fieldLink RX11 110 "ShellHeap$Rules" "causes" "I"] ++ wsX110 ++ wsX100 ++ wsX80 ++ wsX70)
set_option maxRecDepth 20000 in
theorem gw_c_X11_rules_c_X10_hasFed_99 : GoodIn u_c_X11_rules (wsV RX11 99 RX10 yX10_hasFed u_c_X10_hasFed) := goodIn_r _ [2, 3, 4, 5, 6, 7, 55, 56, 57, 58, 59, 60, 61, 62, 63, 64, 65] (by decide +kernel) (by decide +kernel)
set_option maxRecDepth 20000 in
theorem gw_c_X11_rules_c_X8_read_103 : GoodIn u_c_X11_rules (wsV RX11 103 RX8 yX8_read u_c_X8_read) := goodIn_r _ [9, 10, 11, 12, 13, 14, 15, 16, 17, 5, 18, 19, 20, 7, 21, 22, 23, 24, 25, 26, 27, 28, 29, 30, 31, 32, 33, 34, 35, 36, 37, 38, 39, 40, 41, 42, 66, 67, 68, 69, 70, 71, 72, 73, 74, 55, 56, 57, 58, 59, 60, 61, 62, 63, 64, 65, 75, 76, 77, 78, 79, 80] (by decide +kernel) (by decide +kernel)
set_option maxHeartbeats 4000000 in
set_option maxRecDepth 100000 in
theorem c_X11_rules (l : Launch) (dC : Nat → ClassId) (dI : Nat → Nat → Nat) (sz : Nat) (h0 : Nat) (p1 : Int32) (h1 : Nat) (h0_1 : Value) (h0_2 : Value) (h0_3 : Value) (h0_4 : Value) (h0_5 : Value) (h0_6 : Value) (h0_7 : Value) (h2 : Nat) (h0_9 : Value) (h1_0 : Value) (h1_1 : Value) (h1_2 : Value) (h1_3 : Value) (h1_5 : Value) (h1_6 : Value) (h1_7 : Value) (h1_8 : Value) (h1_9 : Value) (h1_10 : Value) (h2_1 : Value) (h2_2 : Value) (h2_3 : Value) (h2_4 : Value) (h2_5 : Value) (h2_6 : Value) (h3 : Nat) (h4 : Nat) (h3_0 : Value) (h3_1 : Value) (h3_2 : Value) (h3_3 : Value) (h3_4 : Value) (h3_5 : Value) : Met l yX11_rules u_c_X11_rules ({ frames := 3, cells := 0, slots := 0, locals := 64 }) (va_Pc [.ref h0, .int p1] (z_C (dC, dI) vwCl [(h0, .inr (11, [.ref h1, h0_1, h0_2, h0_3, h0_4, h0_5, h0_6, h0_7, .ref h2, h0_9])), (h1, .inr (10, [h1_0, h1_1, h1_2, h1_3, .int 0, h1_5, h1_6, h1_7, h1_8, h1_9, h1_10])), (h2, .inr (8, [.ref h1, h2_1, h2_2, h2_3, h2_4, h2_5, h2_6, .ref h3, .ref h4])), (h3, .inr (7, [h3_0, h3_1, h3_2, h3_3, h3_4, h3_5]))] [] sz)) (va_Qi (fun (r : Int32) (_ : Unit) => r = v_rules p1) (fun (_ : Unit) (_ : State) => True) (va_A [(h0, .inr (11, [.ref h1, h0_1, h0_2, h0_3, h0_4, h0_5, h0_6, h0_7, .ref h2, h0_9])), (h1, .inr (10, [h1_0, h1_1, h1_2, h1_3, .int 0, h1_5, h1_6, h1_7, h1_8, h1_9, h1_10])), (h2, .inr (8, [.ref h1, h2_1, h2_2, h2_3, h2_4, h2_5, h2_6, .ref h3, .ref h4])), (h3, .inr (7, [h3_0, h3_1, h3_2, h3_3, h3_4, h3_5]))] sz)) 0 0 (va_A [(h0, .inr (11, [.ref h1, h0_1, h0_2, h0_3, h0_4, h0_5, h0_6, h0_7, .ref h2, h0_9])), (h1, .inr (10, [h1_0, h1_1, h1_2, h1_3, .int 0, h1_5, h1_6, h1_7, h1_8, h1_9, h1_10])), (h2, .inr (8, [.ref h1, h2_1, h2_2, h2_3, h2_4, h2_5, h2_6, .ref h3, .ref h4])), (h3, .inr (7, [h3_0, h3_1, h3_2, h3_3, h3_4, h3_5]))] sz) := by
  refine Met.ofW (cc := cX11_rules) (maxL := 2) (ret := (some .int)) (by decide) rfl ?_
  intro p e s m args below meth c s₁ B hml hv
  obtain ⟨rfl, hsz, hP, hK, hD0⟩ := hv
  have hx := B.exec
  have hb := B.bytes
  have hr := B.returns
  have hts := atoms_spec (ws := u_c_X11_rules) B.pre
  have hown : s.vm.findClass RX11 = some m.cls := findClass_of_methodNamed B.named
  have hlocks := B.notSynchronized
  subst hsz
  have hD := hD0.self (sz := s.heap.size)
  generalize hAe : va_A [(h0, .inr (11, [.ref h1, h0_1, h0_2, h0_3, h0_4, h0_5, h0_6, h0_7, .ref h2, h0_9])), (h1, .inr (10, [h1_0, h1_1, h1_2, h1_3, .int 0, h1_5, h1_6, h1_7, h1_8, h1_9, h1_10])), (h2, .inr (8, [.ref h1, h2_1, h2_2, h2_3, h2_4, h2_5, h2_6, .ref h3, .ref h4])), (h3, .inr (7, [h3_0, h3_1, h3_2, h3_3, h3_4, h3_5]))] s.heap.size = A at hD ⊢
  have hA : ∀ q : Nat, s.heap.size ≤ q → A q := fun q h => by rw [← hAe]; exact Or.inr h
  have hS : va_S A s.heap s.heap [] := va_S.rf
  have hP : va_P (dC, dI) vwCl [(h0, .inr (11, [.ref h1, h0_1, h0_2, h0_3, h0_4, h0_5, h0_6, h0_7, .ref h2, h0_9])), (h1, .inr (10, [h1_0, h1_1, h1_2, h1_3, .int 0, h1_5, h1_6, h1_7, h1_8, h1_9, h1_10])), (h2, .inr (8, [.ref h1, h2_1, h2_2, h2_3, h2_4, h2_5, h2_6, .ref h3, .ref h4])), (h3, .inr (7, [h3_0, h3_1, h3_2, h3_3, h3_4, h3_5]))] s.heap := hP
  have w__fieldLink_RX11_10_ShellHeap_tape_LShellHeap_Tape_ := hts (.fieldLink RX11 10 "ShellHeap" "tape" "LShellHeap$Tape;") (by decide +kernel)
  have hiX11 := show ∀ w ∈ u_ws RX11 TX11 10, w ∈ u_c_X11_rules by decide +kernel
  have w__fieldLink_RX11_74_ShellHeap_rulesReader_LShellHeap_RulesReader_ := hts (.fieldLink RX11 74 "ShellHeap" "rulesReader" "LShellHeap$RulesReader;") (by decide +kernel)
  have w__fieldLink_RX11_106_ShellHeap_RulesReader_standing_LShellHeap_Rules_ := hts (.fieldLink RX11 106 "ShellHeap$RulesReader" "standing" "LShellHeap$Rules;") (by decide +kernel)
  have hiX8 := show ∀ w ∈ u_ws RX8 TX8 9, w ∈ u_c_X11_rules by decide +kernel
  have w__fieldLink_RX11_110_ShellHeap_Rules_causes_I_ := hts (.fieldLink RX11 110 "ShellHeap$Rules" "causes" "I") (by decide +kernel)
  have hiX7 := show ∀ w ∈ u_ws RX7 TX7 6, w ∈ u_c_X11_rules by decide +kernel
  have hl := lv_entry ([.ref h0, .int p1]) (n := 2) (Nat.le_of_ble_eq_true rfl)
  rw [lg_entry_eq]
  generalize (lg_sl ([.ref h0, .int p1]) ++ List.replicate (2 - (lg_sl ([.ref h0, .int p1])).length) Slot.unset).toArray = ls at hl ⊢
  have hl : lv_has ls 2 [(0, .ref h0), (1, .int p1)] := hl
  refine lv_aload_n hx hb dX11_rules_0 rfl (lv_at hl 0 rfl) ?_
  refine va_get (D := (dC, dI)) (ci := 11) (v := .ref h1) (C := RX11) (T := TX11) (N := 10) hx hb hts hiX11 hown hK hP 0 rfl rfl 0 (by decide) w__fieldLink_RX11_10_ShellHeap_tape_LShellHeap_Tape_ (fun _ h9 => h9) rfl dX11_rules_1 ?_
  refine lv_iload_n hx hb dX11_rules_4 rfl (lv_at hl 1 rfl) ?_
  have hPc := hP.sub (ws' := [(h1, .inr (10, [h1_0, h1_1, h1_2, h1_3, .int 0, h1_5, h1_6, h1_7, h1_8, h1_9, h1_10]))]) [1] rfl
  have hDc := hD.sub (ws' := [(h1, .inr (10, [h1_0, h1_1, h1_2, h1_3, .int 0, h1_5, h1_6, h1_7, h1_8, h1_9, h1_10]))]) [1] (by decide) rfl
  have hKc := hK.sub (tys' := []) [] rfl
  have hFc := va_free (ws := []) (wc := []) (z_D0 _) hS hA [] rfl
  refine va_calli (va_runV (As := [.int p1]) (rest := []) ⟨hx, hb, hml, hown, hts⟩ (c_X10_hasFed l dC dI s.heap.size h1 p1 h1_0 h1_1 h1_2 h1_3 h1_5 h1_6 h1_7 h1_8 h1_9 h1_10) (cwV 1 hts gw_c_X11_rules_c_X10_hasFed_99 rfl rfl rfl (by decide +kernel) ⟨Nat.le_of_ble_eq_true rfl, Nat.le_of_ble_eq_true rfl⟩) ⟨z_blind, va_recv hKc hPc (ci := 10) (q0 := 0) rfl rfl, z_pre hPc hKc hDc⟩ rfl rfl hl.1 rfl (lv_room (Nat.le_of_ble_eq_true rfl)) dX11_rules_5 ⟨Nat.le_of_ble_eq_true rfl, Nat.le_of_ble_eq_true rfl⟩) hS (fun q _ h => hFc q h) hFc (fun r_2 u t H_1 locs ht hvm hw_3 hB hz1 hk1 hS => ?_)
  have hP := z_pure hP hk1
  have hP : va_P (dC, dI) vwCl [(h0, .inr (11, [.ref h1, h0_1, h0_2, h0_3, h0_4, h0_5, h0_6, h0_7, .ref h2, h0_9])), (h1, .inr (10, [h1_0, h1_1, h1_2, h1_3, .int 0, h1_5, h1_6, h1_7, h1_8, h1_9, h1_10])), (h2, .inr (8, [.ref h1, h2_1, h2_2, h2_3, h2_4, h2_5, h2_6, .ref h3, .ref h4])), (h3, .inr (7, [h3_0, h3_1, h3_2, h3_3, h3_4, h3_5]))] H_1 := hP
  have hD : va_D A [(h0, .inr (11, [.ref h1, h0_1, h0_2, h0_3, h0_4, h0_5, h0_6, h0_7, .ref h2, h0_9])), (h1, .inr (10, [h1_0, h1_1, h1_2, h1_3, .int 0, h1_5, h1_6, h1_7, h1_8, h1_9, h1_10])), (h2, .inr (8, [.ref h1, h2_1, h2_2, h2_3, h2_4, h2_5, h2_6, .ref h3, .ref h4])), (h3, .inr (7, [h3_0, h3_1, h3_2, h3_3, h3_4, h3_5]))] := hD
  clear hPc hDc hKc
  rcases hw_3 with ⟨rfl, hw_3⟩ | ⟨rfl, hw_3⟩
  · have hw_3 : p1.toInt = 0 := hw_3
    obtain rfl : p1 = 0 := z_eq' hw_3
    refine lv_if_ne (tgt := 14) hx hb dX11_rules_8 (by decide) (fun _ => ?_) (fun c_4 => absurd c_4 (by decide))
    refine lv_aload_n hx hb dX11_rules_14 rfl (lv_at hl 0 rfl) ?_
    refine va_get (D := (dC, dI)) (ci := 11) (v := .ref h2) (C := RX11) (T := TX11) (N := 10) hx hb hts hiX11 hown hK hP 0 rfl rfl 8 (by decide) w__fieldLink_RX11_74_ShellHeap_rulesReader_LShellHeap_RulesReader_ (fun _ h9 => h9) rfl dX11_rules_15 ?_
    refine lv_iload_n hx hb dX11_rules_18 rfl (lv_at hl 1 rfl) ?_
    have hPc := hP.sub (ws' := [(h2, .inr (8, [.ref h1, h2_1, h2_2, h2_3, h2_4, h2_5, h2_6, .ref h3, .ref h4])), (h1, .inr (10, [h1_0, h1_1, h1_2, h1_3, .int 0, h1_5, h1_6, h1_7, h1_8, h1_9, h1_10])), (h3, .inr (7, [h3_0, h3_1, h3_2, h3_3, h3_4, h3_5]))]) [2, 1, 3] rfl
    have hDc := hD.sub (ws' := [(h2, .inr (8, [.ref h1, h2_1, h2_2, h2_3, h2_4, h2_5, h2_6, .ref h3, .ref h4])), (h1, .inr (10, [h1_0, h1_1, h1_2, h1_3, .int 0, h1_5, h1_6, h1_7, h1_8, h1_9, h1_10])), (h3, .inr (7, [h3_0, h3_1, h3_2, h3_3, h3_4, h3_5]))]) [2, 1, 3] (by decide) rfl
    have hKc := hK.sub (tys' := []) [] rfl
    have hFc := va_free (wc := [(h2, .inr (8, [.ref h1, h2_1, h2_2, h2_3, h2_4, h2_5, h2_6, .ref h3, .ref h4])), (h1, .inr (10, [h1_0, h1_1, h1_2, h1_3, .int 0, h1_5, h1_6, h1_7, h1_8, h1_9, h1_10])), (h3, .inr (7, [h3_0, h3_1, h3_2, h3_3, h3_4, h3_5]))]) hD hS hA [2, 1, 3] rfl
    refine va_calli (va_runV (As := [.int 0]) (rest := []) ⟨hx, hb, hml, hown, hts⟩ (c_X8_read l dC dI H_1.size h2 h1 h2_1 h2_2 h2_3 h2_4 h2_5 h2_6 h3 h4 h1_0 h1_1 h1_2 h1_3 (.int 0) h1_5 h1_6 h1_7 h1_8 h1_9 h1_10 h3_0 h3_1 h3_2 h3_3 h3_4 h3_5) (cwV 1 hts gw_c_X11_rules_c_X8_read_103 rfl rfl rfl (by decide +kernel) ⟨Nat.le_of_ble_eq_true rfl, Nat.le_of_ble_eq_true rfl⟩) ⟨z_blind, va_recv hKc hPc (ci := 8) (q0 := 0) rfl rfl, z_pre hPc hKc hDc⟩ rfl rfl hl.1 rfl (lv_room (Nat.le_of_ble_eq_true rfl)) dX11_rules_19 ⟨Nat.le_of_ble_eq_true rfl, Nat.le_of_ble_eq_true rfl⟩) hS (fun q _ h => hFc q h) hFc (fun r_6 u t H_5 locs ht hvm hw_7 hB hz1 hk1 hS => ?_)
    obtain ⟨hP1, hK1, hD1⟩ := hB
    rw [ht] at hP1
    have hK1 := va_K.moved hvm.symm hK1
    obtain ⟨hP, hD⟩ := va_join (wr := [(h0, .inr (11, [.ref h1, h0_1, h0_2, h0_3, h0_4, h0_5, h0_6, h0_7, .ref h2, h0_9]))]) (w1 := [(h2, .inr (8, [.ref h1, h2_1, h2_2, h2_3, h2_4, h2_5, h2_6, .ref h4, .ref h3])), (h3, .inr (7, [h3_0, h3_1, h3_2, .int 0, .int 0, .int 0]))]) hP hD [2, 1, 3] [0] rfl rfl (by decide) (by decide) hk1 hFc hP1 hD1
    have hP : va_P (dC, dI) vwCl [(h0, .inr (11, [.ref h1, h0_1, h0_2, h0_3, h0_4, h0_5, h0_6, h0_7, .ref h2, h0_9])), (h2, .inr (8, [.ref h1, h2_1, h2_2, h2_3, h2_4, h2_5, h2_6, .ref h4, .ref h3])), (h3, .inr (7, [h3_0, h3_1, h3_2, .int 0, .int 0, .int 0]))] H_5 := hP
    have hD : va_D A [(h0, .inr (11, [.ref h1, h0_1, h0_2, h0_3, h0_4, h0_5, h0_6, h0_7, .ref h2, h0_9])), (h2, .inr (8, [.ref h1, h2_1, h2_2, h2_3, h2_4, h2_5, h2_6, .ref h4, .ref h3])), (h3, .inr (7, [h3_0, h3_1, h3_2, .int 0, .int 0, .int 0]))] := hD
    clear hPc hDc hKc
    obtain rfl : r_6 = 1 := hw_7
    refine lv_if_eq (tgt := 38) hx hb dX11_rules_22 (by decide) (fun c_8 => absurd c_8 (by decide)) (fun _ => ?_)
    refine lv_aload_n hx hb dX11_rules_25 rfl (lv_at hl 0 rfl) ?_
    refine va_get (D := (dC, dI)) (ci := 11) (v := .ref h2) (C := RX11) (T := TX11) (N := 10) hx hb hts hiX11 hown hK hP 0 rfl rfl 8 (by decide) w__fieldLink_RX11_74_ShellHeap_rulesReader_LShellHeap_RulesReader_ (fun _ h9 => h9) rfl dX11_rules_26 ?_
    refine va_get (D := (dC, dI)) (ci := 8) (v := .ref h3) (C := RX8) (T := TX8) (N := 9) hx hb hts hiX8 hown hK hP 1 rfl rfl 8 (by decide) w__fieldLink_RX11_106_ShellHeap_RulesReader_standing_LShellHeap_Rules_ (fun _ h9 => h9) rfl dX11_rules_29 ?_
    refine va_get (D := (dC, dI)) (ci := 7) (v := .int 0) (C := RX7) (T := TX7) (N := 6) hx hb hts hiX7 hown hK hP 2 rfl rfl 4 (by decide) w__fieldLink_RX11_110_ShellHeap_Rules_causes_I_ (fun _ h9 => h9) rfl dX11_rules_32 ?_
    refine lv_goto (tgt := 39) hx hb dX11_rules_35 (by decide) ?_
    refine W.widen (k := 0) (n := 0) (Nat.le_of_ble_eq_true rfl) (Nat.le_of_ble_eq_true rfl) ?_
    exact W.iret (v := 0) hx hb hr (fun t ht hW => ⟨⟨0, (), rfl, (by first | (unfold v_rules; rw [if_pos (by omega)]) | (unfold v_rules; rw [if_neg (by omega)]) | decide), trivial⟩, hS.F ht⟩) hS.2.2 dX11_rules_39
  · have hw_3 : ¬ p1.toInt = 0 := hw_3
    refine lv_if_ne (tgt := 14) hx hb dX11_rules_8 (by decide) (fun c_9 => absurd c_9 (by decide)) (fun _ => ?_)
    refine lv_bipush (v := (-2)) hx hb dX11_rules_11 (by decide) ?_
    refine W.widen (k := 0) (n := 0) (Nat.le_of_ble_eq_true rfl) (Nat.le_of_ble_eq_true rfl) ?_
    exact W.iret (v := (-2)) hx hb hr (fun t ht hW => ⟨⟨(-2), (), rfl, (by first | (unfold v_rules; rw [if_pos (by omega)]) | (unfold v_rules; rw [if_neg (by omega)]) | decide), trivial⟩, hS.F ht⟩) hS.2.2 dX11_rules_13
def u_c_X4_findStruck : List Cond := .code yX4_findStruck cX4_findStruck 2 none :: ([.fieldLink RX4 9 "ShellHeap$Known" "notesSeen" "I"] ++ wsX40)
set_option maxHeartbeats 4000000 in
set_option maxRecDepth 100000 in
theorem c_X4_findStruck (l : Launch) (dC : Nat → ClassId) (dI : Nat → Nat → Nat) (sz : Nat) (h0 : Nat) (h0_0 : Value) (h0_3 : Value) (h0_4 : Value) (h0_5 : Value) (h0_6 : Value) (h0_7 : Value) (h0_8 : Value) (h0_9 : Value) : Met l yX4_findStruck u_c_X4_findStruck ({ frames := 0, cells := 0, slots := 0, locals := 0 }) (va_Pc [.ref h0] (z_C (dC, dI) vwCl [(h0, .inr (4, [h0_0, .int 0, .int 0, h0_3, h0_4, h0_5, h0_6, h0_7, h0_8, h0_9]))] [] sz)) (va_Qv (fun (_ : Unit) => True) (fun (_ : Unit) (_ : State) => True) (va_A [] sz)) 0 0 (va_A [] sz) := by
  refine Met.ofW (cc := cX4_findStruck) (maxL := 2) (ret := none) (by decide) rfl ?_
  intro p e s m args below meth c s₁ B hml hv
  obtain ⟨rfl, hsz, hP, hK, hD0⟩ := hv
  have hx := B.exec
  have hb := B.bytes
  have hr := B.returns
  have hts := atoms_spec (ws := u_c_X4_findStruck) B.pre
  have hown : s.vm.findClass RX4 = some m.cls := findClass_of_methodNamed B.named
  have hlocks := B.notSynchronized
  subst hsz
  have hD := hD0
  generalize hAe : va_A [] s.heap.size = A
  have hA : ∀ q : Nat, s.heap.size ≤ q → A q := fun q h => by rw [← hAe]; exact Or.inr h
  have hS : va_S A s.heap s.heap [] := va_S.rf
  have hP : va_P (dC, dI) vwCl [(h0, .inr (4, [h0_0, .int 0, .int 0, h0_3, h0_4, h0_5, h0_6, h0_7, h0_8, h0_9]))] s.heap := hP
  have w__fieldLink_RX4_9_ShellHeap_Known_notesSeen_I_ := hts (.fieldLink RX4 9 "ShellHeap$Known" "notesSeen" "I") (by decide +kernel)
  have hiX4 := show ∀ w ∈ u_ws RX4 TX4 10, w ∈ u_c_X4_findStruck by decide +kernel
  have hl := lv_entry ([.ref h0]) (n := 2) (Nat.le_of_ble_eq_true rfl)
  rw [lg_entry_eq]
  generalize (lg_sl ([.ref h0]) ++ List.replicate (2 - (lg_sl ([.ref h0])).length) Slot.unset).toArray = ls at hl ⊢
  have hl : lv_has ls 2 [(0, .ref h0)] := hl
  refine lv_iconst (v := 0) hx hb dX4_findStruck_0 (by decide) ?_
  refine lv_istore_n (lv' := [(1, .int 0), (0, .ref h0)]) hx hb dX4_findStruck_1 rfl hl (by decide) rfl (fun ls hl => ?_)
  refine lv_iload_n hx hb dX4_findStruck_2 rfl (lv_at hl 0 rfl) ?_
  refine lv_aload_n hx hb dX4_findStruck_3 rfl (lv_at hl 1 rfl) ?_
  refine va_get (D := (dC, dI)) (ci := 4) (v := .int 0) (C := RX4) (T := TX4) (N := 10) hx hb hts hiX4 hown hK hP 0 rfl rfl 1 (by decide) w__fieldLink_RX4_9_ShellHeap_Known_notesSeen_I_ (fun _ h9 => h9) rfl dX4_findStruck_4 ?_
  refine lv_icmp_ge (tgt := 23) hx hb dX4_findStruck_7 (by decide) (fun _ => ?_) (fun c_1 => absurd (by decide) c_1)
  refine lv_aload_n hx hb dX4_findStruck_23 rfl (lv_at hl 1 rfl) ?_
  refine va_get (D := (dC, dI)) (ci := 4) (v := .int 0) (C := RX4) (T := TX4) (N := 10) hx hb hts hiX4 hown hK hP 0 rfl rfl 1 (by decide) w__fieldLink_RX4_9_ShellHeap_Known_notesSeen_I_ (fun _ h9 => h9) rfl dX4_findStruck_24 ?_
  refine lv_iconst (v := 1) hx hb dX4_findStruck_27 (by decide) ?_
  refine lv_isub hx hb dX4_findStruck_28 ?_
  refine lv_topi (fun x_2 e_3 => ?_)
  obtain rfl : x_2 = (-1) := e_3.trans (by decide)
  refine lv_istore_n (lv' := [(1, .int (-1)), (0, .ref h0)]) hx hb dX4_findStruck_29 rfl hl (by decide) rfl (fun ls hl => ?_)
  refine lv_iload_n hx hb dX4_findStruck_30 rfl (lv_at hl 0 rfl) ?_
  refine lv_if_lt (tgt := 77) hx hb dX4_findStruck_31 (by decide) (fun _ => ?_) (fun c_4 => absurd (by decide) c_4)
  refine W.widen (k := 0) (n := 0) (Nat.le_of_ble_eq_true rfl) (Nat.le_of_ble_eq_true rfl) ?_
  exact W.vret hx hb hr (fun t ht hW => ⟨⟨(), rfl, trivial, trivial⟩, hS.F ht⟩) hS.2.2 dX4_findStruck_77
def u_c_X4_joinBeds : List Cond := .code yX4_joinBeds cX4_joinBeds 2 none :: ([.fieldLink RX4 15 "ShellHeap$Known" "layersSeen" "I", .fieldLink RX4 9 "ShellHeap$Known" "notesSeen" "I"] ++ wsX40)
set_option maxHeartbeats 4000000 in
set_option maxRecDepth 100000 in
theorem c_X4_joinBeds (l : Launch) (dC : Nat → ClassId) (dI : Nat → Nat → Nat) (sz : Nat) (h0 : Nat) (h0_0 : Value) (h0_3 : Value) (h0_4 : Value) (h0_5 : Value) (h0_6 : Value) (h0_7 : Value) (h0_8 : Value) (h0_9 : Value) : Met l yX4_joinBeds u_c_X4_joinBeds ({ frames := 0, cells := 0, slots := 0, locals := 0 }) (va_Pc [.ref h0] (z_C (dC, dI) vwCl [(h0, .inr (4, [h0_0, .int 0, .int 0, h0_3, h0_4, h0_5, h0_6, h0_7, h0_8, h0_9]))] [] sz)) (va_Qv (fun (_ : Unit) => True) (fun (_ : Unit) (_ : State) => True) (va_A [] sz)) 0 0 (va_A [] sz) := by
  refine Met.ofW (cc := cX4_joinBeds) (maxL := 2) (ret := none) (by decide) rfl ?_
  intro p e s m args below meth c s₁ B hml hv
  obtain ⟨rfl, hsz, hP, hK, hD0⟩ := hv
  have hx := B.exec
  have hb := B.bytes
  have hr := B.returns
  have hts := atoms_spec (ws := u_c_X4_joinBeds) B.pre
  have hown : s.vm.findClass RX4 = some m.cls := findClass_of_methodNamed B.named
  have hlocks := B.notSynchronized
  subst hsz
  have hD := hD0
  generalize hAe : va_A [] s.heap.size = A
  have hA : ∀ q : Nat, s.heap.size ≤ q → A q := fun q h => by rw [← hAe]; exact Or.inr h
  have hS : va_S A s.heap s.heap [] := va_S.rf
  have hP : va_P (dC, dI) vwCl [(h0, .inr (4, [h0_0, .int 0, .int 0, h0_3, h0_4, h0_5, h0_6, h0_7, h0_8, h0_9]))] s.heap := hP
  have w__fieldLink_RX4_15_ShellHeap_Known_layersSeen_I_ := hts (.fieldLink RX4 15 "ShellHeap$Known" "layersSeen" "I") (by decide +kernel)
  have hiX4 := show ∀ w ∈ u_ws RX4 TX4 10, w ∈ u_c_X4_joinBeds by decide +kernel
  have w__fieldLink_RX4_9_ShellHeap_Known_notesSeen_I_ := hts (.fieldLink RX4 9 "ShellHeap$Known" "notesSeen" "I") (by decide +kernel)
  have hl := lv_entry ([.ref h0]) (n := 2) (Nat.le_of_ble_eq_true rfl)
  rw [lg_entry_eq]
  generalize (lg_sl ([.ref h0]) ++ List.replicate (2 - (lg_sl ([.ref h0])).length) Slot.unset).toArray = ls at hl ⊢
  have hl : lv_has ls 2 [(0, .ref h0)] := hl
  refine lv_iconst (v := 0) hx hb dX4_joinBeds_0 (by decide) ?_
  refine lv_istore_n (lv' := [(1, .int 0), (0, .ref h0)]) hx hb dX4_joinBeds_1 rfl hl (by decide) rfl (fun ls hl => ?_)
  refine lv_iload_n hx hb dX4_joinBeds_2 rfl (lv_at hl 0 rfl) ?_
  refine lv_aload_n hx hb dX4_joinBeds_3 rfl (lv_at hl 1 rfl) ?_
  refine va_get (D := (dC, dI)) (ci := 4) (v := .int 0) (C := RX4) (T := TX4) (N := 10) hx hb hts hiX4 hown hK hP 0 rfl rfl 2 (by decide) w__fieldLink_RX4_15_ShellHeap_Known_layersSeen_I_ (fun _ h9 => h9) rfl dX4_joinBeds_4 ?_
  refine lv_icmp_ge (tgt := 23) hx hb dX4_joinBeds_7 (by decide) (fun _ => ?_) (fun c_1 => absurd (by decide) c_1)
  refine lv_iconst (v := 0) hx hb dX4_joinBeds_23 (by decide) ?_
  refine lv_istore_n (lv' := [(1, .int 0), (0, .ref h0)]) hx hb dX4_joinBeds_24 rfl hl (by decide) rfl (fun ls hl => ?_)
  refine lv_iload_n hx hb dX4_joinBeds_25 rfl (lv_at hl 0 rfl) ?_
  refine lv_aload_n hx hb dX4_joinBeds_26 rfl (lv_at hl 1 rfl) ?_
  refine va_get (D := (dC, dI)) (ci := 4) (v := .int 0) (C := RX4) (T := TX4) (N := 10) hx hb hts hiX4 hown hK hP 0 rfl rfl 1 (by decide) w__fieldLink_RX4_9_ShellHeap_Known_notesSeen_I_ (fun _ h9 => h9) rfl dX4_joinBeds_27 ?_
  refine lv_icmp_ge (tgt := 80) hx hb dX4_joinBeds_30 (by decide) (fun _ => ?_) (fun c_2 => absurd (by decide) c_2)
  refine W.widen (k := 0) (n := 0) (Nat.le_of_ble_eq_true rfl) (Nat.le_of_ble_eq_true rfl) ?_
  exact W.vret hx hb hr (fun t ht hW => ⟨⟨(), rfl, trivial, trivial⟩, hS.F ht⟩) hS.2.2 dX4_joinBeds_80
def u_c_X4_findLater : List Cond := .code yX4_findLater cX4_findLater 3 none :: ([.fieldLink RX4 15 "ShellHeap$Known" "layersSeen" "I", .fieldLink RX4 9 "ShellHeap$Known" "notesSeen" "I"] ++ wsX40)
set_option maxHeartbeats 4000000 in
set_option maxRecDepth 100000 in
theorem c_X4_findLater (l : Launch) (dC : Nat → ClassId) (dI : Nat → Nat → Nat) (sz : Nat) (h0 : Nat) (h0_0 : Value) (h0_3 : Value) (h0_4 : Value) (h0_5 : Value) (h0_6 : Value) (h0_7 : Value) (h0_8 : Value) (h0_9 : Value) : Met l yX4_findLater u_c_X4_findLater ({ frames := 0, cells := 0, slots := 0, locals := 0 }) (va_Pc [.ref h0] (z_C (dC, dI) vwCl [(h0, .inr (4, [h0_0, .int 0, .int 0, h0_3, h0_4, h0_5, h0_6, h0_7, h0_8, h0_9]))] [] sz)) (va_Qv (fun (_ : Unit) => True) (fun (_ : Unit) (_ : State) => True) (va_A [] sz)) 0 0 (va_A [] sz) := by
  refine Met.ofW (cc := cX4_findLater) (maxL := 3) (ret := none) (by decide) rfl ?_
  intro p e s m args below meth c s₁ B hml hv
  obtain ⟨rfl, hsz, hP, hK, hD0⟩ := hv
  have hx := B.exec
  have hb := B.bytes
  have hr := B.returns
  have hts := atoms_spec (ws := u_c_X4_findLater) B.pre
  have hown : s.vm.findClass RX4 = some m.cls := findClass_of_methodNamed B.named
  have hlocks := B.notSynchronized
  subst hsz
  have hD := hD0
  generalize hAe : va_A [] s.heap.size = A
  have hA : ∀ q : Nat, s.heap.size ≤ q → A q := fun q h => by rw [← hAe]; exact Or.inr h
  have hS : va_S A s.heap s.heap [] := va_S.rf
  have hP : va_P (dC, dI) vwCl [(h0, .inr (4, [h0_0, .int 0, .int 0, h0_3, h0_4, h0_5, h0_6, h0_7, h0_8, h0_9]))] s.heap := hP
  have w__fieldLink_RX4_15_ShellHeap_Known_layersSeen_I_ := hts (.fieldLink RX4 15 "ShellHeap$Known" "layersSeen" "I") (by decide +kernel)
  have hiX4 := show ∀ w ∈ u_ws RX4 TX4 10, w ∈ u_c_X4_findLater by decide +kernel
  have w__fieldLink_RX4_9_ShellHeap_Known_notesSeen_I_ := hts (.fieldLink RX4 9 "ShellHeap$Known" "notesSeen" "I") (by decide +kernel)
  have hl := lv_entry ([.ref h0]) (n := 3) (Nat.le_of_ble_eq_true rfl)
  rw [lg_entry_eq]
  generalize (lg_sl ([.ref h0]) ++ List.replicate (3 - (lg_sl ([.ref h0])).length) Slot.unset).toArray = ls at hl ⊢
  have hl : lv_has ls 3 [(0, .ref h0)] := hl
  refine lv_iconst (v := 0) hx hb dX4_findLater_0 (by decide) ?_
  refine lv_istore_n (lv' := [(1, .int 0), (0, .ref h0)]) hx hb dX4_findLater_1 rfl hl (by decide) rfl (fun ls hl => ?_)
  refine lv_iload_n hx hb dX4_findLater_2 rfl (lv_at hl 0 rfl) ?_
  refine lv_aload_n hx hb dX4_findLater_3 rfl (lv_at hl 1 rfl) ?_
  refine va_get (D := (dC, dI)) (ci := 4) (v := .int 0) (C := RX4) (T := TX4) (N := 10) hx hb hts hiX4 hown hK hP 0 rfl rfl 2 (by decide) w__fieldLink_RX4_15_ShellHeap_Known_layersSeen_I_ (fun _ h9 => h9) rfl dX4_findLater_4 ?_
  refine lv_icmp_ge (tgt := 23) hx hb dX4_findLater_7 (by decide) (fun _ => ?_) (fun c_1 => absurd (by decide) c_1)
  refine lv_iconst (v := 0) hx hb dX4_findLater_23 (by decide) ?_
  refine lv_istore_n (lv' := [(1, .int 0), (0, .ref h0)]) hx hb dX4_findLater_24 rfl hl (by decide) rfl (fun ls hl => ?_)
  refine lv_iload_n hx hb dX4_findLater_25 rfl (lv_at hl 0 rfl) ?_
  refine lv_aload_n hx hb dX4_findLater_26 rfl (lv_at hl 1 rfl) ?_
  refine va_get (D := (dC, dI)) (ci := 4) (v := .int 0) (C := RX4) (T := TX4) (N := 10) hx hb hts hiX4 hown hK hP 0 rfl rfl 1 (by decide) w__fieldLink_RX4_9_ShellHeap_Known_notesSeen_I_ (fun _ h9 => h9) rfl dX4_findLater_27 ?_
  refine lv_icmp_ge (tgt := 95) hx hb dX4_findLater_30 (by decide) (fun _ => ?_) (fun c_2 => absurd (by decide) c_2)
  refine lv_iconst (v := 0) hx hb dX4_findLater_95 (by decide) ?_
  refine lv_istore_n (lv' := [(1, .int 0), (0, .ref h0)]) hx hb dX4_findLater_96 rfl hl (by decide) rfl (fun ls hl => ?_)
  refine lv_iload_n hx hb dX4_findLater_97 rfl (lv_at hl 0 rfl) ?_
  refine lv_aload_n hx hb dX4_findLater_98 rfl (lv_at hl 1 rfl) ?_
  refine va_get (D := (dC, dI)) (ci := 4) (v := .int 0) (C := RX4) (T := TX4) (N := 10) hx hb hts hiX4 hown hK hP 0 rfl rfl 2 (by decide) w__fieldLink_RX4_15_ShellHeap_Known_layersSeen_I_ (fun _ h9 => h9) rfl dX4_findLater_99 ?_
  refine lv_icmp_ge (tgt := 151) hx hb dX4_findLater_102 (by decide) (fun _ => ?_) (fun c_3 => absurd (by decide) c_3)
  refine W.widen (k := 0) (n := 0) (Nat.le_of_ble_eq_true rfl) (Nat.le_of_ble_eq_true rfl) ?_
  exact W.vret hx hb hr (fun t ht hW => ⟨⟨(), rfl, trivial, trivial⟩, hS.F ht⟩) hS.2.2 dX4_findLater_151
def u_c_X4_setRanks : List Cond := .code yX4_setRanks cX4_setRanks 3 none :: ([.fieldLink RX4 15 "ShellHeap$Known" "layersSeen" "I"] ++ wsX40)
set_option maxHeartbeats 4000000 in
set_option maxRecDepth 100000 in
theorem c_X4_setRanks (l : Launch) (dC : Nat → ClassId) (dI : Nat → Nat → Nat) (sz : Nat) (h0 : Nat) (h0_0 : Value) (h0_3 : Value) (h0_4 : Value) (h0_5 : Value) (h0_6 : Value) (h0_7 : Value) (h0_8 : Value) (h0_9 : Value) : Met l yX4_setRanks u_c_X4_setRanks ({ frames := 0, cells := 0, slots := 0, locals := 0 }) (va_Pc [.ref h0] (z_C (dC, dI) vwCl [(h0, .inr (4, [h0_0, .int 0, .int 0, h0_3, h0_4, h0_5, h0_6, h0_7, h0_8, h0_9]))] [] sz)) (va_Qv (fun (_ : Unit) => True) (fun (_ : Unit) (_ : State) => True) (va_A [] sz)) 0 0 (va_A [] sz) := by
  refine Met.ofW (cc := cX4_setRanks) (maxL := 3) (ret := none) (by decide) rfl ?_
  intro p e s m args below meth c s₁ B hml hv
  obtain ⟨rfl, hsz, hP, hK, hD0⟩ := hv
  have hx := B.exec
  have hb := B.bytes
  have hr := B.returns
  have hts := atoms_spec (ws := u_c_X4_setRanks) B.pre
  have hown : s.vm.findClass RX4 = some m.cls := findClass_of_methodNamed B.named
  have hlocks := B.notSynchronized
  subst hsz
  have hD := hD0
  generalize hAe : va_A [] s.heap.size = A
  have hA : ∀ q : Nat, s.heap.size ≤ q → A q := fun q h => by rw [← hAe]; exact Or.inr h
  have hS : va_S A s.heap s.heap [] := va_S.rf
  have hP : va_P (dC, dI) vwCl [(h0, .inr (4, [h0_0, .int 0, .int 0, h0_3, h0_4, h0_5, h0_6, h0_7, h0_8, h0_9]))] s.heap := hP
  have w__fieldLink_RX4_15_ShellHeap_Known_layersSeen_I_ := hts (.fieldLink RX4 15 "ShellHeap$Known" "layersSeen" "I") (by decide +kernel)
  have hiX4 := show ∀ w ∈ u_ws RX4 TX4 10, w ∈ u_c_X4_setRanks by decide +kernel
  have hl := lv_entry ([.ref h0]) (n := 3) (Nat.le_of_ble_eq_true rfl)
  rw [lg_entry_eq]
  generalize (lg_sl ([.ref h0]) ++ List.replicate (3 - (lg_sl ([.ref h0])).length) Slot.unset).toArray = ls at hl ⊢
  have hl : lv_has ls 3 [(0, .ref h0)] := hl
  refine lv_iconst (v := 0) hx hb dX4_setRanks_0 (by decide) ?_
  refine lv_istore_n (lv' := [(1, .int 0), (0, .ref h0)]) hx hb dX4_setRanks_1 rfl hl (by decide) rfl (fun ls hl => ?_)
  refine lv_iload_n hx hb dX4_setRanks_2 rfl (lv_at hl 0 rfl) ?_
  refine lv_aload_n hx hb dX4_setRanks_3 rfl (lv_at hl 1 rfl) ?_
  refine va_get (D := (dC, dI)) (ci := 4) (v := .int 0) (C := RX4) (T := TX4) (N := 10) hx hb hts hiX4 hown hK hP 0 rfl rfl 2 (by decide) w__fieldLink_RX4_15_ShellHeap_Known_layersSeen_I_ (fun _ h9 => h9) rfl dX4_setRanks_4 ?_
  refine lv_icmp_ge (tgt := 23) hx hb dX4_setRanks_7 (by decide) (fun _ => ?_) (fun c_1 => absurd (by decide) c_1)
  refine lv_iconst (v := 0) hx hb dX4_setRanks_23 (by decide) ?_
  refine lv_istore_n (lv' := [(1, .int 0), (0, .ref h0)]) hx hb dX4_setRanks_24 rfl hl (by decide) rfl (fun ls hl => ?_)
  refine lv_iload_n hx hb dX4_setRanks_25 rfl (lv_at hl 0 rfl) ?_
  refine lv_aload_n hx hb dX4_setRanks_26 rfl (lv_at hl 1 rfl) ?_
  refine va_get (D := (dC, dI)) (ci := 4) (v := .int 0) (C := RX4) (T := TX4) (N := 10) hx hb hts hiX4 hown hK hP 0 rfl rfl 2 (by decide) w__fieldLink_RX4_15_ShellHeap_Known_layersSeen_I_ (fun _ h9 => h9) rfl dX4_setRanks_27 ?_
  refine lv_icmp_ge (tgt := 60) hx hb dX4_setRanks_30 (by decide) (fun _ => ?_) (fun c_2 => absurd (by decide) c_2)
  refine W.widen (k := 0) (n := 0) (Nat.le_of_ble_eq_true rfl) (Nat.le_of_ble_eq_true rfl) ?_
  exact W.vret hx hb hr (fun t ht hW => ⟨⟨(), rfl, trivial, trivial⟩, hS.F ht⟩) hS.2.2 dX4_setRanks_60
def u_c_X4_leadYears : List Cond := .code yX4_leadYears cX4_leadYears 3 none :: ([.fieldLink RX4 15 "ShellHeap$Known" "layersSeen" "I"] ++ wsX40)
set_option maxHeartbeats 4000000 in
set_option maxRecDepth 100000 in
theorem c_X4_leadYears (l : Launch) (dC : Nat → ClassId) (dI : Nat → Nat → Nat) (sz : Nat) (h0 : Nat) (h0_0 : Value) (h0_3 : Value) (h0_4 : Value) (h0_5 : Value) (h0_6 : Value) (h0_7 : Value) (h0_8 : Value) (h0_9 : Value) : Met l yX4_leadYears u_c_X4_leadYears ({ frames := 0, cells := 0, slots := 0, locals := 0 }) (va_Pc [.ref h0] (z_C (dC, dI) vwCl [(h0, .inr (4, [h0_0, .int 0, .int 0, h0_3, h0_4, h0_5, h0_6, h0_7, h0_8, h0_9]))] [] sz)) (va_Qv (fun (_ : Unit) => True) (fun (_ : Unit) (_ : State) => True) (va_A [] sz)) 0 0 (va_A [] sz) := by
  refine Met.ofW (cc := cX4_leadYears) (maxL := 3) (ret := none) (by decide) rfl ?_
  intro p e s m args below meth c s₁ B hml hv
  obtain ⟨rfl, hsz, hP, hK, hD0⟩ := hv
  have hx := B.exec
  have hb := B.bytes
  have hr := B.returns
  have hts := atoms_spec (ws := u_c_X4_leadYears) B.pre
  have hown : s.vm.findClass RX4 = some m.cls := findClass_of_methodNamed B.named
  have hlocks := B.notSynchronized
  subst hsz
  have hD := hD0
  generalize hAe : va_A [] s.heap.size = A
  have hA : ∀ q : Nat, s.heap.size ≤ q → A q := fun q h => by rw [← hAe]; exact Or.inr h
  have hS : va_S A s.heap s.heap [] := va_S.rf
  have hP : va_P (dC, dI) vwCl [(h0, .inr (4, [h0_0, .int 0, .int 0, h0_3, h0_4, h0_5, h0_6, h0_7, h0_8, h0_9]))] s.heap := hP
  have w__fieldLink_RX4_15_ShellHeap_Known_layersSeen_I_ := hts (.fieldLink RX4 15 "ShellHeap$Known" "layersSeen" "I") (by decide +kernel)
  have hiX4 := show ∀ w ∈ u_ws RX4 TX4 10, w ∈ u_c_X4_leadYears by decide +kernel
  have hl := lv_entry ([.ref h0]) (n := 3) (Nat.le_of_ble_eq_true rfl)
  rw [lg_entry_eq]
  generalize (lg_sl ([.ref h0]) ++ List.replicate (3 - (lg_sl ([.ref h0])).length) Slot.unset).toArray = ls at hl ⊢
  have hl : lv_has ls 3 [(0, .ref h0)] := hl
  refine lv_iconst (v := 0) hx hb dX4_leadYears_0 (by decide) ?_
  refine lv_istore_n (lv' := [(1, .int 0), (0, .ref h0)]) hx hb dX4_leadYears_1 rfl hl (by decide) rfl (fun ls hl => ?_)
  refine lv_iload_n hx hb dX4_leadYears_2 rfl (lv_at hl 0 rfl) ?_
  refine lv_aload_n hx hb dX4_leadYears_3 rfl (lv_at hl 1 rfl) ?_
  refine va_get (D := (dC, dI)) (ci := 4) (v := .int 0) (C := RX4) (T := TX4) (N := 10) hx hb hts hiX4 hown hK hP 0 rfl rfl 2 (by decide) w__fieldLink_RX4_15_ShellHeap_Known_layersSeen_I_ (fun _ h9 => h9) rfl dX4_leadYears_4 ?_
  refine lv_icmp_ge (tgt := 83) hx hb dX4_leadYears_7 (by decide) (fun _ => ?_) (fun c_1 => absurd (by decide) c_1)
  refine W.widen (k := 0) (n := 0) (Nat.le_of_ble_eq_true rfl) (Nat.le_of_ble_eq_true rfl) ?_
  exact W.vret hx hb hr (fun t ht hW => ⟨⟨(), rfl, trivial, trivial⟩, hS.F ht⟩) hS.2.2 dX4_leadYears_83
def u_c_X4_setSpans : List Cond := .code yX4_setSpans cX4_setSpans 3 none :: ([.fieldLink RX4 15 "ShellHeap$Known" "layersSeen" "I", .fieldLink RX4 9 "ShellHeap$Known" "notesSeen" "I", .methodLink RX4 105 yX4_leadYears, .instanceMethod yX4_leadYears, .selects RX4 yX4_leadYears yX4_leadYears, .initialized RX4, .code yX4_leadYears cX4_leadYears 3 none] ++ wsX40)
set_option maxRecDepth 20000 in
theorem gw_c_X4_setSpans_c_X4_leadYears_105 : GoodIn u_c_X4_setSpans (wsV RX4 105 RX4 yX4_leadYears u_c_X4_leadYears) := goodIn_r _ [3, 4, 5, 6, 7, 1, 8, 9, 10, 11, 12, 13, 14, 15, 16, 17] (by decide +kernel) (by decide +kernel)
set_option maxHeartbeats 4000000 in
set_option maxRecDepth 100000 in
theorem c_X4_setSpans (l : Launch) (dC : Nat → ClassId) (dI : Nat → Nat → Nat) (sz : Nat) (h0 : Nat) (h0_0 : Value) (h0_3 : Value) (h0_4 : Value) (h0_5 : Value) (h0_6 : Value) (h0_7 : Value) (h0_8 : Value) (h0_9 : Value) : Met l yX4_setSpans u_c_X4_setSpans ({ frames := 1, cells := 0, slots := 0, locals := 22 }) (va_Pc [.ref h0] (z_C (dC, dI) vwCl [(h0, .inr (4, [h0_0, .int 0, .int 0, h0_3, h0_4, h0_5, h0_6, h0_7, h0_8, h0_9]))] [] sz)) (va_Qv (fun (_ : Unit) => True) (fun (_ : Unit) (_ : State) => True) (va_A [] sz)) 0 0 (va_A [] sz) := by
  refine Met.ofW (cc := cX4_setSpans) (maxL := 3) (ret := none) (by decide) rfl ?_
  intro p e s m args below meth c s₁ B hml hv
  obtain ⟨rfl, hsz, hP, hK, hD0⟩ := hv
  have hx := B.exec
  have hb := B.bytes
  have hr := B.returns
  have hts := atoms_spec (ws := u_c_X4_setSpans) B.pre
  have hown : s.vm.findClass RX4 = some m.cls := findClass_of_methodNamed B.named
  have hlocks := B.notSynchronized
  subst hsz
  have hD := hD0
  generalize hAe : va_A [] s.heap.size = A
  have hA : ∀ q : Nat, s.heap.size ≤ q → A q := fun q h => by rw [← hAe]; exact Or.inr h
  have hS : va_S A s.heap s.heap [] := va_S.rf
  have hP : va_P (dC, dI) vwCl [(h0, .inr (4, [h0_0, .int 0, .int 0, h0_3, h0_4, h0_5, h0_6, h0_7, h0_8, h0_9]))] s.heap := hP
  have w__fieldLink_RX4_15_ShellHeap_Known_layersSeen_I_ := hts (.fieldLink RX4 15 "ShellHeap$Known" "layersSeen" "I") (by decide +kernel)
  have hiX4 := show ∀ w ∈ u_ws RX4 TX4 10, w ∈ u_c_X4_setSpans by decide +kernel
  have w__fieldLink_RX4_9_ShellHeap_Known_notesSeen_I_ := hts (.fieldLink RX4 9 "ShellHeap$Known" "notesSeen" "I") (by decide +kernel)
  have hl := lv_entry ([.ref h0]) (n := 3) (Nat.le_of_ble_eq_true rfl)
  rw [lg_entry_eq]
  generalize (lg_sl ([.ref h0]) ++ List.replicate (3 - (lg_sl ([.ref h0])).length) Slot.unset).toArray = ls at hl ⊢
  have hl : lv_has ls 3 [(0, .ref h0)] := hl
  refine lv_iconst (v := 0) hx hb dX4_setSpans_0 (by decide) ?_
  refine lv_istore_n (lv' := [(1, .int 0), (0, .ref h0)]) hx hb dX4_setSpans_1 rfl hl (by decide) rfl (fun ls hl => ?_)
  refine lv_iload_n hx hb dX4_setSpans_2 rfl (lv_at hl 0 rfl) ?_
  refine lv_aload_n hx hb dX4_setSpans_3 rfl (lv_at hl 1 rfl) ?_
  refine va_get (D := (dC, dI)) (ci := 4) (v := .int 0) (C := RX4) (T := TX4) (N := 10) hx hb hts hiX4 hown hK hP 0 rfl rfl 2 (by decide) w__fieldLink_RX4_15_ShellHeap_Known_layersSeen_I_ (fun _ h9 => h9) rfl dX4_setSpans_4 ?_
  refine lv_icmp_ge (tgt := 32) hx hb dX4_setSpans_7 (by decide) (fun _ => ?_) (fun c_1 => absurd (by decide) c_1)
  refine lv_iconst (v := 0) hx hb dX4_setSpans_32 (by decide) ?_
  refine lv_istore_n (lv' := [(1, .int 0), (0, .ref h0)]) hx hb dX4_setSpans_33 rfl hl (by decide) rfl (fun ls hl => ?_)
  refine lv_iload_n hx hb dX4_setSpans_34 rfl (lv_at hl 0 rfl) ?_
  refine lv_aload_n hx hb dX4_setSpans_35 rfl (lv_at hl 1 rfl) ?_
  refine va_get (D := (dC, dI)) (ci := 4) (v := .int 0) (C := RX4) (T := TX4) (N := 10) hx hb hts hiX4 hown hK hP 0 rfl rfl 1 (by decide) w__fieldLink_RX4_9_ShellHeap_Known_notesSeen_I_ (fun _ h9 => h9) rfl dX4_setSpans_36 ?_
  refine lv_icmp_ge (tgt := 120) hx hb dX4_setSpans_39 (by decide) (fun _ => ?_) (fun c_2 => absurd (by decide) c_2)
  refine lv_aload_n hx hb dX4_setSpans_120 rfl (lv_at hl 1 rfl) ?_
  have hPc := hP.sub (ws' := [(h0, .inr (4, [h0_0, .int 0, .int 0, h0_3, h0_4, h0_5, h0_6, h0_7, h0_8, h0_9]))]) [0] rfl
  have hDc := hD.sub (ws' := [(h0, .inr (4, [h0_0, .int 0, .int 0, h0_3, h0_4, h0_5, h0_6, h0_7, h0_8, h0_9]))]) [0] (by decide) rfl
  have hKc := hK.sub (tys' := []) [] rfl
  have hFc := va_free (ws := []) (wc := []) (z_D0 _) hS hA [] rfl
  refine va_callv (va_runV (As := []) (rest := []) ⟨hx, hb, hml, hown, hts⟩ (c_X4_leadYears l dC dI s.heap.size h0 h0_0 h0_3 h0_4 h0_5 h0_6 h0_7 h0_8 h0_9) (cwV 0 hts gw_c_X4_setSpans_c_X4_leadYears_105 rfl rfl rfl (by decide +kernel) ⟨Nat.le_of_ble_eq_true rfl, Nat.le_of_ble_eq_true rfl⟩) ⟨z_blind, va_recv hKc hPc (ci := 4) (q0 := 0) rfl rfl, z_pre hPc hKc hDc⟩ rfl rfl hl.1 rfl (lv_room (Nat.le_of_ble_eq_true rfl)) dX4_setSpans_121 ⟨Nat.le_of_ble_eq_true rfl, Nat.le_of_ble_eq_true rfl⟩) hS (fun q _ h => hFc q h) hFc (fun u t H_3 locs ht hvm hw_5 hB hz1 hk1 hS => ?_)
  have hP := z_pure hP hk1
  have hP : va_P (dC, dI) vwCl [(h0, .inr (4, [h0_0, .int 0, .int 0, h0_3, h0_4, h0_5, h0_6, h0_7, h0_8, h0_9]))] H_3 := hP
  have hD : va_D (fun _ => True) [(h0, .inr (4, [h0_0, .int 0, .int 0, h0_3, h0_4, h0_5, h0_6, h0_7, h0_8, h0_9]))] := hD
  clear hPc hDc hKc
  refine lv_iconst (v := 0) hx hb dX4_setSpans_124 (by decide) ?_
  refine lv_istore_n (lv' := [(1, .int 0), (0, .ref h0)]) hx hb dX4_setSpans_125 rfl hl (by decide) rfl (fun ls hl => ?_)
  refine lv_iload_n hx hb dX4_setSpans_126 rfl (lv_at hl 0 rfl) ?_
  refine lv_aload_n hx hb dX4_setSpans_127 rfl (lv_at hl 1 rfl) ?_
  refine va_get (D := (dC, dI)) (ci := 4) (v := .int 0) (C := RX4) (T := TX4) (N := 10) hx hb hts hiX4 hown hK hP 0 rfl rfl 2 (by decide) w__fieldLink_RX4_15_ShellHeap_Known_layersSeen_I_ (fun _ h9 => h9) rfl dX4_setSpans_128 ?_
  refine lv_icmp_ge (tgt := 160) hx hb dX4_setSpans_131 (by decide) (fun _ => ?_) (fun c_6 => absurd (by decide) c_6)
  refine W.widen (k := 0) (n := 0) (Nat.le_of_ble_eq_true rfl) (Nat.le_of_ble_eq_true rfl) ?_
  exact W.vret hx hb hr (fun t ht hW => ⟨⟨(), rfl, trivial, trivial⟩, hS.F ht⟩) hS.2.2 dX4_setSpans_160
def u_c_X4_hasRing : List Cond := .code yX4_hasRing cX4_hasRing 2 (some .boolean) :: ([.fieldLink RX4 15 "ShellHeap$Known" "layersSeen" "I"] ++ wsX40)
set_option maxHeartbeats 4000000 in
set_option maxRecDepth 100000 in
theorem c_X4_hasRing (l : Launch) (dC : Nat → ClassId) (dI : Nat → Nat → Nat) (sz : Nat) (h0 : Nat) (h0_0 : Value) (h0_3 : Value) (h0_4 : Value) (h0_5 : Value) (h0_6 : Value) (h0_7 : Value) (h0_8 : Value) (h0_9 : Value) : Met l yX4_hasRing u_c_X4_hasRing ({ frames := 0, cells := 0, slots := 0, locals := 0 }) (va_Pc [.ref h0] (z_C (dC, dI) vwCl [(h0, .inr (4, [h0_0, .int 0, .int 0, h0_3, h0_4, h0_5, h0_6, h0_7, h0_8, h0_9]))] [] sz)) (va_Qi (fun (r : Int32) (_ : Unit) => r = 0) (fun (_ : Unit) (_ : State) => True) (va_A [] sz)) 0 0 (va_A [] sz) := by
  refine Met.ofW (cc := cX4_hasRing) (maxL := 2) (ret := (some .boolean)) (by decide) rfl ?_
  intro p e s m args below meth c s₁ B hml hv
  obtain ⟨rfl, hsz, hP, hK, hD0⟩ := hv
  have hx := B.exec
  have hb := B.bytes
  have hr := B.returns
  have hts := atoms_spec (ws := u_c_X4_hasRing) B.pre
  have hown : s.vm.findClass RX4 = some m.cls := findClass_of_methodNamed B.named
  have hlocks := B.notSynchronized
  subst hsz
  have hD := hD0
  generalize hAe : va_A [] s.heap.size = A
  have hA : ∀ q : Nat, s.heap.size ≤ q → A q := fun q h => by rw [← hAe]; exact Or.inr h
  have hS : va_S A s.heap s.heap [] := va_S.rf
  have hP : va_P (dC, dI) vwCl [(h0, .inr (4, [h0_0, .int 0, .int 0, h0_3, h0_4, h0_5, h0_6, h0_7, h0_8, h0_9]))] s.heap := hP
  have w__fieldLink_RX4_15_ShellHeap_Known_layersSeen_I_ := hts (.fieldLink RX4 15 "ShellHeap$Known" "layersSeen" "I") (by decide +kernel)
  have hiX4 := show ∀ w ∈ u_ws RX4 TX4 10, w ∈ u_c_X4_hasRing by decide +kernel
  have hl := lv_entry ([.ref h0]) (n := 2) (Nat.le_of_ble_eq_true rfl)
  rw [lg_entry_eq]
  generalize (lg_sl ([.ref h0]) ++ List.replicate (2 - (lg_sl ([.ref h0])).length) Slot.unset).toArray = ls at hl ⊢
  have hl : lv_has ls 2 [(0, .ref h0)] := hl
  refine lv_iconst (v := 0) hx hb dX4_hasRing_0 (by decide) ?_
  refine lv_istore_n (lv' := [(1, .int 0), (0, .ref h0)]) hx hb dX4_hasRing_1 rfl hl (by decide) rfl (fun ls hl => ?_)
  refine lv_iload_n hx hb dX4_hasRing_2 rfl (lv_at hl 0 rfl) ?_
  refine lv_aload_n hx hb dX4_hasRing_3 rfl (lv_at hl 1 rfl) ?_
  refine va_get (D := (dC, dI)) (ci := 4) (v := .int 0) (C := RX4) (T := TX4) (N := 10) hx hb hts hiX4 hown hK hP 0 rfl rfl 2 (by decide) w__fieldLink_RX4_15_ShellHeap_Known_layersSeen_I_ (fun _ h9 => h9) rfl dX4_hasRing_4 ?_
  refine lv_icmp_ge (tgt := 27) hx hb dX4_hasRing_7 (by decide) (fun _ => ?_) (fun c_1 => absurd (by decide) c_1)
  refine lv_iconst (v := 0) hx hb dX4_hasRing_27 (by decide) ?_
  refine W.widen (k := 0) (n := 0) (Nat.le_of_ble_eq_true rfl) (Nat.le_of_ble_eq_true rfl) ?_
  exact W.zret (v := 0) hx hb hr (by rfl) (fun t ht hW => ⟨⟨0, (), rfl, rfl, trivial⟩, hS.F ht⟩) hS.2.2 dX4_hasRing_28
def u_c_X4_bedsInAll : List Cond := .code yX4_bedsInAll cX4_bedsInAll 3 (some .int) :: ([.fieldLink RX4 15 "ShellHeap$Known" "layersSeen" "I"] ++ wsX40)
set_option maxHeartbeats 4000000 in
set_option maxRecDepth 100000 in
theorem c_X4_bedsInAll (l : Launch) (dC : Nat → ClassId) (dI : Nat → Nat → Nat) (sz : Nat) (h0 : Nat) (h0_0 : Value) (h0_3 : Value) (h0_4 : Value) (h0_5 : Value) (h0_6 : Value) (h0_7 : Value) (h0_8 : Value) (h0_9 : Value) : Met l yX4_bedsInAll u_c_X4_bedsInAll ({ frames := 0, cells := 0, slots := 0, locals := 0 }) (va_Pc [.ref h0] (z_C (dC, dI) vwCl [(h0, .inr (4, [h0_0, .int 0, .int 0, h0_3, h0_4, h0_5, h0_6, h0_7, h0_8, h0_9]))] [] sz)) (va_Qi (fun (r : Int32) (_ : Unit) => r = 0) (fun (_ : Unit) (_ : State) => True) (va_A [] sz)) 0 0 (va_A [] sz) := by
  refine Met.ofW (cc := cX4_bedsInAll) (maxL := 3) (ret := (some .int)) (by decide) rfl ?_
  intro p e s m args below meth c s₁ B hml hv
  obtain ⟨rfl, hsz, hP, hK, hD0⟩ := hv
  have hx := B.exec
  have hb := B.bytes
  have hr := B.returns
  have hts := atoms_spec (ws := u_c_X4_bedsInAll) B.pre
  have hown : s.vm.findClass RX4 = some m.cls := findClass_of_methodNamed B.named
  have hlocks := B.notSynchronized
  subst hsz
  have hD := hD0
  generalize hAe : va_A [] s.heap.size = A
  have hA : ∀ q : Nat, s.heap.size ≤ q → A q := fun q h => by rw [← hAe]; exact Or.inr h
  have hS : va_S A s.heap s.heap [] := va_S.rf
  have hP : va_P (dC, dI) vwCl [(h0, .inr (4, [h0_0, .int 0, .int 0, h0_3, h0_4, h0_5, h0_6, h0_7, h0_8, h0_9]))] s.heap := hP
  have w__fieldLink_RX4_15_ShellHeap_Known_layersSeen_I_ := hts (.fieldLink RX4 15 "ShellHeap$Known" "layersSeen" "I") (by decide +kernel)
  have hiX4 := show ∀ w ∈ u_ws RX4 TX4 10, w ∈ u_c_X4_bedsInAll by decide +kernel
  have hl := lv_entry ([.ref h0]) (n := 3) (Nat.le_of_ble_eq_true rfl)
  rw [lg_entry_eq]
  generalize (lg_sl ([.ref h0]) ++ List.replicate (3 - (lg_sl ([.ref h0])).length) Slot.unset).toArray = ls at hl ⊢
  have hl : lv_has ls 3 [(0, .ref h0)] := hl
  refine lv_iconst (v := 0) hx hb dX4_bedsInAll_0 (by decide) ?_
  refine lv_istore_n (lv' := [(1, .int 0), (0, .ref h0)]) hx hb dX4_bedsInAll_1 rfl hl (by decide) rfl (fun ls hl => ?_)
  refine lv_iconst (v := 0) hx hb dX4_bedsInAll_2 (by decide) ?_
  refine lv_istore_n (lv' := [(2, .int 0), (1, .int 0), (0, .ref h0)]) hx hb dX4_bedsInAll_3 rfl hl (by decide) rfl (fun ls hl => ?_)
  refine lv_iload_n hx hb dX4_bedsInAll_4 rfl (lv_at hl 0 rfl) ?_
  refine lv_aload_n hx hb dX4_bedsInAll_5 rfl (lv_at hl 2 rfl) ?_
  refine va_get (D := (dC, dI)) (ci := 4) (v := .int 0) (C := RX4) (T := TX4) (N := 10) hx hb hts hiX4 hown hK hP 0 rfl rfl 2 (by decide) w__fieldLink_RX4_15_ShellHeap_Known_layersSeen_I_ (fun _ h9 => h9) rfl dX4_bedsInAll_6 ?_
  refine lv_icmp_ge (tgt := 31) hx hb dX4_bedsInAll_9 (by decide) (fun _ => ?_) (fun c_1 => absurd (by decide) c_1)
  refine lv_iload_n hx hb dX4_bedsInAll_31 rfl (lv_at hl 1 rfl) ?_
  refine W.widen (k := 0) (n := 0) (Nat.le_of_ble_eq_true rfl) (Nat.le_of_ble_eq_true rfl) ?_
  exact W.iret (v := 0) hx hb hr (fun t ht hW => ⟨⟨0, (), rfl, rfl, trivial⟩, hS.F ht⟩) hS.2.2 dX4_bedsInAll_32
def u_c_X4_look : List Cond := .code yX4_look cX4_look 2 none :: ([.fieldLink RX4 9 "ShellHeap$Known" "notesSeen" "I", .fieldLink RX4 41 "ShellHeap$Known" "book" "LShellHeap$Book;", .fieldLink RX4 45 "ShellHeap$Book" "layers" "I", .fieldLink RX4 15 "ShellHeap$Known" "layersSeen" "I", .methodLink RX4 50 yX4_findStruck, .instanceMethod yX4_findStruck, .selects RX4 yX4_findStruck yX4_findStruck, .initialized RX4, .code yX4_findStruck cX4_findStruck 2 none, .methodLink RX4 53 yX4_joinBeds, .instanceMethod yX4_joinBeds, .selects RX4 yX4_joinBeds yX4_joinBeds, .code yX4_joinBeds cX4_joinBeds 2 none, .methodLink RX4 56 yX4_findLater, .instanceMethod yX4_findLater, .selects RX4 yX4_findLater yX4_findLater, .code yX4_findLater cX4_findLater 3 none, .methodLink RX4 59 yX4_hasRing, .instanceMethod yX4_hasRing, .selects RX4 yX4_hasRing yX4_hasRing, .code yX4_hasRing cX4_hasRing 2 (some .boolean), .fieldLink RX4 38 "ShellHeap$Known" "clash" "I", .methodLink RX4 63 yX4_setRanks, .instanceMethod yX4_setRanks, .selects RX4 yX4_setRanks yX4_setRanks, .code yX4_setRanks cX4_setRanks 3 none, .methodLink RX4 66 yX4_setSpans, .instanceMethod yX4_setSpans, .selects RX4 yX4_setSpans yX4_setSpans, .code yX4_setSpans cX4_setSpans 3 none, .methodLink RX4 105 yX4_leadYears, .instanceMethod yX4_leadYears, .selects RX4 yX4_leadYears yX4_leadYears, .code yX4_leadYears cX4_leadYears 3 none] ++ wsX40 ++ wsX00)
set_option maxRecDepth 20000 in
theorem gw_c_X4_look_c_X4_findStruck_50 : GoodIn u_c_X4_look (wsV RX4 50 RX4 yX4_findStruck u_c_X4_findStruck) := goodIn_r _ [5, 6, 7, 8, 9, 1, 35, 36, 37, 38, 39, 40, 41, 42, 43, 44] (by decide +kernel) (by decide +kernel)
set_option maxRecDepth 20000 in
theorem gw_c_X4_look_c_X4_joinBeds_53 : GoodIn u_c_X4_look (wsV RX4 53 RX4 yX4_joinBeds u_c_X4_joinBeds) := goodIn_r _ [10, 11, 12, 8, 13, 4, 1, 35, 36, 37, 38, 39, 40, 41, 42, 43, 44] (by decide +kernel) (by decide +kernel)
set_option maxRecDepth 20000 in
theorem gw_c_X4_look_c_X4_findLater_56 : GoodIn u_c_X4_look (wsV RX4 56 RX4 yX4_findLater u_c_X4_findLater) := goodIn_r _ [14, 15, 16, 8, 17, 4, 1, 35, 36, 37, 38, 39, 40, 41, 42, 43, 44] (by decide +kernel) (by decide +kernel)
set_option maxRecDepth 20000 in
theorem gw_c_X4_look_c_X4_hasRing_59 : GoodIn u_c_X4_look (wsV RX4 59 RX4 yX4_hasRing u_c_X4_hasRing) := goodIn_r _ [18, 19, 20, 8, 21, 4, 35, 36, 37, 38, 39, 40, 41, 42, 43, 44] (by decide +kernel) (by decide +kernel)
set_option maxRecDepth 20000 in
theorem gw_c_X4_look_c_X4_setRanks_63 : GoodIn u_c_X4_look (wsV RX4 63 RX4 yX4_setRanks u_c_X4_setRanks) := goodIn_r _ [23, 24, 25, 8, 26, 4, 35, 36, 37, 38, 39, 40, 41, 42, 43, 44] (by decide +kernel) (by decide +kernel)
set_option maxRecDepth 20000 in
theorem gw_c_X4_look_c_X4_setSpans_66 : GoodIn u_c_X4_look (wsV RX4 66 RX4 yX4_setSpans u_c_X4_setSpans) := goodIn_r _ [27, 28, 29, 8, 30, 4, 1, 31, 32, 33, 8, 34, 35, 36, 37, 38, 39, 40, 41, 42, 43, 44] (by decide +kernel) (by decide +kernel)
set_option maxHeartbeats 4000000 in
set_option maxRecDepth 100000 in
theorem c_X4_look (l : Launch) (dC : Nat → ClassId) (dI : Nat → Nat → Nat) (sz : Nat) (h0 : Nat) (h1 : Nat) (h0_3 : Value) (h0_4 : Value) (h0_5 : Value) (h0_6 : Value) (h0_7 : Value) (h0_8 : Value) (h0_9 : Value) (h1_0 : Value) (h1_1 : Value) (h1_2 : Value) (h1_3 : Value) : Met l yX4_look u_c_X4_look ({ frames := 2, cells := 0, slots := 0, locals := 44 }) (va_Pc [.ref h0, .int 0] (z_C (dC, dI) vwCl [(h0, .inr (4, [.ref h1, .int (-1), .int (-1), h0_3, h0_4, h0_5, h0_6, h0_7, h0_8, h0_9])), (h1, .inr (0, [h1_0, h1_1, h1_2, h1_3, .int 0, .int 0]))] [] sz)) (va_Qv (fun (_ : Unit) => True) (fun (_ : Unit) (t : State) => va_P (dC, dI) vwCl [(h0, .inr (4, [.ref h1, .int 0, .int 0, h0_3, h0_4, h0_5, h0_6, h0_7, h0_8, .int 0])), (h1, .inr (0, [h1_0, h1_1, h1_2, h1_3, .int 0, .int 0]))] t.heap ∧ va_K (dC, dI) vwCl [] t ∧ va_D (va_A [(h0, .inr (4, [.ref h1, .int (-1), .int (-1), h0_3, h0_4, h0_5, h0_6, h0_7, h0_8, h0_9])), (h1, .inr (0, [h1_0, h1_1, h1_2, h1_3, .int 0, .int 0]))] sz) [(h0, .inr (4, [.ref h1, .int 0, .int 0, h0_3, h0_4, h0_5, h0_6, h0_7, h0_8, .int 0])), (h1, .inr (0, [h1_0, h1_1, h1_2, h1_3, .int 0, .int 0]))]) (va_A [(h0, .inr (4, [.ref h1, .int (-1), .int (-1), h0_3, h0_4, h0_5, h0_6, h0_7, h0_8, h0_9])), (h1, .inr (0, [h1_0, h1_1, h1_2, h1_3, .int 0, .int 0]))] sz)) 0 0 (va_A [(h0, .inr (4, [.ref h1, .int (-1), .int (-1), h0_3, h0_4, h0_5, h0_6, h0_7, h0_8, h0_9])), (h1, .inr (0, [h1_0, h1_1, h1_2, h1_3, .int 0, .int 0]))] sz) := by
  refine Met.ofW (cc := cX4_look) (maxL := 2) (ret := none) (by decide) rfl ?_
  intro p e s m args below meth c s₁ B hml hv
  obtain ⟨rfl, hsz, hP, hK, hD0⟩ := hv
  have hx := B.exec
  have hb := B.bytes
  have hr := B.returns
  have hts := atoms_spec (ws := u_c_X4_look) B.pre
  have hown : s.vm.findClass RX4 = some m.cls := findClass_of_methodNamed B.named
  have hlocks := B.notSynchronized
  subst hsz
  have hD := hD0.self (sz := s.heap.size)
  generalize hAe : va_A [(h0, .inr (4, [.ref h1, .int (-1), .int (-1), h0_3, h0_4, h0_5, h0_6, h0_7, h0_8, h0_9])), (h1, .inr (0, [h1_0, h1_1, h1_2, h1_3, .int 0, .int 0]))] s.heap.size = A at hD ⊢
  have hA : ∀ q : Nat, s.heap.size ≤ q → A q := fun q h => by rw [← hAe]; exact Or.inr h
  have hS : va_S A s.heap s.heap [] := va_S.rf
  have hP : va_P (dC, dI) vwCl [(h0, .inr (4, [.ref h1, .int (-1), .int (-1), h0_3, h0_4, h0_5, h0_6, h0_7, h0_8, h0_9])), (h1, .inr (0, [h1_0, h1_1, h1_2, h1_3, .int 0, .int 0]))] s.heap := hP
  have w__fieldLink_RX4_9_ShellHeap_Known_notesSeen_I_ := hts (.fieldLink RX4 9 "ShellHeap$Known" "notesSeen" "I") (by decide +kernel)
  have hiX4 := show ∀ w ∈ u_ws RX4 TX4 10, w ∈ u_c_X4_look by decide +kernel
  have w__fieldLink_RX4_41_ShellHeap_Known_book_LShellHeap_Book_ := hts (.fieldLink RX4 41 "ShellHeap$Known" "book" "LShellHeap$Book;") (by decide +kernel)
  have w__fieldLink_RX4_45_ShellHeap_Book_layers_I_ := hts (.fieldLink RX4 45 "ShellHeap$Book" "layers" "I") (by decide +kernel)
  have hiX0 := show ∀ w ∈ u_ws RX0 TX0 6, w ∈ u_c_X4_look by decide +kernel
  have w__fieldLink_RX4_15_ShellHeap_Known_layersSeen_I_ := hts (.fieldLink RX4 15 "ShellHeap$Known" "layersSeen" "I") (by decide +kernel)
  have w__fieldLink_RX4_38_ShellHeap_Known_clash_I_ := hts (.fieldLink RX4 38 "ShellHeap$Known" "clash" "I") (by decide +kernel)
  have hl := lv_entry ([.ref h0, .int 0]) (n := 2) (Nat.le_of_ble_eq_true rfl)
  rw [lg_entry_eq]
  generalize (lg_sl ([.ref h0, .int 0]) ++ List.replicate (2 - (lg_sl ([.ref h0, .int 0])).length) Slot.unset).toArray = ls at hl ⊢
  have hl : lv_has ls 2 [(0, .ref h0), (1, .int 0)] := hl
  refine lv_iload_n hx hb dX4_look_0 rfl (lv_at hl 1 rfl) ?_
  refine lv_aload_n hx hb dX4_look_1 rfl (lv_at hl 0 rfl) ?_
  refine va_get (D := (dC, dI)) (ci := 4) (v := .int (-1)) (C := RX4) (T := TX4) (N := 10) hx hb hts hiX4 hown hK hP 0 rfl rfl 1 (by decide) w__fieldLink_RX4_9_ShellHeap_Known_notesSeen_I_ (fun _ h9 => h9) rfl dX4_look_2 ?_
  refine lv_icmp_ne (tgt := 23) hx hb dX4_look_5 (by decide) (fun _ => ?_) (fun c_1 => absurd c_1 (by decide))
  refine lv_aload_n hx hb dX4_look_23 rfl (lv_at hl 0 rfl) ?_
  refine lv_iload_n hx hb dX4_look_24 rfl (lv_at hl 1 rfl) ?_
  refine va_put (D := (dC, dI)) (ci := 4) (v := .int 0) (ty := .int) (C := RX4) (T := TX4) (N := 10) hx hb hts hiX4 tyX4 tyX4_ok nmX4 hown hK hP hD hS 0 rfl rfl 1 (by decide) w__fieldLink_RX4_9_ShellHeap_Known_notesSeen_I_ (fun _ h9 => h9) rfl (by decide +kernel) rfl rfl (Nat.le_of_ble_eq_true rfl) dX4_look_25 (fun H_2 locs hP hD hS => ?_)
  have hP : va_P (dC, dI) vwCl [(h0, .inr (4, [.ref h1, .int 0, .int (-1), h0_3, h0_4, h0_5, h0_6, h0_7, h0_8, h0_9])), (h1, .inr (0, [h1_0, h1_1, h1_2, h1_3, .int 0, .int 0]))] H_2 := hP
  have hD : va_D A [(h0, .inr (4, [.ref h1, .int 0, .int (-1), h0_3, h0_4, h0_5, h0_6, h0_7, h0_8, h0_9])), (h1, .inr (0, [h1_0, h1_1, h1_2, h1_3, .int 0, .int 0]))] := hD
  refine lv_aload_n hx hb dX4_look_28 rfl (lv_at hl 0 rfl) ?_
  refine lv_aload_n hx hb dX4_look_29 rfl (lv_at hl 0 rfl) ?_
  refine va_get (D := (dC, dI)) (ci := 4) (v := .ref h1) (C := RX4) (T := TX4) (N := 10) hx hb hts hiX4 hown hK hP 0 rfl rfl 0 (by decide) w__fieldLink_RX4_41_ShellHeap_Known_book_LShellHeap_Book_ (fun _ h9 => h9) rfl dX4_look_30 ?_
  refine va_get (D := (dC, dI)) (ci := 0) (v := .int 0) (C := RX0) (T := TX0) (N := 6) hx hb hts hiX0 hown hK hP 1 rfl rfl 5 (by decide) w__fieldLink_RX4_45_ShellHeap_Book_layers_I_ (fun _ h9 => h9) rfl dX4_look_33 ?_
  refine va_put (D := (dC, dI)) (ci := 4) (v := .int 0) (ty := .int) (C := RX4) (T := TX4) (N := 10) hx hb hts hiX4 tyX4 tyX4_ok nmX4 hown hK hP hD hS 0 rfl rfl 2 (by decide) w__fieldLink_RX4_15_ShellHeap_Known_layersSeen_I_ (fun _ h9 => h9) rfl (by decide +kernel) rfl rfl (Nat.le_of_ble_eq_true rfl) dX4_look_36 (fun H_3 locs hP hD hS => ?_)
  have hP : va_P (dC, dI) vwCl [(h0, .inr (4, [.ref h1, .int 0, .int 0, h0_3, h0_4, h0_5, h0_6, h0_7, h0_8, h0_9])), (h1, .inr (0, [h1_0, h1_1, h1_2, h1_3, .int 0, .int 0]))] H_3 := hP
  have hD : va_D A [(h0, .inr (4, [.ref h1, .int 0, .int 0, h0_3, h0_4, h0_5, h0_6, h0_7, h0_8, h0_9])), (h1, .inr (0, [h1_0, h1_1, h1_2, h1_3, .int 0, .int 0]))] := hD
  refine lv_aload_n hx hb dX4_look_39 rfl (lv_at hl 0 rfl) ?_
  have hPc := hP.sub (ws' := [(h0, .inr (4, [.ref h1, .int 0, .int 0, h0_3, h0_4, h0_5, h0_6, h0_7, h0_8, h0_9]))]) [0] rfl
  have hDc := hD.sub (ws' := [(h0, .inr (4, [.ref h1, .int 0, .int 0, h0_3, h0_4, h0_5, h0_6, h0_7, h0_8, h0_9]))]) [0] (by decide) rfl
  have hKc := hK.sub (tys' := []) [] rfl
  have hFc := va_free (ws := []) (wc := []) (z_D0 _) hS hA [] rfl
  refine va_callv (va_runV (As := []) (rest := []) ⟨hx, hb, hml, hown, hts⟩ (c_X4_findStruck l dC dI H_3.size h0 (.ref h1) h0_3 h0_4 h0_5 h0_6 h0_7 h0_8 h0_9) (cwV 0 hts gw_c_X4_look_c_X4_findStruck_50 rfl rfl rfl (by decide +kernel) ⟨Nat.le_of_ble_eq_true rfl, Nat.le_of_ble_eq_true rfl⟩) ⟨z_blind, va_recv hKc hPc (ci := 4) (q0 := 0) rfl rfl, z_pre hPc hKc hDc⟩ rfl rfl hl.1 rfl (lv_room (Nat.le_of_ble_eq_true rfl)) dX4_look_40 ⟨Nat.le_of_ble_eq_true rfl, Nat.le_of_ble_eq_true rfl⟩) hS (fun q _ h => hFc q h) hFc (fun u t H_4 locs ht hvm hw_6 hB hz1 hk1 hS => ?_)
  have hP := z_pure hP hk1
  have hP : va_P (dC, dI) vwCl [(h0, .inr (4, [.ref h1, .int 0, .int 0, h0_3, h0_4, h0_5, h0_6, h0_7, h0_8, h0_9])), (h1, .inr (0, [h1_0, h1_1, h1_2, h1_3, .int 0, .int 0]))] H_4 := hP
  have hD : va_D A [(h0, .inr (4, [.ref h1, .int 0, .int 0, h0_3, h0_4, h0_5, h0_6, h0_7, h0_8, h0_9])), (h1, .inr (0, [h1_0, h1_1, h1_2, h1_3, .int 0, .int 0]))] := hD
  clear hPc hDc hKc
  refine lv_aload_n hx hb dX4_look_43 rfl (lv_at hl 0 rfl) ?_
  have hPc := hP.sub (ws' := [(h0, .inr (4, [.ref h1, .int 0, .int 0, h0_3, h0_4, h0_5, h0_6, h0_7, h0_8, h0_9]))]) [0] rfl
  have hDc := hD.sub (ws' := [(h0, .inr (4, [.ref h1, .int 0, .int 0, h0_3, h0_4, h0_5, h0_6, h0_7, h0_8, h0_9]))]) [0] (by decide) rfl
  have hKc := hK.sub (tys' := []) [] rfl
  have hFc := va_free (ws := []) (wc := []) (z_D0 _) hS hA [] rfl
  refine va_callv (va_runV (As := []) (rest := []) ⟨hx, hb, hml, hown, hts⟩ (c_X4_joinBeds l dC dI H_4.size h0 (.ref h1) h0_3 h0_4 h0_5 h0_6 h0_7 h0_8 h0_9) (cwV 0 hts gw_c_X4_look_c_X4_joinBeds_53 rfl rfl rfl (by decide +kernel) ⟨Nat.le_of_ble_eq_true rfl, Nat.le_of_ble_eq_true rfl⟩) ⟨z_blind, va_recv hKc hPc (ci := 4) (q0 := 0) rfl rfl, z_pre hPc hKc hDc⟩ rfl rfl hl.1 rfl (lv_room (Nat.le_of_ble_eq_true rfl)) dX4_look_44 ⟨Nat.le_of_ble_eq_true rfl, Nat.le_of_ble_eq_true rfl⟩) hS (fun q _ h => hFc q h) hFc (fun u t H_7 locs ht hvm hw_9 hB hz1 hk1 hS => ?_)
  have hP := z_pure hP hk1
  have hP : va_P (dC, dI) vwCl [(h0, .inr (4, [.ref h1, .int 0, .int 0, h0_3, h0_4, h0_5, h0_6, h0_7, h0_8, h0_9])), (h1, .inr (0, [h1_0, h1_1, h1_2, h1_3, .int 0, .int 0]))] H_7 := hP
  have hD : va_D A [(h0, .inr (4, [.ref h1, .int 0, .int 0, h0_3, h0_4, h0_5, h0_6, h0_7, h0_8, h0_9])), (h1, .inr (0, [h1_0, h1_1, h1_2, h1_3, .int 0, .int 0]))] := hD
  clear hPc hDc hKc
  refine lv_aload_n hx hb dX4_look_47 rfl (lv_at hl 0 rfl) ?_
  have hPc := hP.sub (ws' := [(h0, .inr (4, [.ref h1, .int 0, .int 0, h0_3, h0_4, h0_5, h0_6, h0_7, h0_8, h0_9]))]) [0] rfl
  have hDc := hD.sub (ws' := [(h0, .inr (4, [.ref h1, .int 0, .int 0, h0_3, h0_4, h0_5, h0_6, h0_7, h0_8, h0_9]))]) [0] (by decide) rfl
  have hKc := hK.sub (tys' := []) [] rfl
  have hFc := va_free (ws := []) (wc := []) (z_D0 _) hS hA [] rfl
  refine va_callv (va_runV (As := []) (rest := []) ⟨hx, hb, hml, hown, hts⟩ (c_X4_findLater l dC dI H_7.size h0 (.ref h1) h0_3 h0_4 h0_5 h0_6 h0_7 h0_8 h0_9) (cwV 0 hts gw_c_X4_look_c_X4_findLater_56 rfl rfl rfl (by decide +kernel) ⟨Nat.le_of_ble_eq_true rfl, Nat.le_of_ble_eq_true rfl⟩) ⟨z_blind, va_recv hKc hPc (ci := 4) (q0 := 0) rfl rfl, z_pre hPc hKc hDc⟩ rfl rfl hl.1 rfl (lv_room (Nat.le_of_ble_eq_true rfl)) dX4_look_48 ⟨Nat.le_of_ble_eq_true rfl, Nat.le_of_ble_eq_true rfl⟩) hS (fun q _ h => hFc q h) hFc (fun u t H_10 locs ht hvm hw_12 hB hz1 hk1 hS => ?_)
  have hP := z_pure hP hk1
  have hP : va_P (dC, dI) vwCl [(h0, .inr (4, [.ref h1, .int 0, .int 0, h0_3, h0_4, h0_5, h0_6, h0_7, h0_8, h0_9])), (h1, .inr (0, [h1_0, h1_1, h1_2, h1_3, .int 0, .int 0]))] H_10 := hP
  have hD : va_D A [(h0, .inr (4, [.ref h1, .int 0, .int 0, h0_3, h0_4, h0_5, h0_6, h0_7, h0_8, h0_9])), (h1, .inr (0, [h1_0, h1_1, h1_2, h1_3, .int 0, .int 0]))] := hD
  clear hPc hDc hKc
  refine lv_aload_n hx hb dX4_look_51 rfl (lv_at hl 0 rfl) ?_
  refine lv_aload_n hx hb dX4_look_52 rfl (lv_at hl 0 rfl) ?_
  have hPc := hP.sub (ws' := [(h0, .inr (4, [.ref h1, .int 0, .int 0, h0_3, h0_4, h0_5, h0_6, h0_7, h0_8, h0_9]))]) [0] rfl
  have hDc := hD.sub (ws' := [(h0, .inr (4, [.ref h1, .int 0, .int 0, h0_3, h0_4, h0_5, h0_6, h0_7, h0_8, h0_9]))]) [0] (by decide) rfl
  have hKc := hK.sub (tys' := []) [] rfl
  have hFc := va_free (ws := []) (wc := []) (z_D0 _) hS hA [] rfl
  refine va_calli (va_runV (As := []) (rest := [.ref h0]) ⟨hx, hb, hml, hown, hts⟩ (c_X4_hasRing l dC dI H_10.size h0 (.ref h1) h0_3 h0_4 h0_5 h0_6 h0_7 h0_8 h0_9) (cwV 0 hts gw_c_X4_look_c_X4_hasRing_59 rfl rfl rfl (by decide +kernel) ⟨Nat.le_of_ble_eq_true rfl, Nat.le_of_ble_eq_true rfl⟩) ⟨z_blind, va_recv hKc hPc (ci := 4) (q0 := 0) rfl rfl, z_pre hPc hKc hDc⟩ rfl rfl hl.1 rfl (lv_room (Nat.le_of_ble_eq_true rfl)) dX4_look_53 ⟨Nat.le_of_ble_eq_true rfl, Nat.le_of_ble_eq_true rfl⟩) hS (fun q _ h => hFc q h) hFc (fun r_14 u t H_13 locs ht hvm hw_15 hB hz1 hk1 hS => ?_)
  have hP := z_pure hP hk1
  have hP : va_P (dC, dI) vwCl [(h0, .inr (4, [.ref h1, .int 0, .int 0, h0_3, h0_4, h0_5, h0_6, h0_7, h0_8, h0_9])), (h1, .inr (0, [h1_0, h1_1, h1_2, h1_3, .int 0, .int 0]))] H_13 := hP
  have hD : va_D A [(h0, .inr (4, [.ref h1, .int 0, .int 0, h0_3, h0_4, h0_5, h0_6, h0_7, h0_8, h0_9])), (h1, .inr (0, [h1_0, h1_1, h1_2, h1_3, .int 0, .int 0]))] := hD
  clear hPc hDc hKc
  obtain rfl : r_14 = 0 := hw_15
  refine lv_if_eq (tgt := 63) hx hb dX4_look_56 (by decide) (fun _ => ?_) (fun c_16 => absurd (by decide) c_16)
  refine lv_iconst (v := 0) hx hb dX4_look_63 (by decide) ?_
  refine va_put (D := (dC, dI)) (ci := 4) (v := .int 0) (ty := .int) (C := RX4) (T := TX4) (N := 10) hx hb hts hiX4 tyX4 tyX4_ok nmX4 hown hK hP hD hS 0 rfl rfl 9 (by decide) w__fieldLink_RX4_38_ShellHeap_Known_clash_I_ (fun _ h9 => h9) rfl (by decide +kernel) rfl rfl (Nat.le_of_ble_eq_true rfl) dX4_look_64 (fun H_17 locs hP hD hS => ?_)
  have hP : va_P (dC, dI) vwCl [(h0, .inr (4, [.ref h1, .int 0, .int 0, h0_3, h0_4, h0_5, h0_6, h0_7, h0_8, .int 0])), (h1, .inr (0, [h1_0, h1_1, h1_2, h1_3, .int 0, .int 0]))] H_17 := hP
  have hD : va_D A [(h0, .inr (4, [.ref h1, .int 0, .int 0, h0_3, h0_4, h0_5, h0_6, h0_7, h0_8, .int 0])), (h1, .inr (0, [h1_0, h1_1, h1_2, h1_3, .int 0, .int 0]))] := hD
  refine lv_aload_n hx hb dX4_look_67 rfl (lv_at hl 0 rfl) ?_
  refine va_get (D := (dC, dI)) (ci := 4) (v := .int 0) (C := RX4) (T := TX4) (N := 10) hx hb hts hiX4 hown hK hP 0 rfl rfl 9 (by decide) w__fieldLink_RX4_38_ShellHeap_Known_clash_I_ (fun _ h9 => h9) rfl dX4_look_68 ?_
  refine lv_if_ne (tgt := 82) hx hb dX4_look_71 (by decide) (fun c_18 => absurd c_18 (by decide)) (fun _ => ?_)
  refine lv_aload_n hx hb dX4_look_74 rfl (lv_at hl 0 rfl) ?_
  have hPc := hP.sub (ws' := [(h0, .inr (4, [.ref h1, .int 0, .int 0, h0_3, h0_4, h0_5, h0_6, h0_7, h0_8, .int 0]))]) [0] rfl
  have hDc := hD.sub (ws' := [(h0, .inr (4, [.ref h1, .int 0, .int 0, h0_3, h0_4, h0_5, h0_6, h0_7, h0_8, .int 0]))]) [0] (by decide) rfl
  have hKc := hK.sub (tys' := []) [] rfl
  have hFc := va_free (ws := []) (wc := []) (z_D0 _) hS hA [] rfl
  refine va_callv (va_runV (As := []) (rest := []) ⟨hx, hb, hml, hown, hts⟩ (c_X4_setRanks l dC dI H_17.size h0 (.ref h1) h0_3 h0_4 h0_5 h0_6 h0_7 h0_8 (.int 0)) (cwV 0 hts gw_c_X4_look_c_X4_setRanks_63 rfl rfl rfl (by decide +kernel) ⟨Nat.le_of_ble_eq_true rfl, Nat.le_of_ble_eq_true rfl⟩) ⟨z_blind, va_recv hKc hPc (ci := 4) (q0 := 0) rfl rfl, z_pre hPc hKc hDc⟩ rfl rfl hl.1 rfl (lv_room (Nat.le_of_ble_eq_true rfl)) dX4_look_75 ⟨Nat.le_of_ble_eq_true rfl, Nat.le_of_ble_eq_true rfl⟩) hS (fun q _ h => hFc q h) hFc (fun u t H_19 locs ht hvm hw_21 hB hz1 hk1 hS => ?_)
  have hP := z_pure hP hk1
  have hP : va_P (dC, dI) vwCl [(h0, .inr (4, [.ref h1, .int 0, .int 0, h0_3, h0_4, h0_5, h0_6, h0_7, h0_8, .int 0])), (h1, .inr (0, [h1_0, h1_1, h1_2, h1_3, .int 0, .int 0]))] H_19 := hP
  have hD : va_D A [(h0, .inr (4, [.ref h1, .int 0, .int 0, h0_3, h0_4, h0_5, h0_6, h0_7, h0_8, .int 0])), (h1, .inr (0, [h1_0, h1_1, h1_2, h1_3, .int 0, .int 0]))] := hD
  clear hPc hDc hKc
  refine lv_aload_n hx hb dX4_look_78 rfl (lv_at hl 0 rfl) ?_
  have hPc := hP.sub (ws' := [(h0, .inr (4, [.ref h1, .int 0, .int 0, h0_3, h0_4, h0_5, h0_6, h0_7, h0_8, .int 0]))]) [0] rfl
  have hDc := hD.sub (ws' := [(h0, .inr (4, [.ref h1, .int 0, .int 0, h0_3, h0_4, h0_5, h0_6, h0_7, h0_8, .int 0]))]) [0] (by decide) rfl
  have hKc := hK.sub (tys' := []) [] rfl
  have hFc := va_free (ws := []) (wc := []) (z_D0 _) hS hA [] rfl
  refine va_callv (va_runV (As := []) (rest := []) ⟨hx, hb, hml, hown, hts⟩ (c_X4_setSpans l dC dI H_19.size h0 (.ref h1) h0_3 h0_4 h0_5 h0_6 h0_7 h0_8 (.int 0)) (cwV 0 hts gw_c_X4_look_c_X4_setSpans_66 rfl rfl rfl (by decide +kernel) ⟨Nat.le_of_ble_eq_true rfl, Nat.le_of_ble_eq_true rfl⟩) ⟨z_blind, va_recv hKc hPc (ci := 4) (q0 := 0) rfl rfl, z_pre hPc hKc hDc⟩ rfl rfl hl.1 rfl (lv_room (Nat.le_of_ble_eq_true rfl)) dX4_look_79 ⟨Nat.le_of_ble_eq_true rfl, Nat.le_of_ble_eq_true rfl⟩) hS (fun q _ h => hFc q h) hFc (fun u t H_22 locs ht hvm hw_24 hB hz1 hk1 hS => ?_)
  have hP := z_pure hP hk1
  have hP : va_P (dC, dI) vwCl [(h0, .inr (4, [.ref h1, .int 0, .int 0, h0_3, h0_4, h0_5, h0_6, h0_7, h0_8, .int 0])), (h1, .inr (0, [h1_0, h1_1, h1_2, h1_3, .int 0, .int 0]))] H_22 := hP
  have hD : va_D A [(h0, .inr (4, [.ref h1, .int 0, .int 0, h0_3, h0_4, h0_5, h0_6, h0_7, h0_8, .int 0])), (h1, .inr (0, [h1_0, h1_1, h1_2, h1_3, .int 0, .int 0]))] := hD
  clear hPc hDc hKc
  have hP9 := hP.sub (ws' := [(h0, .inr (4, [.ref h1, .int 0, .int 0, h0_3, h0_4, h0_5, h0_6, h0_7, h0_8, .int 0])), (h1, .inr (0, [h1_0, h1_1, h1_2, h1_3, .int 0, .int 0]))]) [0, 1] rfl
  have hD9 := hD.sub (ws' := [(h0, .inr (4, [.ref h1, .int 0, .int 0, h0_3, h0_4, h0_5, h0_6, h0_7, h0_8, .int 0])), (h1, .inr (0, [h1_0, h1_1, h1_2, h1_3, .int 0, .int 0]))]) [0, 1] (by decide) rfl
  have hK9 := hK.sub (tys' := []) [] rfl
  refine W.widen (k := 0) (n := 0) (Nat.le_of_ble_eq_true rfl) (Nat.le_of_ble_eq_true rfl) ?_
  exact W.vret hx hb hr (fun t ht hW => ⟨⟨(), rfl, trivial, ⟨by rw [ht]; exact hP9, va_K.moved hW.alike hK9, hD9⟩⟩, hS.F ht⟩) hS.2.2 dX4_look_82
def u_c_X11_quarrel : List Cond := .code yX11_quarrel cX11_quarrel 2 (some .int) :: ([.fieldLink RX11 19 "ShellHeap" "book" "LShellHeap$Book;", .methodLink RX11 140 yX0_hasFirst, .instanceMethod yX0_hasFirst, .selects RX0 yX0_hasFirst yX0_hasFirst, .initialized RX0, .code yX0_hasFirst cX0_hasFirst 2 (some .boolean), .fieldLink RX0 24 "ShellHeap$Book" "notes" "I", .fieldLink RX11 28 "ShellHeap" "known" "LShellHeap$Known;", .methodLink RX11 143 yX4_look, .instanceMethod yX4_look, .selects RX4 yX4_look yX4_look, .initialized RX4, .code yX4_look cX4_look 2 none, .fieldLink RX4 9 "ShellHeap$Known" "notesSeen" "I", .fieldLink RX4 41 "ShellHeap$Known" "book" "LShellHeap$Book;", .fieldLink RX4 45 "ShellHeap$Book" "layers" "I", .fieldLink RX4 15 "ShellHeap$Known" "layersSeen" "I", .methodLink RX4 50 yX4_findStruck, .instanceMethod yX4_findStruck, .selects RX4 yX4_findStruck yX4_findStruck, .code yX4_findStruck cX4_findStruck 2 none, .methodLink RX4 53 yX4_joinBeds, .instanceMethod yX4_joinBeds, .selects RX4 yX4_joinBeds yX4_joinBeds, .code yX4_joinBeds cX4_joinBeds 2 none, .methodLink RX4 56 yX4_findLater, .instanceMethod yX4_findLater, .selects RX4 yX4_findLater yX4_findLater, .code yX4_findLater cX4_findLater 3 none, .methodLink RX4 59 yX4_hasRing, .instanceMethod yX4_hasRing, .selects RX4 yX4_hasRing yX4_hasRing, .code yX4_hasRing cX4_hasRing 2 (some .boolean), .fieldLink RX4 38 "ShellHeap$Known" "clash" "I", .methodLink RX4 63 yX4_setRanks, .instanceMethod yX4_setRanks, .selects RX4 yX4_setRanks yX4_setRanks, .code yX4_setRanks cX4_setRanks 3 none, .methodLink RX4 66 yX4_setSpans, .instanceMethod yX4_setSpans, .selects RX4 yX4_setSpans yX4_setSpans, .code yX4_setSpans cX4_setSpans 3 none, .methodLink RX4 105 yX4_leadYears, .instanceMethod yX4_leadYears, .selects RX4 yX4_leadYears yX4_leadYears, .code yX4_leadYears cX4_leadYears 3 none, .fieldLink RX11 162 "ShellHeap$Known" "clash" "I"] ++ wsX110 ++ wsX00 ++ wsX40)
set_option maxRecDepth 20000 in
theorem gw_c_X11_quarrel_c_X0_hasFirst_140 : GoodIn u_c_X11_quarrel (wsV RX11 140 RX0 yX0_hasFirst u_c_X0_hasFirst) := goodIn_r _ [2, 3, 4, 5, 6, 7, 58, 59, 60, 61, 62, 63] (by decide +kernel) (by decide +kernel)
set_option maxRecDepth 20000 in
theorem gw_c_X11_quarrel_c_X4_look_143 : GoodIn u_c_X11_quarrel (wsV RX11 143 RX4 yX4_look u_c_X4_look) := goodIn_r _ [9, 10, 11, 12, 13, 14, 15, 16, 17, 18, 19, 20, 12, 21, 22, 23, 24, 25, 26, 27, 28, 29, 30, 31, 32, 33, 34, 35, 36, 37, 38, 39, 40, 41, 42, 43, 44, 45, 46, 64, 65, 66, 67, 68, 69, 70, 71, 72, 73, 58, 59, 60, 61, 62, 63] (by decide +kernel) (by decide +kernel)
set_option maxHeartbeats 4000000 in
set_option maxRecDepth 100000 in
theorem c_X11_quarrel (l : Launch) (dC : Nat → ClassId) (dI : Nat → Nat → Nat) (sz : Nat) (h0 : Nat) (p1 : Int32) (h0_0 : Value) (h1 : Nat) (h2 : Nat) (h0_3 : Value) (h0_4 : Value) (h0_5 : Value) (h0_6 : Value) (h0_7 : Value) (h0_8 : Value) (h0_9 : Value) (h1_0 : Value) (h1_1 : Value) (h1_2 : Value) (h1_3 : Value) (h2_3 : Value) (h2_4 : Value) (h2_5 : Value) (h2_6 : Value) (h2_7 : Value) (h2_8 : Value) (h2_9 : Value) : Met l yX11_quarrel u_c_X11_quarrel ({ frames := 3, cells := 0, slots := 0, locals := 65 }) (va_Pc [.ref h0, .int p1] (z_C (dC, dI) vwCl [(h0, .inr (11, [h0_0, .ref h1, .ref h2, h0_3, h0_4, h0_5, h0_6, h0_7, h0_8, h0_9])), (h1, .inr (0, [h1_0, h1_1, h1_2, h1_3, .int 0, .int 0])), (h2, .inr (4, [.ref h1, .int (-1), .int (-1), h2_3, h2_4, h2_5, h2_6, h2_7, h2_8, h2_9]))] [] sz)) (va_Qi (fun (r : Int32) (_ : Unit) => r = v_quarrel p1) (fun (_ : Unit) (_ : State) => True) (va_A [(h0, .inr (11, [h0_0, .ref h1, .ref h2, h0_3, h0_4, h0_5, h0_6, h0_7, h0_8, h0_9])), (h1, .inr (0, [h1_0, h1_1, h1_2, h1_3, .int 0, .int 0])), (h2, .inr (4, [.ref h1, .int (-1), .int (-1), h2_3, h2_4, h2_5, h2_6, h2_7, h2_8, h2_9]))] sz)) 0 0 (va_A [(h0, .inr (11, [h0_0, .ref h1, .ref h2, h0_3, h0_4, h0_5, h0_6, h0_7, h0_8, h0_9])), (h1, .inr (0, [h1_0, h1_1, h1_2, h1_3, .int 0, .int 0])), (h2, .inr (4, [.ref h1, .int (-1), .int (-1), h2_3, h2_4, h2_5, h2_6, h2_7, h2_8, h2_9]))] sz) := by
  refine Met.ofW (cc := cX11_quarrel) (maxL := 2) (ret := (some .int)) (by decide) rfl ?_
  intro p e s m args below meth c s₁ B hml hv
  obtain ⟨rfl, hsz, hP, hK, hD0⟩ := hv
  have hx := B.exec
  have hb := B.bytes
  have hr := B.returns
  have hts := atoms_spec (ws := u_c_X11_quarrel) B.pre
  have hown : s.vm.findClass RX11 = some m.cls := findClass_of_methodNamed B.named
  have hlocks := B.notSynchronized
  subst hsz
  have hD := hD0.self (sz := s.heap.size)
  generalize hAe : va_A [(h0, .inr (11, [h0_0, .ref h1, .ref h2, h0_3, h0_4, h0_5, h0_6, h0_7, h0_8, h0_9])), (h1, .inr (0, [h1_0, h1_1, h1_2, h1_3, .int 0, .int 0])), (h2, .inr (4, [.ref h1, .int (-1), .int (-1), h2_3, h2_4, h2_5, h2_6, h2_7, h2_8, h2_9]))] s.heap.size = A at hD ⊢
  have hA : ∀ q : Nat, s.heap.size ≤ q → A q := fun q h => by rw [← hAe]; exact Or.inr h
  have hS : va_S A s.heap s.heap [] := va_S.rf
  have hP : va_P (dC, dI) vwCl [(h0, .inr (11, [h0_0, .ref h1, .ref h2, h0_3, h0_4, h0_5, h0_6, h0_7, h0_8, h0_9])), (h1, .inr (0, [h1_0, h1_1, h1_2, h1_3, .int 0, .int 0])), (h2, .inr (4, [.ref h1, .int (-1), .int (-1), h2_3, h2_4, h2_5, h2_6, h2_7, h2_8, h2_9]))] s.heap := hP
  have w__fieldLink_RX11_19_ShellHeap_book_LShellHeap_Book_ := hts (.fieldLink RX11 19 "ShellHeap" "book" "LShellHeap$Book;") (by decide +kernel)
  have hiX11 := show ∀ w ∈ u_ws RX11 TX11 10, w ∈ u_c_X11_quarrel by decide +kernel
  have w__fieldLink_RX11_28_ShellHeap_known_LShellHeap_Known_ := hts (.fieldLink RX11 28 "ShellHeap" "known" "LShellHeap$Known;") (by decide +kernel)
  have w__fieldLink_RX11_162_ShellHeap_Known_clash_I_ := hts (.fieldLink RX11 162 "ShellHeap$Known" "clash" "I") (by decide +kernel)
  have hiX4 := show ∀ w ∈ u_ws RX4 TX4 10, w ∈ u_c_X11_quarrel by decide +kernel
  have hl := lv_entry ([.ref h0, .int p1]) (n := 2) (Nat.le_of_ble_eq_true rfl)
  rw [lg_entry_eq]
  generalize (lg_sl ([.ref h0, .int p1]) ++ List.replicate (2 - (lg_sl ([.ref h0, .int p1])).length) Slot.unset).toArray = ls at hl ⊢
  have hl : lv_has ls 2 [(0, .ref h0), (1, .int p1)] := hl
  refine lv_aload_n hx hb dX11_quarrel_0 rfl (lv_at hl 0 rfl) ?_
  refine va_get (D := (dC, dI)) (ci := 11) (v := .ref h1) (C := RX11) (T := TX11) (N := 10) hx hb hts hiX11 hown hK hP 0 rfl rfl 1 (by decide) w__fieldLink_RX11_19_ShellHeap_book_LShellHeap_Book_ (fun _ h9 => h9) rfl dX11_quarrel_1 ?_
  refine lv_iload_n hx hb dX11_quarrel_4 rfl (lv_at hl 1 rfl) ?_
  have hPc := hP.sub (ws' := [(h1, .inr (0, [h1_0, h1_1, h1_2, h1_3, .int 0, .int 0]))]) [1] rfl
  have hDc := hD.sub (ws' := [(h1, .inr (0, [h1_0, h1_1, h1_2, h1_3, .int 0, .int 0]))]) [1] (by decide) rfl
  have hKc := hK.sub (tys' := []) [] rfl
  have hFc := va_free (ws := []) (wc := []) (z_D0 _) hS hA [] rfl
  refine va_calli (va_runV (As := [.int p1]) (rest := []) ⟨hx, hb, hml, hown, hts⟩ (c_X0_hasFirst l dC dI s.heap.size h1 p1 h1_0 h1_1 h1_2 h1_3 (.int 0)) (cwV 1 hts gw_c_X11_quarrel_c_X0_hasFirst_140 rfl rfl rfl (by decide +kernel) ⟨Nat.le_of_ble_eq_true rfl, Nat.le_of_ble_eq_true rfl⟩) ⟨z_blind, va_recv hKc hPc (ci := 0) (q0 := 0) rfl rfl, z_pre hPc hKc hDc⟩ rfl rfl hl.1 rfl (lv_room (Nat.le_of_ble_eq_true rfl)) dX11_quarrel_5 ⟨Nat.le_of_ble_eq_true rfl, Nat.le_of_ble_eq_true rfl⟩) hS (fun q _ h => hFc q h) hFc (fun r_2 u t H_1 locs ht hvm hw_3 hB hz1 hk1 hS => ?_)
  have hP := z_pure hP hk1
  have hP : va_P (dC, dI) vwCl [(h0, .inr (11, [h0_0, .ref h1, .ref h2, h0_3, h0_4, h0_5, h0_6, h0_7, h0_8, h0_9])), (h1, .inr (0, [h1_0, h1_1, h1_2, h1_3, .int 0, .int 0])), (h2, .inr (4, [.ref h1, .int (-1), .int (-1), h2_3, h2_4, h2_5, h2_6, h2_7, h2_8, h2_9]))] H_1 := hP
  have hD : va_D A [(h0, .inr (11, [h0_0, .ref h1, .ref h2, h0_3, h0_4, h0_5, h0_6, h0_7, h0_8, h0_9])), (h1, .inr (0, [h1_0, h1_1, h1_2, h1_3, .int 0, .int 0])), (h2, .inr (4, [.ref h1, .int (-1), .int (-1), h2_3, h2_4, h2_5, h2_6, h2_7, h2_8, h2_9]))] := hD
  clear hPc hDc hKc
  rcases hw_3 with ⟨rfl, hw_3⟩ | ⟨rfl, hw_3⟩
  · have hw_3 : p1.toInt = 0 := hw_3
    obtain rfl : p1 = 0 := z_eq' hw_3
    refine lv_if_ne (tgt := 13) hx hb dX11_quarrel_8 (by decide) (fun _ => ?_) (fun c_4 => absurd c_4 (by decide))
    refine lv_aload_n hx hb dX11_quarrel_13 rfl (lv_at hl 0 rfl) ?_
    refine va_get (D := (dC, dI)) (ci := 11) (v := .ref h2) (C := RX11) (T := TX11) (N := 10) hx hb hts hiX11 hown hK hP 0 rfl rfl 2 (by decide) w__fieldLink_RX11_28_ShellHeap_known_LShellHeap_Known_ (fun _ h9 => h9) rfl dX11_quarrel_14 ?_
    refine lv_iload_n hx hb dX11_quarrel_17 rfl (lv_at hl 1 rfl) ?_
    have hPc := hP.sub (ws' := [(h2, .inr (4, [.ref h1, .int (-1), .int (-1), h2_3, h2_4, h2_5, h2_6, h2_7, h2_8, h2_9])), (h1, .inr (0, [h1_0, h1_1, h1_2, h1_3, .int 0, .int 0]))]) [2, 1] rfl
    have hDc := hD.sub (ws' := [(h2, .inr (4, [.ref h1, .int (-1), .int (-1), h2_3, h2_4, h2_5, h2_6, h2_7, h2_8, h2_9])), (h1, .inr (0, [h1_0, h1_1, h1_2, h1_3, .int 0, .int 0]))]) [2, 1] (by decide) rfl
    have hKc := hK.sub (tys' := []) [] rfl
    have hFc := va_free (wc := [(h2, .inr (4, [.ref h1, .int (-1), .int (-1), h2_3, h2_4, h2_5, h2_6, h2_7, h2_8, h2_9])), (h1, .inr (0, [h1_0, h1_1, h1_2, h1_3, .int 0, .int 0]))]) hD hS hA [2, 1] rfl
    refine va_callv (va_runV (As := [.int 0]) (rest := []) ⟨hx, hb, hml, hown, hts⟩ (c_X4_look l dC dI H_1.size h2 h1 h2_3 h2_4 h2_5 h2_6 h2_7 h2_8 h2_9 h1_0 h1_1 h1_2 h1_3) (cwV 1 hts gw_c_X11_quarrel_c_X4_look_143 rfl rfl rfl (by decide +kernel) ⟨Nat.le_of_ble_eq_true rfl, Nat.le_of_ble_eq_true rfl⟩) ⟨z_blind, va_recv hKc hPc (ci := 4) (q0 := 0) rfl rfl, z_pre hPc hKc hDc⟩ rfl rfl hl.1 rfl (lv_room (Nat.le_of_ble_eq_true rfl)) dX11_quarrel_18 ⟨Nat.le_of_ble_eq_true rfl, Nat.le_of_ble_eq_true rfl⟩) hS (fun q _ h => hFc q h) hFc (fun u t H_5 locs ht hvm hw_7 hB hz1 hk1 hS => ?_)
    obtain ⟨hP1, hK1, hD1⟩ := hB
    rw [ht] at hP1
    have hK1 := va_K.moved hvm.symm hK1
    obtain ⟨hP, hD⟩ := va_join (wr := [(h0, .inr (11, [h0_0, .ref h1, .ref h2, h0_3, h0_4, h0_5, h0_6, h0_7, h0_8, h0_9]))]) (w1 := [(h2, .inr (4, [.ref h1, .int 0, .int 0, h2_3, h2_4, h2_5, h2_6, h2_7, h2_8, .int 0])), (h1, .inr (0, [h1_0, h1_1, h1_2, h1_3, .int 0, .int 0]))]) hP hD [2, 1] [0] rfl rfl (by decide) (by decide) hk1 hFc hP1 hD1
    have hP : va_P (dC, dI) vwCl [(h0, .inr (11, [h0_0, .ref h1, .ref h2, h0_3, h0_4, h0_5, h0_6, h0_7, h0_8, h0_9])), (h2, .inr (4, [.ref h1, .int 0, .int 0, h2_3, h2_4, h2_5, h2_6, h2_7, h2_8, .int 0])), (h1, .inr (0, [h1_0, h1_1, h1_2, h1_3, .int 0, .int 0]))] H_5 := hP
    have hD : va_D A [(h0, .inr (11, [h0_0, .ref h1, .ref h2, h0_3, h0_4, h0_5, h0_6, h0_7, h0_8, h0_9])), (h2, .inr (4, [.ref h1, .int 0, .int 0, h2_3, h2_4, h2_5, h2_6, h2_7, h2_8, .int 0])), (h1, .inr (0, [h1_0, h1_1, h1_2, h1_3, .int 0, .int 0]))] := hD
    clear hPc hDc hKc
    refine lv_aload_n hx hb dX11_quarrel_21 rfl (lv_at hl 0 rfl) ?_
    refine va_get (D := (dC, dI)) (ci := 11) (v := .ref h2) (C := RX11) (T := TX11) (N := 10) hx hb hts hiX11 hown hK hP 0 rfl rfl 2 (by decide) w__fieldLink_RX11_28_ShellHeap_known_LShellHeap_Known_ (fun _ h9 => h9) rfl dX11_quarrel_22 ?_
    refine va_get (D := (dC, dI)) (ci := 4) (v := .int 0) (C := RX4) (T := TX4) (N := 10) hx hb hts hiX4 hown hK hP 1 rfl rfl 9 (by decide) w__fieldLink_RX11_162_ShellHeap_Known_clash_I_ (fun _ h9 => h9) rfl dX11_quarrel_25 ?_
    refine W.widen (k := 0) (n := 0) (Nat.le_of_ble_eq_true rfl) (Nat.le_of_ble_eq_true rfl) ?_
    exact W.iret (v := 0) hx hb hr (fun t ht hW => ⟨⟨0, (), rfl, (by first | (unfold v_quarrel; rw [if_pos (by omega)]) | (unfold v_quarrel; rw [if_neg (by omega)]) | decide), trivial⟩, hS.F ht⟩) hS.2.2 dX11_quarrel_28
  · have hw_3 : ¬ p1.toInt = 0 := hw_3
    refine lv_if_ne (tgt := 13) hx hb dX11_quarrel_8 (by decide) (fun c_8 => absurd c_8 (by decide)) (fun _ => ?_)
    refine lv_iconst (v := (-1)) hx hb dX11_quarrel_11 (by decide) ?_
    refine W.widen (k := 0) (n := 0) (Nat.le_of_ble_eq_true rfl) (Nat.le_of_ble_eq_true rfl) ?_
    exact W.iret (v := (-1)) hx hb hr (fun t ht hW => ⟨⟨(-1), (), rfl, (by first | (unfold v_quarrel; rw [if_pos (by omega)]) | (unfold v_quarrel; rw [if_neg (by omega)]) | decide), trivial⟩, hS.F ht⟩) hS.2.2 dX11_quarrel_12
def u_c_X2_isSide : List Cond := .code yX2_isSide cX2_isSide 1 (some .boolean) :: ([])
set_option maxHeartbeats 4000000 in
set_option maxRecDepth 100000 in
theorem c_X2_isSide (l : Launch) (dC : Nat → ClassId) (dI : Nat → Nat → Nat) (sz : Nat) (p0 : Int32) : Met l yX2_isSide u_c_X2_isSide ({ frames := 0, cells := 0, slots := 0, locals := 0 }) (va_Pc [.int p0] (z_C (dC, dI) vwCl [] [] sz)) (va_Qi (fun (r : Int32) (_ : Unit) => (r = 1 ∧ (2 ≤ p0.toInt ∧ p0.toInt ≤ 12)) ∨ (r = 0 ∧ ¬ (2 ≤ p0.toInt ∧ p0.toInt ≤ 12))) (fun (_ : Unit) (_ : State) => True) (va_A [] sz)) 0 0 (va_A [] sz) := by
  refine Met.ofW (cc := cX2_isSide) (maxL := 1) (ret := (some .boolean)) (by decide) rfl ?_
  intro p e s m args below meth c s₁ B hml hv
  obtain ⟨rfl, hsz, hP, hK, hD0⟩ := hv
  have hx := B.exec
  have hb := B.bytes
  have hr := B.returns
  have hts := atoms_spec (ws := u_c_X2_isSide) B.pre
  have hown : s.vm.findClass RX2 = some m.cls := findClass_of_methodNamed B.named
  have hlocks := B.notSynchronized
  subst hsz
  have hD := hD0
  generalize hAe : va_A [] s.heap.size = A
  have hA : ∀ q : Nat, s.heap.size ≤ q → A q := fun q h => by rw [← hAe]; exact Or.inr h
  have hS : va_S A s.heap s.heap [] := va_S.rf
  have hP : va_P (dC, dI) vwCl [] s.heap := hP
  have hl := lv_entry ([.int p0]) (n := 1) (Nat.le_of_ble_eq_true rfl)
  rw [lg_entry_eq]
  generalize (lg_sl ([.int p0]) ++ List.replicate (1 - (lg_sl ([.int p0])).length) Slot.unset).toArray = ls at hl ⊢
  have hl : lv_has ls 1 [(0, .int p0)] := hl
  refine lv_iload_n hx hb dX2_isSide_0 rfl (lv_at hl 0 rfl) ?_
  refine lv_iconst (v := 2) hx hb dX2_isSide_1 (by decide) ?_
  refine lv_icmp_lt (tgt := 15) hx hb dX2_isSide_2 (by decide) (fun c_1 => ?_) (fun c_1 => ?_)
  · have k_2 : (p0).toInt < (2 : Int) := z_lt c_1
    refine lv_iconst (v := 0) hx hb dX2_isSide_15 (by decide) ?_
    refine W.widen (k := 0) (n := 0) (Nat.le_of_ble_eq_true rfl) (Nat.le_of_ble_eq_true rfl) ?_
    exact W.zret (v := 0) hx hb hr (by rfl) (fun t ht hW => ⟨⟨0, (), rfl, (Or.inr (⟨rfl, by first | omega | decide⟩)), trivial⟩, hS.F ht⟩) hS.2.2 dX2_isSide_16
  · have k_3 : (p0).toInt ≥ (2 : Int) := z_nlt c_1
    refine lv_iload_n hx hb dX2_isSide_5 rfl (lv_at hl 0 rfl) ?_
    refine lv_bipush (v := 12) hx hb dX2_isSide_6 (by decide) ?_
    refine lv_icmp_gt (tgt := 15) hx hb dX2_isSide_8 (by decide) (fun c_4 => ?_) (fun c_4 => ?_)
    · have k_5 : (12 : Int) < (p0).toInt := z_lt c_4
      refine lv_iconst (v := 0) hx hb dX2_isSide_15 (by decide) ?_
      refine W.widen (k := 0) (n := 0) (Nat.le_of_ble_eq_true rfl) (Nat.le_of_ble_eq_true rfl) ?_
      exact W.zret (v := 0) hx hb hr (by rfl) (fun t ht hW => ⟨⟨0, (), rfl, (Or.inr (⟨rfl, by first | omega | decide⟩)), trivial⟩, hS.F ht⟩) hS.2.2 dX2_isSide_16
    · have k_6 : (12 : Int) ≥ (p0).toInt := z_nlt c_4
      refine lv_iconst (v := 1) hx hb dX2_isSide_11 (by decide) ?_
      refine lv_goto (tgt := 16) hx hb dX2_isSide_12 (by decide) ?_
      refine W.widen (k := 0) (n := 0) (Nat.le_of_ble_eq_true rfl) (Nat.le_of_ble_eq_true rfl) ?_
      exact W.zret (v := 1) hx hb hr (by rfl) (fun t ht hW => ⟨⟨1, (), rfl, (Or.inl (⟨rfl, by first | omega | decide⟩)), trivial⟩, hS.F ht⟩) hS.2.2 dX2_isSide_16
def u_c_X2_lay : List Cond := .code yX2_lay cX2_lay 3 (some .boolean) :: ([.methodLink RX2 46 yX2_isSide, .static yX2_isSide, .initialized RX2, .code yX2_isSide cX2_isSide 1 (some .boolean), .fieldLink RX2 9 "ShellHeap$Ground" "w" "I", .fieldLink RX2 15 "ShellHeap$Ground" "h" "I", .fieldLink RX2 34 "ShellHeap$Ground" "columns" "I"] ++ wsX20)
set_option maxRecDepth 20000 in
theorem gw_c_X2_lay_c_X2_isSide_46 : GoodIn u_c_X2_lay (va_wsS RX2 46 yX2_isSide u_c_X2_isSide) := goodIn_r _ [1, 2, 3, 4] (by decide +kernel) (by decide +kernel)
set_option maxHeartbeats 4000000 in
set_option maxRecDepth 100000 in
theorem c_X2_lay (l : Launch) (dC : Nat → ClassId) (dI : Nat → Nat → Nat) (sz : Nat) (h0 : Nat) (p1 : Int32) (p2 : Int32) (h0_0 : Value) (h0_1 : Value) (h0_2 : Value) (h0_3 : Value) (h0_4 : Value) (h0_5 : Value) (h0_6 : Value) (h0_7 : Value) (h0_8 : Value) (h0_9 : Value) (h0_10 : Value) : Met l yX2_lay u_c_X2_lay ({ frames := 1, cells := 0, slots := 0, locals := 20 }) (va_Pc [.ref h0, .int p1, .int p2] (z_C (dC, dI) vwCl [(h0, .inr (2, [h0_0, h0_1, h0_2, h0_3, h0_4, h0_5, h0_6, h0_7, h0_8, h0_9, h0_10]))] [] sz)) (va_Qi (fun (r : Int32) (_ : Unit) => (r = 1 ∧ (2 ≤ p1.toInt ∧ p1.toInt ≤ 12 ∧ 2 ≤ p2.toInt ∧ p2.toInt ≤ 12)) ∨ (r = 0 ∧ ¬ (2 ≤ p1.toInt ∧ p1.toInt ≤ 12 ∧ 2 ≤ p2.toInt ∧ p2.toInt ≤ 12))) (fun (_ : Unit) (_ : State) => True) (va_A [(h0, .inr (2, [h0_0, h0_1, h0_2, h0_3, h0_4, h0_5, h0_6, h0_7, h0_8, h0_9, h0_10]))] sz)) 0 0 (va_A [(h0, .inr (2, [h0_0, h0_1, h0_2, h0_3, h0_4, h0_5, h0_6, h0_7, h0_8, h0_9, h0_10]))] sz) := by
  refine Met.ofW (cc := cX2_lay) (maxL := 3) (ret := (some .boolean)) (by decide) rfl ?_
  intro p e s m args below meth c s₁ B hml hv
  obtain ⟨rfl, hsz, hP, hK, hD0⟩ := hv
  have hx := B.exec
  have hb := B.bytes
  have hr := B.returns
  have hts := atoms_spec (ws := u_c_X2_lay) B.pre
  have hown : s.vm.findClass RX2 = some m.cls := findClass_of_methodNamed B.named
  have hlocks := B.notSynchronized
  subst hsz
  have hD := hD0.self (sz := s.heap.size)
  generalize hAe : va_A [(h0, .inr (2, [h0_0, h0_1, h0_2, h0_3, h0_4, h0_5, h0_6, h0_7, h0_8, h0_9, h0_10]))] s.heap.size = A at hD ⊢
  have hA : ∀ q : Nat, s.heap.size ≤ q → A q := fun q h => by rw [← hAe]; exact Or.inr h
  have hS : va_S A s.heap s.heap [] := va_S.rf
  have hP : va_P (dC, dI) vwCl [(h0, .inr (2, [h0_0, h0_1, h0_2, h0_3, h0_4, h0_5, h0_6, h0_7, h0_8, h0_9, h0_10]))] s.heap := hP
  have w__fieldLink_RX2_9_ShellHeap_Ground_w_I_ := hts (.fieldLink RX2 9 "ShellHeap$Ground" "w" "I") (by decide +kernel)
  have hiX2 := show ∀ w ∈ u_ws RX2 TX2 11, w ∈ u_c_X2_lay by decide +kernel
  have w__fieldLink_RX2_15_ShellHeap_Ground_h_I_ := hts (.fieldLink RX2 15 "ShellHeap$Ground" "h" "I") (by decide +kernel)
  have w__fieldLink_RX2_34_ShellHeap_Ground_columns_I_ := hts (.fieldLink RX2 34 "ShellHeap$Ground" "columns" "I") (by decide +kernel)
  have hl := lv_entry ([.ref h0, .int p1, .int p2]) (n := 3) (Nat.le_of_ble_eq_true rfl)
  rw [lg_entry_eq]
  generalize (lg_sl ([.ref h0, .int p1, .int p2]) ++ List.replicate (3 - (lg_sl ([.ref h0, .int p1, .int p2])).length) Slot.unset).toArray = ls at hl ⊢
  have hl : lv_has ls 3 [(0, .ref h0), (1, .int p1), (2, .int p2)] := hl
  refine lv_iload_n hx hb dX2_lay_0 rfl (lv_at hl 1 rfl) ?_
  have hPc := hP.sub (ws' := []) [] rfl
  have hDc := hD.sub (ws' := []) [] (by decide) rfl
  have hKc := hK.sub (tys' := []) [] rfl
  have hFc := va_free (ws := []) (wc := []) (z_D0 _) hS hA [] rfl
  refine va_calli (va_runS (As := [.int p1]) (rest := []) ⟨hx, hb, hml, hown, hts⟩ (c_X2_isSide l dC dI s.heap.size p1) (va_cwS 1 hts gw_c_X2_lay_c_X2_isSide_46 rfl rfl rfl (by decide +kernel) ⟨Nat.le_of_ble_eq_true rfl, Nat.le_of_ble_eq_true rfl⟩) ⟨z_blind, z_pre hPc hKc hDc⟩ rfl rfl hl.1 rfl (lv_room (Nat.le_of_ble_eq_true rfl)) dX2_lay_1 ⟨Nat.le_of_ble_eq_true rfl, Nat.le_of_ble_eq_true rfl⟩) hS (fun q _ h => hFc q h) hFc (fun r_2 u t H_1 locs ht hvm hw_3 hB hz1 hk1 hS => ?_)
  have hP := z_pure hP hk1
  have hP : va_P (dC, dI) vwCl [(h0, .inr (2, [h0_0, h0_1, h0_2, h0_3, h0_4, h0_5, h0_6, h0_7, h0_8, h0_9, h0_10]))] H_1 := hP
  have hD : va_D A [(h0, .inr (2, [h0_0, h0_1, h0_2, h0_3, h0_4, h0_5, h0_6, h0_7, h0_8, h0_9, h0_10]))] := hD
  clear hPc hDc hKc
  rcases hw_3 with ⟨rfl, hw_3⟩ | ⟨rfl, hw_3⟩
  · have hw_3 : (2 ≤ p1.toInt ∧ p1.toInt ≤ 12) := hw_3
    refine lv_if_eq (tgt := 14) hx hb dX2_lay_4 (by decide) (fun c_4 => absurd c_4 (by decide)) (fun _ => ?_)
    refine lv_iload_n hx hb dX2_lay_7 rfl (lv_at hl 2 rfl) ?_
    have hPc := hP.sub (ws' := []) [] rfl
    have hDc := hD.sub (ws' := []) [] (by decide) rfl
    have hKc := hK.sub (tys' := []) [] rfl
    have hFc := va_free (ws := []) (wc := []) (z_D0 _) hS hA [] rfl
    refine va_calli (va_runS (As := [.int p2]) (rest := []) ⟨hx, hb, hml, hown, hts⟩ (c_X2_isSide l dC dI H_1.size p2) (va_cwS 1 hts gw_c_X2_lay_c_X2_isSide_46 rfl rfl rfl (by decide +kernel) ⟨Nat.le_of_ble_eq_true rfl, Nat.le_of_ble_eq_true rfl⟩) ⟨z_blind, z_pre hPc hKc hDc⟩ rfl rfl hl.1 rfl (lv_room (Nat.le_of_ble_eq_true rfl)) dX2_lay_8 ⟨Nat.le_of_ble_eq_true rfl, Nat.le_of_ble_eq_true rfl⟩) hS (fun q _ h => hFc q h) hFc (fun r_6 u t H_5 locs ht hvm hw_7 hB hz1 hk1 hS => ?_)
    have hP := z_pure hP hk1
    have hP : va_P (dC, dI) vwCl [(h0, .inr (2, [h0_0, h0_1, h0_2, h0_3, h0_4, h0_5, h0_6, h0_7, h0_8, h0_9, h0_10]))] H_5 := hP
    have hD : va_D A [(h0, .inr (2, [h0_0, h0_1, h0_2, h0_3, h0_4, h0_5, h0_6, h0_7, h0_8, h0_9, h0_10]))] := hD
    clear hPc hDc hKc
    rcases hw_7 with ⟨rfl, hw_7⟩ | ⟨rfl, hw_7⟩
    · have hw_7 : (2 ≤ p2.toInt ∧ p2.toInt ≤ 12) := hw_7
      refine lv_if_ne (tgt := 16) hx hb dX2_lay_11 (by decide) (fun _ => ?_) (fun c_8 => absurd c_8 (by decide))
      refine lv_aload_n hx hb dX2_lay_16 rfl (lv_at hl 0 rfl) ?_
      refine lv_iload_n hx hb dX2_lay_17 rfl (lv_at hl 1 rfl) ?_
      refine va_put (D := (dC, dI)) (ci := 2) (v := .int p1) (ty := .int) (C := RX2) (T := TX2) (N := 11) hx hb hts hiX2 tyX2 tyX2_ok nmX2 hown hK hP hD hS 0 rfl rfl 0 (by decide) w__fieldLink_RX2_9_ShellHeap_Ground_w_I_ (fun _ h9 => h9) rfl (by decide +kernel) rfl rfl (Nat.le_of_ble_eq_true rfl) dX2_lay_18 (fun H_9 locs hP hD hS => ?_)
      have hP : va_P (dC, dI) vwCl [(h0, .inr (2, [.int p1, h0_1, h0_2, h0_3, h0_4, h0_5, h0_6, h0_7, h0_8, h0_9, h0_10]))] H_9 := hP
      have hD : va_D A [(h0, .inr (2, [.int p1, h0_1, h0_2, h0_3, h0_4, h0_5, h0_6, h0_7, h0_8, h0_9, h0_10]))] := hD
      refine lv_aload_n hx hb dX2_lay_21 rfl (lv_at hl 0 rfl) ?_
      refine lv_iload_n hx hb dX2_lay_22 rfl (lv_at hl 2 rfl) ?_
      refine va_put (D := (dC, dI)) (ci := 2) (v := .int p2) (ty := .int) (C := RX2) (T := TX2) (N := 11) hx hb hts hiX2 tyX2 tyX2_ok nmX2 hown hK hP hD hS 0 rfl rfl 1 (by decide) w__fieldLink_RX2_15_ShellHeap_Ground_h_I_ (fun _ h9 => h9) rfl (by decide +kernel) rfl rfl (Nat.le_of_ble_eq_true rfl) dX2_lay_23 (fun H_10 locs hP hD hS => ?_)
      have hP : va_P (dC, dI) vwCl [(h0, .inr (2, [.int p1, .int p2, h0_2, h0_3, h0_4, h0_5, h0_6, h0_7, h0_8, h0_9, h0_10]))] H_10 := hP
      have hD : va_D A [(h0, .inr (2, [.int p1, .int p2, h0_2, h0_3, h0_4, h0_5, h0_6, h0_7, h0_8, h0_9, h0_10]))] := hD
      refine lv_aload_n hx hb dX2_lay_26 rfl (lv_at hl 0 rfl) ?_
      refine lv_iconst (v := 0) hx hb dX2_lay_27 (by decide) ?_
      refine va_put (D := (dC, dI)) (ci := 2) (v := .int 0) (ty := .int) (C := RX2) (T := TX2) (N := 11) hx hb hts hiX2 tyX2 tyX2_ok nmX2 hown hK hP hD hS 0 rfl rfl 7 (by decide) w__fieldLink_RX2_34_ShellHeap_Ground_columns_I_ (fun _ h9 => h9) rfl (by decide +kernel) rfl rfl (Nat.le_of_ble_eq_true rfl) dX2_lay_28 (fun H_11 locs hP hD hS => ?_)
      have hP : va_P (dC, dI) vwCl [(h0, .inr (2, [.int p1, .int p2, h0_2, h0_3, h0_4, h0_5, h0_6, .int 0, h0_8, h0_9, h0_10]))] H_11 := hP
      have hD : va_D A [(h0, .inr (2, [.int p1, .int p2, h0_2, h0_3, h0_4, h0_5, h0_6, .int 0, h0_8, h0_9, h0_10]))] := hD
      refine lv_iconst (v := 1) hx hb dX2_lay_31 (by decide) ?_
      refine W.widen (k := 0) (n := 0) (Nat.le_of_ble_eq_true rfl) (Nat.le_of_ble_eq_true rfl) ?_
      exact W.zret (v := 1) hx hb hr (by rfl) (fun t ht hW => ⟨⟨1, (), rfl, (Or.inl (⟨rfl, by first | omega | decide⟩)), trivial⟩, hS.F ht⟩) hS.2.2 dX2_lay_32
    · have hw_7 : ¬ (2 ≤ p2.toInt ∧ p2.toInt ≤ 12) := hw_7
      refine lv_if_ne (tgt := 16) hx hb dX2_lay_11 (by decide) (fun c_12 => absurd c_12 (by decide)) (fun _ => ?_)
      refine lv_iconst (v := 0) hx hb dX2_lay_14 (by decide) ?_
      refine W.widen (k := 0) (n := 0) (Nat.le_of_ble_eq_true rfl) (Nat.le_of_ble_eq_true rfl) ?_
      exact W.zret (v := 0) hx hb hr (by rfl) (fun t ht hW => ⟨⟨0, (), rfl, (Or.inr (⟨rfl, by first | omega | decide⟩)), trivial⟩, hS.F ht⟩) hS.2.2 dX2_lay_15
  · have hw_3 : ¬ (2 ≤ p1.toInt ∧ p1.toInt ≤ 12) := hw_3
    refine lv_if_eq (tgt := 14) hx hb dX2_lay_4 (by decide) (fun _ => ?_) (fun c_13 => absurd (by decide) c_13)
    refine lv_iconst (v := 0) hx hb dX2_lay_14 (by decide) ?_
    refine W.widen (k := 0) (n := 0) (Nat.le_of_ble_eq_true rfl) (Nat.le_of_ble_eq_true rfl) ?_
    exact W.zret (v := 0) hx hb hr (by rfl) (fun t ht hW => ⟨⟨0, (), rfl, (Or.inr (⟨rfl, by first | omega | decide⟩)), trivial⟩, hS.F ht⟩) hS.2.2 dX2_lay_15
def u_c_X11_heap : List Cond := .code yX11_heap cX11_heap 3 (some .boolean) :: ([.fieldLink RX11 35 "ShellHeap" "ground" "LShellHeap$Ground;", .methodLink RX11 174 yX2_lay, .instanceMethod yX2_lay, .selects RX2 yX2_lay yX2_lay, .initialized RX2, .code yX2_lay cX2_lay 3 (some .boolean), .methodLink RX2 46 yX2_isSide, .static yX2_isSide, .code yX2_isSide cX2_isSide 1 (some .boolean), .fieldLink RX2 9 "ShellHeap$Ground" "w" "I", .fieldLink RX2 15 "ShellHeap$Ground" "h" "I", .fieldLink RX2 34 "ShellHeap$Ground" "columns" "I"] ++ wsX110 ++ wsX20)
set_option maxRecDepth 20000 in
theorem gw_c_X11_heap_c_X2_lay_174 : GoodIn u_c_X11_heap (wsV RX11 174 RX2 yX2_lay u_c_X2_lay) := goodIn_r _ [2, 3, 4, 5, 6, 7, 8, 5, 9, 10, 11, 12, 23, 24, 25, 26, 27, 28, 29, 30, 31, 32, 33] (by decide +kernel) (by decide +kernel)
set_option maxHeartbeats 4000000 in
set_option maxRecDepth 100000 in
theorem c_X11_heap (l : Launch) (dC : Nat → ClassId) (dI : Nat → Nat → Nat) (sz : Nat) (h0 : Nat) (p1 : Int32) (p2 : Int32) (h0_0 : Value) (h0_1 : Value) (h0_2 : Value) (h1 : Nat) (h0_4 : Value) (h0_5 : Value) (h0_6 : Value) (h0_7 : Value) (h0_8 : Value) (h0_9 : Value) (h1_0 : Value) (h1_1 : Value) (h1_2 : Value) (h1_3 : Value) (h1_4 : Value) (h1_5 : Value) (h1_6 : Value) (h1_7 : Value) (h1_8 : Value) (h1_9 : Value) (h1_10 : Value) : Met l yX11_heap u_c_X11_heap ({ frames := 2, cells := 0, slots := 0, locals := 42 }) (va_Pc [.ref h0, .int p1, .int p2] (z_C (dC, dI) vwCl [(h0, .inr (11, [h0_0, h0_1, h0_2, .ref h1, h0_4, h0_5, h0_6, h0_7, h0_8, h0_9])), (h1, .inr (2, [h1_0, h1_1, h1_2, h1_3, h1_4, h1_5, h1_6, h1_7, h1_8, h1_9, h1_10]))] [] sz)) (va_Qi (fun (r : Int32) (_ : Unit) => r = v_heap p1 p2) (fun (_ : Unit) (_ : State) => True) (va_A [(h0, .inr (11, [h0_0, h0_1, h0_2, .ref h1, h0_4, h0_5, h0_6, h0_7, h0_8, h0_9])), (h1, .inr (2, [h1_0, h1_1, h1_2, h1_3, h1_4, h1_5, h1_6, h1_7, h1_8, h1_9, h1_10]))] sz)) 0 0 (va_A [(h0, .inr (11, [h0_0, h0_1, h0_2, .ref h1, h0_4, h0_5, h0_6, h0_7, h0_8, h0_9])), (h1, .inr (2, [h1_0, h1_1, h1_2, h1_3, h1_4, h1_5, h1_6, h1_7, h1_8, h1_9, h1_10]))] sz) := by
  refine Met.ofW (cc := cX11_heap) (maxL := 3) (ret := (some .boolean)) (by decide) rfl ?_
  intro p e s m args below meth c s₁ B hml hv
  obtain ⟨rfl, hsz, hP, hK, hD0⟩ := hv
  have hx := B.exec
  have hb := B.bytes
  have hr := B.returns
  have hts := atoms_spec (ws := u_c_X11_heap) B.pre
  have hown : s.vm.findClass RX11 = some m.cls := findClass_of_methodNamed B.named
  have hlocks := B.notSynchronized
  subst hsz
  have hD := hD0.self (sz := s.heap.size)
  generalize hAe : va_A [(h0, .inr (11, [h0_0, h0_1, h0_2, .ref h1, h0_4, h0_5, h0_6, h0_7, h0_8, h0_9])), (h1, .inr (2, [h1_0, h1_1, h1_2, h1_3, h1_4, h1_5, h1_6, h1_7, h1_8, h1_9, h1_10]))] s.heap.size = A at hD ⊢
  have hA : ∀ q : Nat, s.heap.size ≤ q → A q := fun q h => by rw [← hAe]; exact Or.inr h
  have hS : va_S A s.heap s.heap [] := va_S.rf
  have hP : va_P (dC, dI) vwCl [(h0, .inr (11, [h0_0, h0_1, h0_2, .ref h1, h0_4, h0_5, h0_6, h0_7, h0_8, h0_9])), (h1, .inr (2, [h1_0, h1_1, h1_2, h1_3, h1_4, h1_5, h1_6, h1_7, h1_8, h1_9, h1_10]))] s.heap := hP
  have w__fieldLink_RX11_35_ShellHeap_ground_LShellHeap_Ground_ := hts (.fieldLink RX11 35 "ShellHeap" "ground" "LShellHeap$Ground;") (by decide +kernel)
  have hiX11 := show ∀ w ∈ u_ws RX11 TX11 10, w ∈ u_c_X11_heap by decide +kernel
  have hl := lv_entry ([.ref h0, .int p1, .int p2]) (n := 3) (Nat.le_of_ble_eq_true rfl)
  rw [lg_entry_eq]
  generalize (lg_sl ([.ref h0, .int p1, .int p2]) ++ List.replicate (3 - (lg_sl ([.ref h0, .int p1, .int p2])).length) Slot.unset).toArray = ls at hl ⊢
  have hl : lv_has ls 3 [(0, .ref h0), (1, .int p1), (2, .int p2)] := hl
  refine lv_aload_n hx hb dX11_heap_0 rfl (lv_at hl 0 rfl) ?_
  refine va_get (D := (dC, dI)) (ci := 11) (v := .ref h1) (C := RX11) (T := TX11) (N := 10) hx hb hts hiX11 hown hK hP 0 rfl rfl 3 (by decide) w__fieldLink_RX11_35_ShellHeap_ground_LShellHeap_Ground_ (fun _ h9 => h9) rfl dX11_heap_1 ?_
  refine lv_iload_n hx hb dX11_heap_4 rfl (lv_at hl 1 rfl) ?_
  refine lv_iload_n hx hb dX11_heap_5 rfl (lv_at hl 2 rfl) ?_
  have hPc := hP.sub (ws' := [(h1, .inr (2, [h1_0, h1_1, h1_2, h1_3, h1_4, h1_5, h1_6, h1_7, h1_8, h1_9, h1_10]))]) [1] rfl
  have hDc := hD.sub (ws' := [(h1, .inr (2, [h1_0, h1_1, h1_2, h1_3, h1_4, h1_5, h1_6, h1_7, h1_8, h1_9, h1_10]))]) [1] (by decide) rfl
  have hKc := hK.sub (tys' := []) [] rfl
  have hFc := va_free (wc := [(h1, .inr (2, [h1_0, h1_1, h1_2, h1_3, h1_4, h1_5, h1_6, h1_7, h1_8, h1_9, h1_10]))]) hD hS hA [1] rfl
  refine va_calli (va_runV (As := [.int p1, .int p2]) (rest := []) ⟨hx, hb, hml, hown, hts⟩ (c_X2_lay l dC dI s.heap.size h1 p1 p2 h1_0 h1_1 h1_2 h1_3 h1_4 h1_5 h1_6 h1_7 h1_8 h1_9 h1_10) (cwV 2 hts gw_c_X11_heap_c_X2_lay_174 rfl rfl rfl (by decide +kernel) ⟨Nat.le_of_ble_eq_true rfl, Nat.le_of_ble_eq_true rfl⟩) ⟨z_blind, va_recv hKc hPc (ci := 2) (q0 := 0) rfl rfl, z_pre hPc hKc hDc⟩ rfl rfl hl.1 rfl (lv_room (Nat.le_of_ble_eq_true rfl)) dX11_heap_6 ⟨Nat.le_of_ble_eq_true rfl, Nat.le_of_ble_eq_true rfl⟩) hS (fun q _ h => hFc q h) hFc (fun r_2 u t H_1 locs ht hvm hw_3 hB hz1 hk1 hS => ?_)
  obtain ⟨hP, hD⟩ := va_join (wr := [(h0, .inr (11, [h0_0, h0_1, h0_2, .ref h1, h0_4, h0_5, h0_6, h0_7, h0_8, h0_9]))]) (w1 := []) hP hD [1] [0] rfl rfl (by decide) (by decide) hk1 hFc (z_P0 _) (z_D0 _)
  have hP : va_P (dC, dI) vwCl [(h0, .inr (11, [h0_0, h0_1, h0_2, .ref h1, h0_4, h0_5, h0_6, h0_7, h0_8, h0_9]))] H_1 := hP
  have hD : va_D A [(h0, .inr (11, [h0_0, h0_1, h0_2, .ref h1, h0_4, h0_5, h0_6, h0_7, h0_8, h0_9]))] := hD
  clear hPc hDc hKc
  rcases hw_3 with ⟨rfl, hw_3⟩ | ⟨rfl, hw_3⟩
  · have hw_3 : (2 ≤ p1.toInt ∧ p1.toInt ≤ 12 ∧ 2 ≤ p2.toInt ∧ p2.toInt ≤ 12) := hw_3
    refine W.widen (k := 0) (n := 0) (Nat.le_of_ble_eq_true rfl) (Nat.le_of_ble_eq_true rfl) ?_
    exact W.zret (v := 1) hx hb hr (by rfl) (fun t ht hW => ⟨⟨1, (), rfl, (by first | (unfold v_heap; rw [if_pos (by omega)]) | (unfold v_heap; rw [if_neg (by omega)]) | decide), trivial⟩, hS.F ht⟩) hS.2.2 dX11_heap_9
  · have hw_3 : ¬ (2 ≤ p1.toInt ∧ p1.toInt ≤ 12 ∧ 2 ≤ p2.toInt ∧ p2.toInt ≤ 12) := hw_3
    refine W.widen (k := 0) (n := 0) (Nat.le_of_ble_eq_true rfl) (Nat.le_of_ble_eq_true rfl) ?_
    exact W.zret (v := 0) hx hb hr (by rfl) (fun t ht hW => ⟨⟨0, (), rfl, (by first | (unfold v_heap; rw [if_pos (by omega)]) | (unfold v_heap; rw [if_neg (by omega)]) | decide), trivial⟩, hS.F ht⟩) hS.2.2 dX11_heap_9
def u_c_X2_draw : List Cond := .code yX2_draw cX2_draw 4 (some .int) :: ([.fieldLink RX2 9 "ShellHeap$Ground" "w" "I", .fieldLink RX2 15 "ShellHeap$Ground" "h" "I", .fieldLink RX2 34 "ShellHeap$Ground" "columns" "I", .fieldLink RX2 18 "ShellHeap$Ground" "xs" "[I", .fieldLink RX2 22 "ShellHeap$Ground" "ys" "[I", .fieldLink RX2 31 "ShellHeap$Ground" "thickness" "[I"] ++ wsX20)
set_option maxHeartbeats 4000000 in
set_option maxRecDepth 100000 in
theorem c_X2_draw (l : Launch) (dC : Nat → ClassId) (dI : Nat → Nat → Nat) (sz : Nat) (h0 : Nat) (p1 : Int32) (p2 : Int32) (h1 : Nat) (h2 : Nat) (h0_4 : Value) (h0_5 : Value) (h3 : Nat) (h0_8 : Value) (h0_9 : Value) (h0_10 : Value) (ch1 : ClassId) (fh1 : Nat → Int32) (ch2 : ClassId) (fh2 : Nat → Int32) (ch3 : ClassId) (fh3 : Nat → Int32) : Met l yX2_draw u_c_X2_draw ({ frames := 0, cells := 0, slots := 0, locals := 0 }) (va_Pc [.ref h0, .int p1, .int p2] (z_C (dC, dI) vwCl [(h0, .inr (2, [.int 6, .int 6, .ref h1, .ref h2, h0_4, h0_5, .ref h3, .int 0, h0_8, h0_9, h0_10])), (h1, .inl (ch1, 10, .inl fh1)), (h2, .inl (ch2, 10, .inl fh2)), (h3, .inl (ch3, 120, .inl fh3))] [(ch1, .int), (ch2, .int), (ch3, .int)] sz)) (va_Qi (fun (r : Int32) (_ : Unit) => r = v_column p1 p2) (fun (_ : Unit) (_ : State) => True) (va_A [(h0, .inr (2, [.int 6, .int 6, .ref h1, .ref h2, h0_4, h0_5, .ref h3, .int 0, h0_8, h0_9, h0_10])), (h1, .inl (ch1, 10, .inl fh1)), (h2, .inl (ch2, 10, .inl fh2)), (h3, .inl (ch3, 120, .inl fh3))] sz)) 0 0 (va_A [(h0, .inr (2, [.int 6, .int 6, .ref h1, .ref h2, h0_4, h0_5, .ref h3, .int 0, h0_8, h0_9, h0_10])), (h1, .inl (ch1, 10, .inl fh1)), (h2, .inl (ch2, 10, .inl fh2)), (h3, .inl (ch3, 120, .inl fh3))] sz) := by
  refine Met.ofW (cc := cX2_draw) (maxL := 4) (ret := (some .int)) (by decide) rfl ?_
  intro p e s m args below meth c s₁ B hml hv
  obtain ⟨rfl, hsz, hP, hK, hD0⟩ := hv
  have hx := B.exec
  have hb := B.bytes
  have hr := B.returns
  have hts := atoms_spec (ws := u_c_X2_draw) B.pre
  have hown : s.vm.findClass RX2 = some m.cls := findClass_of_methodNamed B.named
  have hlocks := B.notSynchronized
  subst hsz
  have hD := hD0.self (sz := s.heap.size)
  generalize hAe : va_A [(h0, .inr (2, [.int 6, .int 6, .ref h1, .ref h2, h0_4, h0_5, .ref h3, .int 0, h0_8, h0_9, h0_10])), (h1, .inl (ch1, 10, .inl fh1)), (h2, .inl (ch2, 10, .inl fh2)), (h3, .inl (ch3, 120, .inl fh3))] s.heap.size = A at hD ⊢
  have hA : ∀ q : Nat, s.heap.size ≤ q → A q := fun q h => by rw [← hAe]; exact Or.inr h
  have hS : va_S A s.heap s.heap [] := va_S.rf
  have hP : va_P (dC, dI) vwCl [(h0, .inr (2, [.int 6, .int 6, .ref h1, .ref h2, h0_4, h0_5, .ref h3, .int 0, h0_8, h0_9, h0_10])), (h1, .inl (ch1, 10, .inl fh1)), (h2, .inl (ch2, 10, .inl fh2)), (h3, .inl (ch3, 120, .inl fh3))] s.heap := hP
  have w__fieldLink_RX2_9_ShellHeap_Ground_w_I_ := hts (.fieldLink RX2 9 "ShellHeap$Ground" "w" "I") (by decide +kernel)
  have hiX2 := show ∀ w ∈ u_ws RX2 TX2 11, w ∈ u_c_X2_draw by decide +kernel
  have w__fieldLink_RX2_15_ShellHeap_Ground_h_I_ := hts (.fieldLink RX2 15 "ShellHeap$Ground" "h" "I") (by decide +kernel)
  have w__fieldLink_RX2_34_ShellHeap_Ground_columns_I_ := hts (.fieldLink RX2 34 "ShellHeap$Ground" "columns" "I") (by decide +kernel)
  have w__fieldLink_RX2_18_ShellHeap_Ground_xs_I_ := hts (.fieldLink RX2 18 "ShellHeap$Ground" "xs" "[I") (by decide +kernel)
  have w__fieldLink_RX2_22_ShellHeap_Ground_ys_I_ := hts (.fieldLink RX2 22 "ShellHeap$Ground" "ys" "[I") (by decide +kernel)
  have w__fieldLink_RX2_31_ShellHeap_Ground_thickness_I_ := hts (.fieldLink RX2 31 "ShellHeap$Ground" "thickness" "[I") (by decide +kernel)
  have hl := lv_entry ([.ref h0, .int p1, .int p2]) (n := 4) (Nat.le_of_ble_eq_true rfl)
  rw [lg_entry_eq]
  generalize (lg_sl ([.ref h0, .int p1, .int p2]) ++ List.replicate (4 - (lg_sl ([.ref h0, .int p1, .int p2])).length) Slot.unset).toArray = ls at hl ⊢
  have hl : lv_has ls 4 [(0, .ref h0), (1, .int p1), (2, .int p2)] := hl
  refine lv_iload_n hx hb dX2_draw_0 rfl (lv_at hl 1 rfl) ?_
  refine lv_if_lt (tgt := 33) hx hb dX2_draw_1 (by decide) (fun c_1 => ?_) (fun c_1 => ?_)
  · have k_2 : (p1).toInt < (0 : Int) := z_lt c_1
    refine lv_iconst (v := (-1)) hx hb dX2_draw_33 (by decide) ?_
    refine W.widen (k := 0) (n := 0) (Nat.le_of_ble_eq_true rfl) (Nat.le_of_ble_eq_true rfl) ?_
    exact W.iret (v := (-1)) hx hb hr (fun t ht hW => ⟨⟨(-1), (), rfl, (by first | (unfold v_column; rw [if_pos (by omega)]) | (unfold v_column; rw [if_neg (by omega)]) | decide), trivial⟩, hS.F ht⟩) hS.2.2 dX2_draw_34
  · have k_3 : (p1).toInt ≥ (0 : Int) := z_nlt c_1
    refine lv_iload_n hx hb dX2_draw_4 rfl (lv_at hl 1 rfl) ?_
    refine lv_aload_n hx hb dX2_draw_5 rfl (lv_at hl 0 rfl) ?_
    refine va_get (D := (dC, dI)) (ci := 2) (v := .int 6) (C := RX2) (T := TX2) (N := 11) hx hb hts hiX2 hown hK hP 0 rfl rfl 0 (by decide) w__fieldLink_RX2_9_ShellHeap_Ground_w_I_ (fun _ h9 => h9) rfl dX2_draw_6 ?_
    refine lv_icmp_ge (tgt := 33) hx hb dX2_draw_9 (by decide) (fun c_4 => ?_) (fun c_4 => ?_)
    · have k_5 : (6 : Int) ≤ (p1).toInt := z_le c_4
      refine lv_iconst (v := (-1)) hx hb dX2_draw_33 (by decide) ?_
      refine W.widen (k := 0) (n := 0) (Nat.le_of_ble_eq_true rfl) (Nat.le_of_ble_eq_true rfl) ?_
      exact W.iret (v := (-1)) hx hb hr (fun t ht hW => ⟨⟨(-1), (), rfl, (by first | (unfold v_column; rw [if_pos (by omega)]) | (unfold v_column; rw [if_neg (by omega)]) | decide), trivial⟩, hS.F ht⟩) hS.2.2 dX2_draw_34
    · have k_6 : (6 : Int) > (p1).toInt := z_nle c_4
      refine lv_iload_n hx hb dX2_draw_12 rfl (lv_at hl 2 rfl) ?_
      refine lv_if_lt (tgt := 33) hx hb dX2_draw_13 (by decide) (fun c_7 => ?_) (fun c_7 => ?_)
      · have k_8 : (p2).toInt < (0 : Int) := z_lt c_7
        refine lv_iconst (v := (-1)) hx hb dX2_draw_33 (by decide) ?_
        refine W.widen (k := 0) (n := 0) (Nat.le_of_ble_eq_true rfl) (Nat.le_of_ble_eq_true rfl) ?_
        exact W.iret (v := (-1)) hx hb hr (fun t ht hW => ⟨⟨(-1), (), rfl, (by first | (unfold v_column; rw [if_pos (by omega)]) | (unfold v_column; rw [if_neg (by omega)]) | decide), trivial⟩, hS.F ht⟩) hS.2.2 dX2_draw_34
      · have k_9 : (p2).toInt ≥ (0 : Int) := z_nlt c_7
        refine lv_iload_n hx hb dX2_draw_16 rfl (lv_at hl 2 rfl) ?_
        refine lv_aload_n hx hb dX2_draw_17 rfl (lv_at hl 0 rfl) ?_
        refine va_get (D := (dC, dI)) (ci := 2) (v := .int 6) (C := RX2) (T := TX2) (N := 11) hx hb hts hiX2 hown hK hP 0 rfl rfl 1 (by decide) w__fieldLink_RX2_15_ShellHeap_Ground_h_I_ (fun _ h9 => h9) rfl dX2_draw_18 ?_
        refine lv_icmp_ge (tgt := 33) hx hb dX2_draw_21 (by decide) (fun c_10 => ?_) (fun c_10 => ?_)
        · have k_11 : (6 : Int) ≤ (p2).toInt := z_le c_10
          refine lv_iconst (v := (-1)) hx hb dX2_draw_33 (by decide) ?_
          refine W.widen (k := 0) (n := 0) (Nat.le_of_ble_eq_true rfl) (Nat.le_of_ble_eq_true rfl) ?_
          exact W.iret (v := (-1)) hx hb hr (fun t ht hW => ⟨⟨(-1), (), rfl, (by first | (unfold v_column; rw [if_pos (by omega)]) | (unfold v_column; rw [if_neg (by omega)]) | decide), trivial⟩, hS.F ht⟩) hS.2.2 dX2_draw_34
        · have k_12 : (6 : Int) > (p2).toInt := z_nle c_10
          refine lv_aload_n hx hb dX2_draw_24 rfl (lv_at hl 0 rfl) ?_
          refine va_get (D := (dC, dI)) (ci := 2) (v := .int 0) (C := RX2) (T := TX2) (N := 11) hx hb hts hiX2 hown hK hP 0 rfl rfl 7 (by decide) w__fieldLink_RX2_34_ShellHeap_Ground_columns_I_ (fun _ h9 => h9) rfl dX2_draw_25 ?_
          refine lv_bipush (v := 10) hx hb dX2_draw_28 (by decide) ?_
          refine lv_icmp_lt (tgt := 35) hx hb dX2_draw_30 (by decide) (fun _ => ?_) (fun c_13 => absurd (by decide) c_13)
          refine lv_iconst (v := 0) hx hb dX2_draw_35 (by decide) ?_
          refine lv_istore_n (lv' := [(3, .int 0), (0, .ref h0), (1, .int p1), (2, .int p2)]) hx hb dX2_draw_36 rfl hl (by decide) rfl (fun ls hl => ?_)
          refine lv_iload_n hx hb dX2_draw_37 rfl (lv_at hl 0 rfl) ?_
          refine lv_aload_n hx hb dX2_draw_38 rfl (lv_at hl 1 rfl) ?_
          refine va_get (D := (dC, dI)) (ci := 2) (v := .int 0) (C := RX2) (T := TX2) (N := 11) hx hb hts hiX2 hown hK hP 0 rfl rfl 7 (by decide) w__fieldLink_RX2_34_ShellHeap_Ground_columns_I_ (fun _ h9 => h9) rfl dX2_draw_39 ?_
          refine lv_icmp_ge (tgt := 73) hx hb dX2_draw_42 (by decide) (fun _ => ?_) (fun c_14 => absurd (by decide) c_14)
          refine lv_aload_n hx hb dX2_draw_73 rfl (lv_at hl 1 rfl) ?_
          refine va_get (D := (dC, dI)) (ci := 2) (v := .ref h1) (C := RX2) (T := TX2) (N := 11) hx hb hts hiX2 hown hK hP 0 rfl rfl 2 (by decide) w__fieldLink_RX2_18_ShellHeap_Ground_xs_I_ (fun _ h9 => h9) rfl dX2_draw_74 ?_
          refine lv_aload_n hx hb dX2_draw_77 rfl (lv_at hl 1 rfl) ?_
          refine va_get (D := (dC, dI)) (ci := 2) (v := .int 0) (C := RX2) (T := TX2) (N := 11) hx hb hts hiX2 hown hK hP 0 rfl rfl 7 (by decide) w__fieldLink_RX2_34_ShellHeap_Ground_columns_I_ (fun _ h9 => h9) rfl dX2_draw_78 ?_
          refine lv_iload_n hx hb dX2_draw_81 rfl (lv_at hl 2 rfl) ?_
          refine va_iast hx hb hK hP hD hS 1 0 rfl rfl (by unfold vp_in; decide) dX2_draw_82 (fun H_15 locs hP hD hS => ?_)
          have hP : va_P (dC, dI) vwCl [(h0, .inr (2, [.int 6, .int 6, .ref h1, .ref h2, h0_4, h0_5, .ref h3, .int 0, h0_8, h0_9, h0_10])), (h1, .inl (ch1, 10, .inl (upd fh1 (0 : Int32).toNatClampNeg p1))), (h2, .inl (ch2, 10, .inl fh2)), (h3, .inl (ch3, 120, .inl fh3))] H_15 := hP
          have hD : va_D A [(h0, .inr (2, [.int 6, .int 6, .ref h1, .ref h2, h0_4, h0_5, .ref h3, .int 0, h0_8, h0_9, h0_10])), (h1, .inl (ch1, 10, .inl (upd fh1 (0 : Int32).toNatClampNeg p1))), (h2, .inl (ch2, 10, .inl fh2)), (h3, .inl (ch3, 120, .inl fh3))] := hD
          generalize (upd fh1 (0 : Int32).toNatClampNeg p1) = f_16 at hP hD
          refine lv_aload_n hx hb dX2_draw_83 rfl (lv_at hl 1 rfl) ?_
          refine va_get (D := (dC, dI)) (ci := 2) (v := .ref h2) (C := RX2) (T := TX2) (N := 11) hx hb hts hiX2 hown hK hP 0 rfl rfl 3 (by decide) w__fieldLink_RX2_22_ShellHeap_Ground_ys_I_ (fun _ h9 => h9) rfl dX2_draw_84 ?_
          refine lv_aload_n hx hb dX2_draw_87 rfl (lv_at hl 1 rfl) ?_
          refine va_get (D := (dC, dI)) (ci := 2) (v := .int 0) (C := RX2) (T := TX2) (N := 11) hx hb hts hiX2 hown hK hP 0 rfl rfl 7 (by decide) w__fieldLink_RX2_34_ShellHeap_Ground_columns_I_ (fun _ h9 => h9) rfl dX2_draw_88 ?_
          refine lv_iload_n hx hb dX2_draw_91 rfl (lv_at hl 3 rfl) ?_
          refine va_iast hx hb hK hP hD hS 2 1 rfl rfl (by unfold vp_in; decide) dX2_draw_92 (fun H_17 locs hP hD hS => ?_)
          have hP : va_P (dC, dI) vwCl [(h0, .inr (2, [.int 6, .int 6, .ref h1, .ref h2, h0_4, h0_5, .ref h3, .int 0, h0_8, h0_9, h0_10])), (h1, .inl (ch1, 10, .inl f_16)), (h2, .inl (ch2, 10, .inl (upd fh2 (0 : Int32).toNatClampNeg p2))), (h3, .inl (ch3, 120, .inl fh3))] H_17 := hP
          have hD : va_D A [(h0, .inr (2, [.int 6, .int 6, .ref h1, .ref h2, h0_4, h0_5, .ref h3, .int 0, h0_8, h0_9, h0_10])), (h1, .inl (ch1, 10, .inl f_16)), (h2, .inl (ch2, 10, .inl (upd fh2 (0 : Int32).toNatClampNeg p2))), (h3, .inl (ch3, 120, .inl fh3))] := hD
          generalize (upd fh2 (0 : Int32).toNatClampNeg p2) = f_18 at hP hD
          refine lv_iconst (v := 0) hx hb dX2_draw_93 (by decide) ?_
          refine lv_istore_n (lv' := [(3, .int 0), (0, .ref h0), (1, .int p1), (2, .int p2)]) hx hb dX2_draw_94 rfl hl (by decide) rfl (fun ls hl => ?_)
          refine lv_iload_n hx hb dX2_draw_95 rfl (lv_at hl 0 rfl) ?_
          refine lv_bipush (v := 12) hx hb dX2_draw_96 (by decide) ?_
          refine lv_icmp_ge (tgt := 122) hx hb dX2_draw_98 (by decide) (fun c_19 => absurd c_19 (by decide)) (fun _ => ?_)
          refine lv_aload_n hx hb dX2_draw_101 rfl (lv_at hl 1 rfl) ?_
          refine va_get (D := (dC, dI)) (ci := 2) (v := .ref h3) (C := RX2) (T := TX2) (N := 11) hx hb hts hiX2 hown hK hP 0 rfl rfl 6 (by decide) w__fieldLink_RX2_31_ShellHeap_Ground_thickness_I_ (fun _ h9 => h9) rfl dX2_draw_102 ?_
          refine lv_aload_n hx hb dX2_draw_105 rfl (lv_at hl 1 rfl) ?_
          refine va_get (D := (dC, dI)) (ci := 2) (v := .int 0) (C := RX2) (T := TX2) (N := 11) hx hb hts hiX2 hown hK hP 0 rfl rfl 7 (by decide) w__fieldLink_RX2_34_ShellHeap_Ground_columns_I_ (fun _ h9 => h9) rfl dX2_draw_106 ?_
          refine lv_bipush (v := 12) hx hb dX2_draw_109 (by decide) ?_
          refine lv_imul hx hb dX2_draw_111 ?_
          refine lv_topi (fun x_20 e_21 => ?_)
          obtain rfl : x_20 = 0 := e_21.trans (by decide)
          refine lv_iload_n hx hb dX2_draw_112 rfl (lv_at hl 0 rfl) ?_
          refine lv_iadd hx hb dX2_draw_113 ?_
          refine lv_topi (fun x_22 e_23 => ?_)
          obtain rfl : x_22 = 0 := e_23.trans (by decide)
          refine lv_iconst (v := 0) hx hb dX2_draw_114 (by decide) ?_
          refine va_iast hx hb hK hP hD hS 3 2 rfl rfl (by unfold vp_in; decide) dX2_draw_115 (fun H_24 locs hP hD hS => ?_)
          have hP : va_P (dC, dI) vwCl [(h0, .inr (2, [.int 6, .int 6, .ref h1, .ref h2, h0_4, h0_5, .ref h3, .int 0, h0_8, h0_9, h0_10])), (h1, .inl (ch1, 10, .inl f_16)), (h2, .inl (ch2, 10, .inl f_18)), (h3, .inl (ch3, 120, .inl (upd fh3 (0 : Int32).toNatClampNeg 0)))] H_24 := hP
          have hD : va_D A [(h0, .inr (2, [.int 6, .int 6, .ref h1, .ref h2, h0_4, h0_5, .ref h3, .int 0, h0_8, h0_9, h0_10])), (h1, .inl (ch1, 10, .inl f_16)), (h2, .inl (ch2, 10, .inl f_18)), (h3, .inl (ch3, 120, .inl (upd fh3 (0 : Int32).toNatClampNeg 0)))] := hD
          generalize (upd fh3 (0 : Int32).toNatClampNeg 0) = f_25 at hP hD
          refine lv_iinc (v := 1) (lv' := [(3, .int 1), (0, .ref h0), (1, .int p1), (2, .int p2)]) hx hb dX2_draw_116 hl (k := 0) rfl (by decide) (by decide) rfl (fun ls hl => ?_)
          refine lv_goto (tgt := 95) hx hb dX2_draw_119 (by decide) ?_
          refine lv_iload_n hx hb dX2_draw_95 rfl (lv_at hl 0 rfl) ?_
          refine lv_bipush (v := 12) hx hb dX2_draw_96 (by decide) ?_
          refine lv_icmp_ge (tgt := 122) hx hb dX2_draw_98 (by decide) (fun c_26 => absurd c_26 (by decide)) (fun _ => ?_)
          refine lv_aload_n hx hb dX2_draw_101 rfl (lv_at hl 1 rfl) ?_
          refine va_get (D := (dC, dI)) (ci := 2) (v := .ref h3) (C := RX2) (T := TX2) (N := 11) hx hb hts hiX2 hown hK hP 0 rfl rfl 6 (by decide) w__fieldLink_RX2_31_ShellHeap_Ground_thickness_I_ (fun _ h9 => h9) rfl dX2_draw_102 ?_
          refine lv_aload_n hx hb dX2_draw_105 rfl (lv_at hl 1 rfl) ?_
          refine va_get (D := (dC, dI)) (ci := 2) (v := .int 0) (C := RX2) (T := TX2) (N := 11) hx hb hts hiX2 hown hK hP 0 rfl rfl 7 (by decide) w__fieldLink_RX2_34_ShellHeap_Ground_columns_I_ (fun _ h9 => h9) rfl dX2_draw_106 ?_
          refine lv_bipush (v := 12) hx hb dX2_draw_109 (by decide) ?_
          refine lv_imul hx hb dX2_draw_111 ?_
          refine lv_topi (fun x_27 e_28 => ?_)
          obtain rfl : x_27 = 0 := e_28.trans (by decide)
          refine lv_iload_n hx hb dX2_draw_112 rfl (lv_at hl 0 rfl) ?_
          refine lv_iadd hx hb dX2_draw_113 ?_
          refine lv_topi (fun x_29 e_30 => ?_)
          obtain rfl : x_29 = 1 := e_30.trans (by decide)
          refine lv_iconst (v := 0) hx hb dX2_draw_114 (by decide) ?_
          refine va_iast hx hb hK hP hD hS 3 2 rfl rfl (by unfold vp_in; decide) dX2_draw_115 (fun H_31 locs hP hD hS => ?_)
          have hP : va_P (dC, dI) vwCl [(h0, .inr (2, [.int 6, .int 6, .ref h1, .ref h2, h0_4, h0_5, .ref h3, .int 0, h0_8, h0_9, h0_10])), (h1, .inl (ch1, 10, .inl f_16)), (h2, .inl (ch2, 10, .inl f_18)), (h3, .inl (ch3, 120, .inl (upd f_25 (1 : Int32).toNatClampNeg 0)))] H_31 := hP
          have hD : va_D A [(h0, .inr (2, [.int 6, .int 6, .ref h1, .ref h2, h0_4, h0_5, .ref h3, .int 0, h0_8, h0_9, h0_10])), (h1, .inl (ch1, 10, .inl f_16)), (h2, .inl (ch2, 10, .inl f_18)), (h3, .inl (ch3, 120, .inl (upd f_25 (1 : Int32).toNatClampNeg 0)))] := hD
          generalize (upd f_25 (1 : Int32).toNatClampNeg 0) = f_32 at hP hD
          refine lv_iinc (v := 2) (lv' := [(3, .int 2), (0, .ref h0), (1, .int p1), (2, .int p2)]) hx hb dX2_draw_116 hl (k := 0) rfl (by decide) (by decide) rfl (fun ls hl => ?_)
          refine lv_goto (tgt := 95) hx hb dX2_draw_119 (by decide) ?_
          refine lv_iload_n hx hb dX2_draw_95 rfl (lv_at hl 0 rfl) ?_
          refine lv_bipush (v := 12) hx hb dX2_draw_96 (by decide) ?_
          refine lv_icmp_ge (tgt := 122) hx hb dX2_draw_98 (by decide) (fun c_33 => absurd c_33 (by decide)) (fun _ => ?_)
          refine lv_aload_n hx hb dX2_draw_101 rfl (lv_at hl 1 rfl) ?_
          refine va_get (D := (dC, dI)) (ci := 2) (v := .ref h3) (C := RX2) (T := TX2) (N := 11) hx hb hts hiX2 hown hK hP 0 rfl rfl 6 (by decide) w__fieldLink_RX2_31_ShellHeap_Ground_thickness_I_ (fun _ h9 => h9) rfl dX2_draw_102 ?_
          refine lv_aload_n hx hb dX2_draw_105 rfl (lv_at hl 1 rfl) ?_
          refine va_get (D := (dC, dI)) (ci := 2) (v := .int 0) (C := RX2) (T := TX2) (N := 11) hx hb hts hiX2 hown hK hP 0 rfl rfl 7 (by decide) w__fieldLink_RX2_34_ShellHeap_Ground_columns_I_ (fun _ h9 => h9) rfl dX2_draw_106 ?_
          refine lv_bipush (v := 12) hx hb dX2_draw_109 (by decide) ?_
          refine lv_imul hx hb dX2_draw_111 ?_
          refine lv_topi (fun x_34 e_35 => ?_)
          obtain rfl : x_34 = 0 := e_35.trans (by decide)
          refine lv_iload_n hx hb dX2_draw_112 rfl (lv_at hl 0 rfl) ?_
          refine lv_iadd hx hb dX2_draw_113 ?_
          refine lv_topi (fun x_36 e_37 => ?_)
          obtain rfl : x_36 = 2 := e_37.trans (by decide)
          refine lv_iconst (v := 0) hx hb dX2_draw_114 (by decide) ?_
          refine va_iast hx hb hK hP hD hS 3 2 rfl rfl (by unfold vp_in; decide) dX2_draw_115 (fun H_38 locs hP hD hS => ?_)
          have hP : va_P (dC, dI) vwCl [(h0, .inr (2, [.int 6, .int 6, .ref h1, .ref h2, h0_4, h0_5, .ref h3, .int 0, h0_8, h0_9, h0_10])), (h1, .inl (ch1, 10, .inl f_16)), (h2, .inl (ch2, 10, .inl f_18)), (h3, .inl (ch3, 120, .inl (upd f_32 (2 : Int32).toNatClampNeg 0)))] H_38 := hP
          have hD : va_D A [(h0, .inr (2, [.int 6, .int 6, .ref h1, .ref h2, h0_4, h0_5, .ref h3, .int 0, h0_8, h0_9, h0_10])), (h1, .inl (ch1, 10, .inl f_16)), (h2, .inl (ch2, 10, .inl f_18)), (h3, .inl (ch3, 120, .inl (upd f_32 (2 : Int32).toNatClampNeg 0)))] := hD
          generalize (upd f_32 (2 : Int32).toNatClampNeg 0) = f_39 at hP hD
          refine lv_iinc (v := 3) (lv' := [(3, .int 3), (0, .ref h0), (1, .int p1), (2, .int p2)]) hx hb dX2_draw_116 hl (k := 0) rfl (by decide) (by decide) rfl (fun ls hl => ?_)
          refine lv_goto (tgt := 95) hx hb dX2_draw_119 (by decide) ?_
          refine lv_iload_n hx hb dX2_draw_95 rfl (lv_at hl 0 rfl) ?_
          refine lv_bipush (v := 12) hx hb dX2_draw_96 (by decide) ?_
          refine lv_icmp_ge (tgt := 122) hx hb dX2_draw_98 (by decide) (fun c_40 => absurd c_40 (by decide)) (fun _ => ?_)
          refine lv_aload_n hx hb dX2_draw_101 rfl (lv_at hl 1 rfl) ?_
          refine va_get (D := (dC, dI)) (ci := 2) (v := .ref h3) (C := RX2) (T := TX2) (N := 11) hx hb hts hiX2 hown hK hP 0 rfl rfl 6 (by decide) w__fieldLink_RX2_31_ShellHeap_Ground_thickness_I_ (fun _ h9 => h9) rfl dX2_draw_102 ?_
          refine lv_aload_n hx hb dX2_draw_105 rfl (lv_at hl 1 rfl) ?_
          refine va_get (D := (dC, dI)) (ci := 2) (v := .int 0) (C := RX2) (T := TX2) (N := 11) hx hb hts hiX2 hown hK hP 0 rfl rfl 7 (by decide) w__fieldLink_RX2_34_ShellHeap_Ground_columns_I_ (fun _ h9 => h9) rfl dX2_draw_106 ?_
          refine lv_bipush (v := 12) hx hb dX2_draw_109 (by decide) ?_
          refine lv_imul hx hb dX2_draw_111 ?_
          refine lv_topi (fun x_41 e_42 => ?_)
          obtain rfl : x_41 = 0 := e_42.trans (by decide)
          refine lv_iload_n hx hb dX2_draw_112 rfl (lv_at hl 0 rfl) ?_
          refine lv_iadd hx hb dX2_draw_113 ?_
          refine lv_topi (fun x_43 e_44 => ?_)
          obtain rfl : x_43 = 3 := e_44.trans (by decide)
          refine lv_iconst (v := 0) hx hb dX2_draw_114 (by decide) ?_
          refine va_iast hx hb hK hP hD hS 3 2 rfl rfl (by unfold vp_in; decide) dX2_draw_115 (fun H_45 locs hP hD hS => ?_)
          have hP : va_P (dC, dI) vwCl [(h0, .inr (2, [.int 6, .int 6, .ref h1, .ref h2, h0_4, h0_5, .ref h3, .int 0, h0_8, h0_9, h0_10])), (h1, .inl (ch1, 10, .inl f_16)), (h2, .inl (ch2, 10, .inl f_18)), (h3, .inl (ch3, 120, .inl (upd f_39 (3 : Int32).toNatClampNeg 0)))] H_45 := hP
          have hD : va_D A [(h0, .inr (2, [.int 6, .int 6, .ref h1, .ref h2, h0_4, h0_5, .ref h3, .int 0, h0_8, h0_9, h0_10])), (h1, .inl (ch1, 10, .inl f_16)), (h2, .inl (ch2, 10, .inl f_18)), (h3, .inl (ch3, 120, .inl (upd f_39 (3 : Int32).toNatClampNeg 0)))] := hD
          generalize (upd f_39 (3 : Int32).toNatClampNeg 0) = f_46 at hP hD
          refine lv_iinc (v := 4) (lv' := [(3, .int 4), (0, .ref h0), (1, .int p1), (2, .int p2)]) hx hb dX2_draw_116 hl (k := 0) rfl (by decide) (by decide) rfl (fun ls hl => ?_)
          refine lv_goto (tgt := 95) hx hb dX2_draw_119 (by decide) ?_
          refine lv_iload_n hx hb dX2_draw_95 rfl (lv_at hl 0 rfl) ?_
          refine lv_bipush (v := 12) hx hb dX2_draw_96 (by decide) ?_
          refine lv_icmp_ge (tgt := 122) hx hb dX2_draw_98 (by decide) (fun c_47 => absurd c_47 (by decide)) (fun _ => ?_)
          refine lv_aload_n hx hb dX2_draw_101 rfl (lv_at hl 1 rfl) ?_
          refine va_get (D := (dC, dI)) (ci := 2) (v := .ref h3) (C := RX2) (T := TX2) (N := 11) hx hb hts hiX2 hown hK hP 0 rfl rfl 6 (by decide) w__fieldLink_RX2_31_ShellHeap_Ground_thickness_I_ (fun _ h9 => h9) rfl dX2_draw_102 ?_
          refine lv_aload_n hx hb dX2_draw_105 rfl (lv_at hl 1 rfl) ?_
          refine va_get (D := (dC, dI)) (ci := 2) (v := .int 0) (C := RX2) (T := TX2) (N := 11) hx hb hts hiX2 hown hK hP 0 rfl rfl 7 (by decide) w__fieldLink_RX2_34_ShellHeap_Ground_columns_I_ (fun _ h9 => h9) rfl dX2_draw_106 ?_
          refine lv_bipush (v := 12) hx hb dX2_draw_109 (by decide) ?_
          refine lv_imul hx hb dX2_draw_111 ?_
          refine lv_topi (fun x_48 e_49 => ?_)
          obtain rfl : x_48 = 0 := e_49.trans (by decide)
          refine lv_iload_n hx hb dX2_draw_112 rfl (lv_at hl 0 rfl) ?_
          refine lv_iadd hx hb dX2_draw_113 ?_
          refine lv_topi (fun x_50 e_51 => ?_)
          obtain rfl : x_50 = 4 := e_51.trans (by decide)
          refine lv_iconst (v := 0) hx hb dX2_draw_114 (by decide) ?_
          refine va_iast hx hb hK hP hD hS 3 2 rfl rfl (by unfold vp_in; decide) dX2_draw_115 (fun H_52 locs hP hD hS => ?_)
          have hP : va_P (dC, dI) vwCl [(h0, .inr (2, [.int 6, .int 6, .ref h1, .ref h2, h0_4, h0_5, .ref h3, .int 0, h0_8, h0_9, h0_10])), (h1, .inl (ch1, 10, .inl f_16)), (h2, .inl (ch2, 10, .inl f_18)), (h3, .inl (ch3, 120, .inl (upd f_46 (4 : Int32).toNatClampNeg 0)))] H_52 := hP
          have hD : va_D A [(h0, .inr (2, [.int 6, .int 6, .ref h1, .ref h2, h0_4, h0_5, .ref h3, .int 0, h0_8, h0_9, h0_10])), (h1, .inl (ch1, 10, .inl f_16)), (h2, .inl (ch2, 10, .inl f_18)), (h3, .inl (ch3, 120, .inl (upd f_46 (4 : Int32).toNatClampNeg 0)))] := hD
          generalize (upd f_46 (4 : Int32).toNatClampNeg 0) = f_53 at hP hD
          refine lv_iinc (v := 5) (lv' := [(3, .int 5), (0, .ref h0), (1, .int p1), (2, .int p2)]) hx hb dX2_draw_116 hl (k := 0) rfl (by decide) (by decide) rfl (fun ls hl => ?_)
          refine lv_goto (tgt := 95) hx hb dX2_draw_119 (by decide) ?_
          refine lv_iload_n hx hb dX2_draw_95 rfl (lv_at hl 0 rfl) ?_
          refine lv_bipush (v := 12) hx hb dX2_draw_96 (by decide) ?_
          refine lv_icmp_ge (tgt := 122) hx hb dX2_draw_98 (by decide) (fun c_54 => absurd c_54 (by decide)) (fun _ => ?_)
          refine lv_aload_n hx hb dX2_draw_101 rfl (lv_at hl 1 rfl) ?_
          refine va_get (D := (dC, dI)) (ci := 2) (v := .ref h3) (C := RX2) (T := TX2) (N := 11) hx hb hts hiX2 hown hK hP 0 rfl rfl 6 (by decide) w__fieldLink_RX2_31_ShellHeap_Ground_thickness_I_ (fun _ h9 => h9) rfl dX2_draw_102 ?_
          refine lv_aload_n hx hb dX2_draw_105 rfl (lv_at hl 1 rfl) ?_
          refine va_get (D := (dC, dI)) (ci := 2) (v := .int 0) (C := RX2) (T := TX2) (N := 11) hx hb hts hiX2 hown hK hP 0 rfl rfl 7 (by decide) w__fieldLink_RX2_34_ShellHeap_Ground_columns_I_ (fun _ h9 => h9) rfl dX2_draw_106 ?_
          refine lv_bipush (v := 12) hx hb dX2_draw_109 (by decide) ?_
          refine lv_imul hx hb dX2_draw_111 ?_
          refine lv_topi (fun x_55 e_56 => ?_)
          obtain rfl : x_55 = 0 := e_56.trans (by decide)
          refine lv_iload_n hx hb dX2_draw_112 rfl (lv_at hl 0 rfl) ?_
          refine lv_iadd hx hb dX2_draw_113 ?_
          refine lv_topi (fun x_57 e_58 => ?_)
          obtain rfl : x_57 = 5 := e_58.trans (by decide)
          refine lv_iconst (v := 0) hx hb dX2_draw_114 (by decide) ?_
          refine va_iast hx hb hK hP hD hS 3 2 rfl rfl (by unfold vp_in; decide) dX2_draw_115 (fun H_59 locs hP hD hS => ?_)
          have hP : va_P (dC, dI) vwCl [(h0, .inr (2, [.int 6, .int 6, .ref h1, .ref h2, h0_4, h0_5, .ref h3, .int 0, h0_8, h0_9, h0_10])), (h1, .inl (ch1, 10, .inl f_16)), (h2, .inl (ch2, 10, .inl f_18)), (h3, .inl (ch3, 120, .inl (upd f_53 (5 : Int32).toNatClampNeg 0)))] H_59 := hP
          have hD : va_D A [(h0, .inr (2, [.int 6, .int 6, .ref h1, .ref h2, h0_4, h0_5, .ref h3, .int 0, h0_8, h0_9, h0_10])), (h1, .inl (ch1, 10, .inl f_16)), (h2, .inl (ch2, 10, .inl f_18)), (h3, .inl (ch3, 120, .inl (upd f_53 (5 : Int32).toNatClampNeg 0)))] := hD
          generalize (upd f_53 (5 : Int32).toNatClampNeg 0) = f_60 at hP hD
          refine lv_iinc (v := 6) (lv' := [(3, .int 6), (0, .ref h0), (1, .int p1), (2, .int p2)]) hx hb dX2_draw_116 hl (k := 0) rfl (by decide) (by decide) rfl (fun ls hl => ?_)
          refine lv_goto (tgt := 95) hx hb dX2_draw_119 (by decide) ?_
          refine lv_iload_n hx hb dX2_draw_95 rfl (lv_at hl 0 rfl) ?_
          refine lv_bipush (v := 12) hx hb dX2_draw_96 (by decide) ?_
          refine lv_icmp_ge (tgt := 122) hx hb dX2_draw_98 (by decide) (fun c_61 => absurd c_61 (by decide)) (fun _ => ?_)
          refine lv_aload_n hx hb dX2_draw_101 rfl (lv_at hl 1 rfl) ?_
          refine va_get (D := (dC, dI)) (ci := 2) (v := .ref h3) (C := RX2) (T := TX2) (N := 11) hx hb hts hiX2 hown hK hP 0 rfl rfl 6 (by decide) w__fieldLink_RX2_31_ShellHeap_Ground_thickness_I_ (fun _ h9 => h9) rfl dX2_draw_102 ?_
          refine lv_aload_n hx hb dX2_draw_105 rfl (lv_at hl 1 rfl) ?_
          refine va_get (D := (dC, dI)) (ci := 2) (v := .int 0) (C := RX2) (T := TX2) (N := 11) hx hb hts hiX2 hown hK hP 0 rfl rfl 7 (by decide) w__fieldLink_RX2_34_ShellHeap_Ground_columns_I_ (fun _ h9 => h9) rfl dX2_draw_106 ?_
          refine lv_bipush (v := 12) hx hb dX2_draw_109 (by decide) ?_
          refine lv_imul hx hb dX2_draw_111 ?_
          refine lv_topi (fun x_62 e_63 => ?_)
          obtain rfl : x_62 = 0 := e_63.trans (by decide)
          refine lv_iload_n hx hb dX2_draw_112 rfl (lv_at hl 0 rfl) ?_
          refine lv_iadd hx hb dX2_draw_113 ?_
          refine lv_topi (fun x_64 e_65 => ?_)
          obtain rfl : x_64 = 6 := e_65.trans (by decide)
          refine lv_iconst (v := 0) hx hb dX2_draw_114 (by decide) ?_
          refine va_iast hx hb hK hP hD hS 3 2 rfl rfl (by unfold vp_in; decide) dX2_draw_115 (fun H_66 locs hP hD hS => ?_)
          have hP : va_P (dC, dI) vwCl [(h0, .inr (2, [.int 6, .int 6, .ref h1, .ref h2, h0_4, h0_5, .ref h3, .int 0, h0_8, h0_9, h0_10])), (h1, .inl (ch1, 10, .inl f_16)), (h2, .inl (ch2, 10, .inl f_18)), (h3, .inl (ch3, 120, .inl (upd f_60 (6 : Int32).toNatClampNeg 0)))] H_66 := hP
          have hD : va_D A [(h0, .inr (2, [.int 6, .int 6, .ref h1, .ref h2, h0_4, h0_5, .ref h3, .int 0, h0_8, h0_9, h0_10])), (h1, .inl (ch1, 10, .inl f_16)), (h2, .inl (ch2, 10, .inl f_18)), (h3, .inl (ch3, 120, .inl (upd f_60 (6 : Int32).toNatClampNeg 0)))] := hD
          generalize (upd f_60 (6 : Int32).toNatClampNeg 0) = f_67 at hP hD
          refine lv_iinc (v := 7) (lv' := [(3, .int 7), (0, .ref h0), (1, .int p1), (2, .int p2)]) hx hb dX2_draw_116 hl (k := 0) rfl (by decide) (by decide) rfl (fun ls hl => ?_)
          refine lv_goto (tgt := 95) hx hb dX2_draw_119 (by decide) ?_
          refine lv_iload_n hx hb dX2_draw_95 rfl (lv_at hl 0 rfl) ?_
          refine lv_bipush (v := 12) hx hb dX2_draw_96 (by decide) ?_
          refine lv_icmp_ge (tgt := 122) hx hb dX2_draw_98 (by decide) (fun c_68 => absurd c_68 (by decide)) (fun _ => ?_)
          refine lv_aload_n hx hb dX2_draw_101 rfl (lv_at hl 1 rfl) ?_
          refine va_get (D := (dC, dI)) (ci := 2) (v := .ref h3) (C := RX2) (T := TX2) (N := 11) hx hb hts hiX2 hown hK hP 0 rfl rfl 6 (by decide) w__fieldLink_RX2_31_ShellHeap_Ground_thickness_I_ (fun _ h9 => h9) rfl dX2_draw_102 ?_
          refine lv_aload_n hx hb dX2_draw_105 rfl (lv_at hl 1 rfl) ?_
          refine va_get (D := (dC, dI)) (ci := 2) (v := .int 0) (C := RX2) (T := TX2) (N := 11) hx hb hts hiX2 hown hK hP 0 rfl rfl 7 (by decide) w__fieldLink_RX2_34_ShellHeap_Ground_columns_I_ (fun _ h9 => h9) rfl dX2_draw_106 ?_
          refine lv_bipush (v := 12) hx hb dX2_draw_109 (by decide) ?_
          refine lv_imul hx hb dX2_draw_111 ?_
          refine lv_topi (fun x_69 e_70 => ?_)
          obtain rfl : x_69 = 0 := e_70.trans (by decide)
          refine lv_iload_n hx hb dX2_draw_112 rfl (lv_at hl 0 rfl) ?_
          refine lv_iadd hx hb dX2_draw_113 ?_
          refine lv_topi (fun x_71 e_72 => ?_)
          obtain rfl : x_71 = 7 := e_72.trans (by decide)
          refine lv_iconst (v := 0) hx hb dX2_draw_114 (by decide) ?_
          refine va_iast hx hb hK hP hD hS 3 2 rfl rfl (by unfold vp_in; decide) dX2_draw_115 (fun H_73 locs hP hD hS => ?_)
          have hP : va_P (dC, dI) vwCl [(h0, .inr (2, [.int 6, .int 6, .ref h1, .ref h2, h0_4, h0_5, .ref h3, .int 0, h0_8, h0_9, h0_10])), (h1, .inl (ch1, 10, .inl f_16)), (h2, .inl (ch2, 10, .inl f_18)), (h3, .inl (ch3, 120, .inl (upd f_67 (7 : Int32).toNatClampNeg 0)))] H_73 := hP
          have hD : va_D A [(h0, .inr (2, [.int 6, .int 6, .ref h1, .ref h2, h0_4, h0_5, .ref h3, .int 0, h0_8, h0_9, h0_10])), (h1, .inl (ch1, 10, .inl f_16)), (h2, .inl (ch2, 10, .inl f_18)), (h3, .inl (ch3, 120, .inl (upd f_67 (7 : Int32).toNatClampNeg 0)))] := hD
          generalize (upd f_67 (7 : Int32).toNatClampNeg 0) = f_74 at hP hD
          refine lv_iinc (v := 8) (lv' := [(3, .int 8), (0, .ref h0), (1, .int p1), (2, .int p2)]) hx hb dX2_draw_116 hl (k := 0) rfl (by decide) (by decide) rfl (fun ls hl => ?_)
          refine lv_goto (tgt := 95) hx hb dX2_draw_119 (by decide) ?_
          refine lv_iload_n hx hb dX2_draw_95 rfl (lv_at hl 0 rfl) ?_
          refine lv_bipush (v := 12) hx hb dX2_draw_96 (by decide) ?_
          refine lv_icmp_ge (tgt := 122) hx hb dX2_draw_98 (by decide) (fun c_75 => absurd c_75 (by decide)) (fun _ => ?_)
          refine lv_aload_n hx hb dX2_draw_101 rfl (lv_at hl 1 rfl) ?_
          refine va_get (D := (dC, dI)) (ci := 2) (v := .ref h3) (C := RX2) (T := TX2) (N := 11) hx hb hts hiX2 hown hK hP 0 rfl rfl 6 (by decide) w__fieldLink_RX2_31_ShellHeap_Ground_thickness_I_ (fun _ h9 => h9) rfl dX2_draw_102 ?_
          refine lv_aload_n hx hb dX2_draw_105 rfl (lv_at hl 1 rfl) ?_
          refine va_get (D := (dC, dI)) (ci := 2) (v := .int 0) (C := RX2) (T := TX2) (N := 11) hx hb hts hiX2 hown hK hP 0 rfl rfl 7 (by decide) w__fieldLink_RX2_34_ShellHeap_Ground_columns_I_ (fun _ h9 => h9) rfl dX2_draw_106 ?_
          refine lv_bipush (v := 12) hx hb dX2_draw_109 (by decide) ?_
          refine lv_imul hx hb dX2_draw_111 ?_
          refine lv_topi (fun x_76 e_77 => ?_)
          obtain rfl : x_76 = 0 := e_77.trans (by decide)
          refine lv_iload_n hx hb dX2_draw_112 rfl (lv_at hl 0 rfl) ?_
          refine lv_iadd hx hb dX2_draw_113 ?_
          refine lv_topi (fun x_78 e_79 => ?_)
          obtain rfl : x_78 = 8 := e_79.trans (by decide)
          refine lv_iconst (v := 0) hx hb dX2_draw_114 (by decide) ?_
          refine va_iast hx hb hK hP hD hS 3 2 rfl rfl (by unfold vp_in; decide) dX2_draw_115 (fun H_80 locs hP hD hS => ?_)
          have hP : va_P (dC, dI) vwCl [(h0, .inr (2, [.int 6, .int 6, .ref h1, .ref h2, h0_4, h0_5, .ref h3, .int 0, h0_8, h0_9, h0_10])), (h1, .inl (ch1, 10, .inl f_16)), (h2, .inl (ch2, 10, .inl f_18)), (h3, .inl (ch3, 120, .inl (upd f_74 (8 : Int32).toNatClampNeg 0)))] H_80 := hP
          have hD : va_D A [(h0, .inr (2, [.int 6, .int 6, .ref h1, .ref h2, h0_4, h0_5, .ref h3, .int 0, h0_8, h0_9, h0_10])), (h1, .inl (ch1, 10, .inl f_16)), (h2, .inl (ch2, 10, .inl f_18)), (h3, .inl (ch3, 120, .inl (upd f_74 (8 : Int32).toNatClampNeg 0)))] := hD
          generalize (upd f_74 (8 : Int32).toNatClampNeg 0) = f_81 at hP hD
          refine lv_iinc (v := 9) (lv' := [(3, .int 9), (0, .ref h0), (1, .int p1), (2, .int p2)]) hx hb dX2_draw_116 hl (k := 0) rfl (by decide) (by decide) rfl (fun ls hl => ?_)
          refine lv_goto (tgt := 95) hx hb dX2_draw_119 (by decide) ?_
          refine lv_iload_n hx hb dX2_draw_95 rfl (lv_at hl 0 rfl) ?_
          refine lv_bipush (v := 12) hx hb dX2_draw_96 (by decide) ?_
          refine lv_icmp_ge (tgt := 122) hx hb dX2_draw_98 (by decide) (fun c_82 => absurd c_82 (by decide)) (fun _ => ?_)
          refine lv_aload_n hx hb dX2_draw_101 rfl (lv_at hl 1 rfl) ?_
          refine va_get (D := (dC, dI)) (ci := 2) (v := .ref h3) (C := RX2) (T := TX2) (N := 11) hx hb hts hiX2 hown hK hP 0 rfl rfl 6 (by decide) w__fieldLink_RX2_31_ShellHeap_Ground_thickness_I_ (fun _ h9 => h9) rfl dX2_draw_102 ?_
          refine lv_aload_n hx hb dX2_draw_105 rfl (lv_at hl 1 rfl) ?_
          refine va_get (D := (dC, dI)) (ci := 2) (v := .int 0) (C := RX2) (T := TX2) (N := 11) hx hb hts hiX2 hown hK hP 0 rfl rfl 7 (by decide) w__fieldLink_RX2_34_ShellHeap_Ground_columns_I_ (fun _ h9 => h9) rfl dX2_draw_106 ?_
          refine lv_bipush (v := 12) hx hb dX2_draw_109 (by decide) ?_
          refine lv_imul hx hb dX2_draw_111 ?_
          refine lv_topi (fun x_83 e_84 => ?_)
          obtain rfl : x_83 = 0 := e_84.trans (by decide)
          refine lv_iload_n hx hb dX2_draw_112 rfl (lv_at hl 0 rfl) ?_
          refine lv_iadd hx hb dX2_draw_113 ?_
          refine lv_topi (fun x_85 e_86 => ?_)
          obtain rfl : x_85 = 9 := e_86.trans (by decide)
          refine lv_iconst (v := 0) hx hb dX2_draw_114 (by decide) ?_
          refine va_iast hx hb hK hP hD hS 3 2 rfl rfl (by unfold vp_in; decide) dX2_draw_115 (fun H_87 locs hP hD hS => ?_)
          have hP : va_P (dC, dI) vwCl [(h0, .inr (2, [.int 6, .int 6, .ref h1, .ref h2, h0_4, h0_5, .ref h3, .int 0, h0_8, h0_9, h0_10])), (h1, .inl (ch1, 10, .inl f_16)), (h2, .inl (ch2, 10, .inl f_18)), (h3, .inl (ch3, 120, .inl (upd f_81 (9 : Int32).toNatClampNeg 0)))] H_87 := hP
          have hD : va_D A [(h0, .inr (2, [.int 6, .int 6, .ref h1, .ref h2, h0_4, h0_5, .ref h3, .int 0, h0_8, h0_9, h0_10])), (h1, .inl (ch1, 10, .inl f_16)), (h2, .inl (ch2, 10, .inl f_18)), (h3, .inl (ch3, 120, .inl (upd f_81 (9 : Int32).toNatClampNeg 0)))] := hD
          generalize (upd f_81 (9 : Int32).toNatClampNeg 0) = f_88 at hP hD
          refine lv_iinc (v := 10) (lv' := [(3, .int 10), (0, .ref h0), (1, .int p1), (2, .int p2)]) hx hb dX2_draw_116 hl (k := 0) rfl (by decide) (by decide) rfl (fun ls hl => ?_)
          refine lv_goto (tgt := 95) hx hb dX2_draw_119 (by decide) ?_
          refine lv_iload_n hx hb dX2_draw_95 rfl (lv_at hl 0 rfl) ?_
          refine lv_bipush (v := 12) hx hb dX2_draw_96 (by decide) ?_
          refine lv_icmp_ge (tgt := 122) hx hb dX2_draw_98 (by decide) (fun c_89 => absurd c_89 (by decide)) (fun _ => ?_)
          refine lv_aload_n hx hb dX2_draw_101 rfl (lv_at hl 1 rfl) ?_
          refine va_get (D := (dC, dI)) (ci := 2) (v := .ref h3) (C := RX2) (T := TX2) (N := 11) hx hb hts hiX2 hown hK hP 0 rfl rfl 6 (by decide) w__fieldLink_RX2_31_ShellHeap_Ground_thickness_I_ (fun _ h9 => h9) rfl dX2_draw_102 ?_
          refine lv_aload_n hx hb dX2_draw_105 rfl (lv_at hl 1 rfl) ?_
          refine va_get (D := (dC, dI)) (ci := 2) (v := .int 0) (C := RX2) (T := TX2) (N := 11) hx hb hts hiX2 hown hK hP 0 rfl rfl 7 (by decide) w__fieldLink_RX2_34_ShellHeap_Ground_columns_I_ (fun _ h9 => h9) rfl dX2_draw_106 ?_
          refine lv_bipush (v := 12) hx hb dX2_draw_109 (by decide) ?_
          refine lv_imul hx hb dX2_draw_111 ?_
          refine lv_topi (fun x_90 e_91 => ?_)
          obtain rfl : x_90 = 0 := e_91.trans (by decide)
          refine lv_iload_n hx hb dX2_draw_112 rfl (lv_at hl 0 rfl) ?_
          refine lv_iadd hx hb dX2_draw_113 ?_
          refine lv_topi (fun x_92 e_93 => ?_)
          obtain rfl : x_92 = 10 := e_93.trans (by decide)
          refine lv_iconst (v := 0) hx hb dX2_draw_114 (by decide) ?_
          refine va_iast hx hb hK hP hD hS 3 2 rfl rfl (by unfold vp_in; decide) dX2_draw_115 (fun H_94 locs hP hD hS => ?_)
          have hP : va_P (dC, dI) vwCl [(h0, .inr (2, [.int 6, .int 6, .ref h1, .ref h2, h0_4, h0_5, .ref h3, .int 0, h0_8, h0_9, h0_10])), (h1, .inl (ch1, 10, .inl f_16)), (h2, .inl (ch2, 10, .inl f_18)), (h3, .inl (ch3, 120, .inl (upd f_88 (10 : Int32).toNatClampNeg 0)))] H_94 := hP
          have hD : va_D A [(h0, .inr (2, [.int 6, .int 6, .ref h1, .ref h2, h0_4, h0_5, .ref h3, .int 0, h0_8, h0_9, h0_10])), (h1, .inl (ch1, 10, .inl f_16)), (h2, .inl (ch2, 10, .inl f_18)), (h3, .inl (ch3, 120, .inl (upd f_88 (10 : Int32).toNatClampNeg 0)))] := hD
          generalize (upd f_88 (10 : Int32).toNatClampNeg 0) = f_95 at hP hD
          refine lv_iinc (v := 11) (lv' := [(3, .int 11), (0, .ref h0), (1, .int p1), (2, .int p2)]) hx hb dX2_draw_116 hl (k := 0) rfl (by decide) (by decide) rfl (fun ls hl => ?_)
          refine lv_goto (tgt := 95) hx hb dX2_draw_119 (by decide) ?_
          refine lv_iload_n hx hb dX2_draw_95 rfl (lv_at hl 0 rfl) ?_
          refine lv_bipush (v := 12) hx hb dX2_draw_96 (by decide) ?_
          refine lv_icmp_ge (tgt := 122) hx hb dX2_draw_98 (by decide) (fun c_96 => absurd c_96 (by decide)) (fun _ => ?_)
          refine lv_aload_n hx hb dX2_draw_101 rfl (lv_at hl 1 rfl) ?_
          refine va_get (D := (dC, dI)) (ci := 2) (v := .ref h3) (C := RX2) (T := TX2) (N := 11) hx hb hts hiX2 hown hK hP 0 rfl rfl 6 (by decide) w__fieldLink_RX2_31_ShellHeap_Ground_thickness_I_ (fun _ h9 => h9) rfl dX2_draw_102 ?_
          refine lv_aload_n hx hb dX2_draw_105 rfl (lv_at hl 1 rfl) ?_
          refine va_get (D := (dC, dI)) (ci := 2) (v := .int 0) (C := RX2) (T := TX2) (N := 11) hx hb hts hiX2 hown hK hP 0 rfl rfl 7 (by decide) w__fieldLink_RX2_34_ShellHeap_Ground_columns_I_ (fun _ h9 => h9) rfl dX2_draw_106 ?_
          refine lv_bipush (v := 12) hx hb dX2_draw_109 (by decide) ?_
          refine lv_imul hx hb dX2_draw_111 ?_
          refine lv_topi (fun x_97 e_98 => ?_)
          obtain rfl : x_97 = 0 := e_98.trans (by decide)
          refine lv_iload_n hx hb dX2_draw_112 rfl (lv_at hl 0 rfl) ?_
          refine lv_iadd hx hb dX2_draw_113 ?_
          refine lv_topi (fun x_99 e_100 => ?_)
          obtain rfl : x_99 = 11 := e_100.trans (by decide)
          refine lv_iconst (v := 0) hx hb dX2_draw_114 (by decide) ?_
          refine va_iast hx hb hK hP hD hS 3 2 rfl rfl (by unfold vp_in; decide) dX2_draw_115 (fun H_101 locs hP hD hS => ?_)
          have hP : va_P (dC, dI) vwCl [(h0, .inr (2, [.int 6, .int 6, .ref h1, .ref h2, h0_4, h0_5, .ref h3, .int 0, h0_8, h0_9, h0_10])), (h1, .inl (ch1, 10, .inl f_16)), (h2, .inl (ch2, 10, .inl f_18)), (h3, .inl (ch3, 120, .inl (upd f_95 (11 : Int32).toNatClampNeg 0)))] H_101 := hP
          have hD : va_D A [(h0, .inr (2, [.int 6, .int 6, .ref h1, .ref h2, h0_4, h0_5, .ref h3, .int 0, h0_8, h0_9, h0_10])), (h1, .inl (ch1, 10, .inl f_16)), (h2, .inl (ch2, 10, .inl f_18)), (h3, .inl (ch3, 120, .inl (upd f_95 (11 : Int32).toNatClampNeg 0)))] := hD
          generalize (upd f_95 (11 : Int32).toNatClampNeg 0) = f_102 at hP hD
          refine lv_iinc (v := 12) (lv' := [(3, .int 12), (0, .ref h0), (1, .int p1), (2, .int p2)]) hx hb dX2_draw_116 hl (k := 0) rfl (by decide) (by decide) rfl (fun ls hl => ?_)
          refine lv_goto (tgt := 95) hx hb dX2_draw_119 (by decide) ?_
          refine lv_iload_n hx hb dX2_draw_95 rfl (lv_at hl 0 rfl) ?_
          refine lv_bipush (v := 12) hx hb dX2_draw_96 (by decide) ?_
          refine lv_icmp_ge (tgt := 122) hx hb dX2_draw_98 (by decide) (fun _ => ?_) (fun c_103 => absurd (by decide) c_103)
          refine lv_aload_n hx hb dX2_draw_122 rfl (lv_at hl 1 rfl) ?_
          refine lv_dup hx hb dX2_draw_123 rfl ?_
          refine va_get (D := (dC, dI)) (ci := 2) (v := .int 0) (C := RX2) (T := TX2) (N := 11) hx hb hts hiX2 hown hK hP 0 rfl rfl 7 (by decide) w__fieldLink_RX2_34_ShellHeap_Ground_columns_I_ (fun _ h9 => h9) rfl dX2_draw_124 ?_
          refine lv_iconst (v := 1) hx hb dX2_draw_127 (by decide) ?_
          refine lv_iadd hx hb dX2_draw_128 ?_
          refine lv_topi (fun x_104 e_105 => ?_)
          obtain rfl : x_104 = 1 := e_105.trans (by decide)
          refine va_put (D := (dC, dI)) (ci := 2) (v := .int 1) (ty := .int) (C := RX2) (T := TX2) (N := 11) hx hb hts hiX2 tyX2 tyX2_ok nmX2 hown hK hP hD hS 0 rfl rfl 7 (by decide) w__fieldLink_RX2_34_ShellHeap_Ground_columns_I_ (fun _ h9 => h9) rfl (by decide +kernel) rfl rfl (Nat.le_of_ble_eq_true rfl) dX2_draw_129 (fun H_106 locs hP hD hS => ?_)
          have hP : va_P (dC, dI) vwCl [(h0, .inr (2, [.int 6, .int 6, .ref h1, .ref h2, h0_4, h0_5, .ref h3, .int 1, h0_8, h0_9, h0_10])), (h1, .inl (ch1, 10, .inl f_16)), (h2, .inl (ch2, 10, .inl f_18)), (h3, .inl (ch3, 120, .inl f_102))] H_106 := hP
          have hD : va_D A [(h0, .inr (2, [.int 6, .int 6, .ref h1, .ref h2, h0_4, h0_5, .ref h3, .int 1, h0_8, h0_9, h0_10])), (h1, .inl (ch1, 10, .inl f_16)), (h2, .inl (ch2, 10, .inl f_18)), (h3, .inl (ch3, 120, .inl f_102))] := hD
          refine lv_aload_n hx hb dX2_draw_132 rfl (lv_at hl 1 rfl) ?_
          refine va_get (D := (dC, dI)) (ci := 2) (v := .int 1) (C := RX2) (T := TX2) (N := 11) hx hb hts hiX2 hown hK hP 0 rfl rfl 7 (by decide) w__fieldLink_RX2_34_ShellHeap_Ground_columns_I_ (fun _ h9 => h9) rfl dX2_draw_133 ?_
          refine lv_iconst (v := 1) hx hb dX2_draw_136 (by decide) ?_
          refine lv_isub hx hb dX2_draw_137 ?_
          refine lv_topi (fun x_107 e_108 => ?_)
          obtain rfl : x_107 = 0 := e_108.trans (by decide)
          refine W.widen (k := 0) (n := 0) (Nat.le_of_ble_eq_true rfl) (Nat.le_of_ble_eq_true rfl) ?_
          exact W.iret (v := 0) hx hb hr (fun t ht hW => ⟨⟨0, (), rfl, (by first | (unfold v_column; rw [if_pos (by omega)]) | (unfold v_column; rw [if_neg (by omega)]) | decide), trivial⟩, hS.F ht⟩) hS.2.2 dX2_draw_138
def u_c_X11_column : List Cond := .code yX11_column cX11_column 3 (some .int) :: ([.fieldLink RX11 35 "ShellHeap" "ground" "LShellHeap$Ground;", .methodLink RX11 177 yX2_draw, .instanceMethod yX2_draw, .selects RX2 yX2_draw yX2_draw, .initialized RX2, .code yX2_draw cX2_draw 4 (some .int), .fieldLink RX2 9 "ShellHeap$Ground" "w" "I", .fieldLink RX2 15 "ShellHeap$Ground" "h" "I", .fieldLink RX2 34 "ShellHeap$Ground" "columns" "I", .fieldLink RX2 18 "ShellHeap$Ground" "xs" "[I", .fieldLink RX2 22 "ShellHeap$Ground" "ys" "[I", .fieldLink RX2 31 "ShellHeap$Ground" "thickness" "[I"] ++ wsX110 ++ wsX20)
set_option maxRecDepth 20000 in
theorem gw_c_X11_column_c_X2_draw_177 : GoodIn u_c_X11_column (wsV RX11 177 RX2 yX2_draw u_c_X2_draw) := goodIn_r _ [2, 3, 4, 5, 6, 7, 8, 9, 10, 11, 12, 23, 24, 25, 26, 27, 28, 29, 30, 31, 32, 33] (by decide +kernel) (by decide +kernel)
set_option maxHeartbeats 4000000 in
set_option maxRecDepth 100000 in
theorem c_X11_column (l : Launch) (dC : Nat → ClassId) (dI : Nat → Nat → Nat) (sz : Nat) (h0 : Nat) (p1 : Int32) (p2 : Int32) (h0_0 : Value) (h0_1 : Value) (h0_2 : Value) (h1 : Nat) (h0_4 : Value) (h0_5 : Value) (h0_6 : Value) (h0_7 : Value) (h0_8 : Value) (h0_9 : Value) (h2 : Nat) (h3 : Nat) (h1_4 : Value) (h1_5 : Value) (h4 : Nat) (h1_8 : Value) (h1_9 : Value) (h1_10 : Value) (ch2 : ClassId) (fh2 : Nat → Int32) (ch3 : ClassId) (fh3 : Nat → Int32) (ch4 : ClassId) (fh4 : Nat → Int32) : Met l yX11_column u_c_X11_column ({ frames := 1, cells := 0, slots := 0, locals := 23 }) (va_Pc [.ref h0, .int p1, .int p2] (z_C (dC, dI) vwCl [(h0, .inr (11, [h0_0, h0_1, h0_2, .ref h1, h0_4, h0_5, h0_6, h0_7, h0_8, h0_9])), (h1, .inr (2, [.int 6, .int 6, .ref h2, .ref h3, h1_4, h1_5, .ref h4, .int 0, h1_8, h1_9, h1_10])), (h2, .inl (ch2, 10, .inl fh2)), (h3, .inl (ch3, 10, .inl fh3)), (h4, .inl (ch4, 120, .inl fh4))] [(ch2, .int), (ch3, .int), (ch4, .int)] sz)) (va_Qi (fun (r : Int32) (_ : Unit) => r = v_column p1 p2) (fun (_ : Unit) (_ : State) => True) (va_A [(h0, .inr (11, [h0_0, h0_1, h0_2, .ref h1, h0_4, h0_5, h0_6, h0_7, h0_8, h0_9])), (h1, .inr (2, [.int 6, .int 6, .ref h2, .ref h3, h1_4, h1_5, .ref h4, .int 0, h1_8, h1_9, h1_10])), (h2, .inl (ch2, 10, .inl fh2)), (h3, .inl (ch3, 10, .inl fh3)), (h4, .inl (ch4, 120, .inl fh4))] sz)) 0 0 (va_A [(h0, .inr (11, [h0_0, h0_1, h0_2, .ref h1, h0_4, h0_5, h0_6, h0_7, h0_8, h0_9])), (h1, .inr (2, [.int 6, .int 6, .ref h2, .ref h3, h1_4, h1_5, .ref h4, .int 0, h1_8, h1_9, h1_10])), (h2, .inl (ch2, 10, .inl fh2)), (h3, .inl (ch3, 10, .inl fh3)), (h4, .inl (ch4, 120, .inl fh4))] sz) := by
  refine Met.ofW (cc := cX11_column) (maxL := 3) (ret := (some .int)) (by decide) rfl ?_
  intro p e s m args below meth c s₁ B hml hv
  obtain ⟨rfl, hsz, hP, hK, hD0⟩ := hv
  have hx := B.exec
  have hb := B.bytes
  have hr := B.returns
  have hts := atoms_spec (ws := u_c_X11_column) B.pre
  have hown : s.vm.findClass RX11 = some m.cls := findClass_of_methodNamed B.named
  have hlocks := B.notSynchronized
  subst hsz
  have hD := hD0.self (sz := s.heap.size)
  generalize hAe : va_A [(h0, .inr (11, [h0_0, h0_1, h0_2, .ref h1, h0_4, h0_5, h0_6, h0_7, h0_8, h0_9])), (h1, .inr (2, [.int 6, .int 6, .ref h2, .ref h3, h1_4, h1_5, .ref h4, .int 0, h1_8, h1_9, h1_10])), (h2, .inl (ch2, 10, .inl fh2)), (h3, .inl (ch3, 10, .inl fh3)), (h4, .inl (ch4, 120, .inl fh4))] s.heap.size = A at hD ⊢
  have hA : ∀ q : Nat, s.heap.size ≤ q → A q := fun q h => by rw [← hAe]; exact Or.inr h
  have hS : va_S A s.heap s.heap [] := va_S.rf
  have hP : va_P (dC, dI) vwCl [(h0, .inr (11, [h0_0, h0_1, h0_2, .ref h1, h0_4, h0_5, h0_6, h0_7, h0_8, h0_9])), (h1, .inr (2, [.int 6, .int 6, .ref h2, .ref h3, h1_4, h1_5, .ref h4, .int 0, h1_8, h1_9, h1_10])), (h2, .inl (ch2, 10, .inl fh2)), (h3, .inl (ch3, 10, .inl fh3)), (h4, .inl (ch4, 120, .inl fh4))] s.heap := hP
  have w__fieldLink_RX11_35_ShellHeap_ground_LShellHeap_Ground_ := hts (.fieldLink RX11 35 "ShellHeap" "ground" "LShellHeap$Ground;") (by decide +kernel)
  have hiX11 := show ∀ w ∈ u_ws RX11 TX11 10, w ∈ u_c_X11_column by decide +kernel
  have hl := lv_entry ([.ref h0, .int p1, .int p2]) (n := 3) (Nat.le_of_ble_eq_true rfl)
  rw [lg_entry_eq]
  generalize (lg_sl ([.ref h0, .int p1, .int p2]) ++ List.replicate (3 - (lg_sl ([.ref h0, .int p1, .int p2])).length) Slot.unset).toArray = ls at hl ⊢
  have hl : lv_has ls 3 [(0, .ref h0), (1, .int p1), (2, .int p2)] := hl
  refine lv_aload_n hx hb dX11_column_0 rfl (lv_at hl 0 rfl) ?_
  refine va_get (D := (dC, dI)) (ci := 11) (v := .ref h1) (C := RX11) (T := TX11) (N := 10) hx hb hts hiX11 hown hK hP 0 rfl rfl 3 (by decide) w__fieldLink_RX11_35_ShellHeap_ground_LShellHeap_Ground_ (fun _ h9 => h9) rfl dX11_column_1 ?_
  refine lv_iload_n hx hb dX11_column_4 rfl (lv_at hl 1 rfl) ?_
  refine lv_iload_n hx hb dX11_column_5 rfl (lv_at hl 2 rfl) ?_
  have hPc := hP.sub (ws' := [(h1, .inr (2, [.int 6, .int 6, .ref h2, .ref h3, h1_4, h1_5, .ref h4, .int 0, h1_8, h1_9, h1_10])), (h2, .inl (ch2, 10, .inl fh2)), (h3, .inl (ch3, 10, .inl fh3)), (h4, .inl (ch4, 120, .inl fh4))]) [1, 2, 3, 4] rfl
  have hDc := hD.sub (ws' := [(h1, .inr (2, [.int 6, .int 6, .ref h2, .ref h3, h1_4, h1_5, .ref h4, .int 0, h1_8, h1_9, h1_10])), (h2, .inl (ch2, 10, .inl fh2)), (h3, .inl (ch3, 10, .inl fh3)), (h4, .inl (ch4, 120, .inl fh4))]) [1, 2, 3, 4] (by decide) rfl
  have hKc := hK.sub (tys' := [(ch2, .int), (ch3, .int), (ch4, .int)]) [0, 1, 2] rfl
  have hFc := va_free (wc := [(h1, .inr (2, [.int 6, .int 6, .ref h2, .ref h3, h1_4, h1_5, .ref h4, .int 0, h1_8, h1_9, h1_10])), (h2, .inl (ch2, 10, .inl fh2)), (h3, .inl (ch3, 10, .inl fh3)), (h4, .inl (ch4, 120, .inl fh4))]) hD hS hA [1, 2, 3, 4] rfl
  refine va_calli (va_runV (As := [.int p1, .int p2]) (rest := []) ⟨hx, hb, hml, hown, hts⟩ (c_X2_draw l dC dI s.heap.size h1 p1 p2 h2 h3 h1_4 h1_5 h4 h1_8 h1_9 h1_10 ch2 fh2 ch3 fh3 ch4 fh4) (cwV 2 hts gw_c_X11_column_c_X2_draw_177 rfl rfl rfl (by decide +kernel) ⟨Nat.le_of_ble_eq_true rfl, Nat.le_of_ble_eq_true rfl⟩) ⟨z_blind, va_recv hKc hPc (ci := 2) (q0 := 0) rfl rfl, z_pre hPc hKc hDc⟩ rfl rfl hl.1 rfl (lv_room (Nat.le_of_ble_eq_true rfl)) dX11_column_6 ⟨Nat.le_of_ble_eq_true rfl, Nat.le_of_ble_eq_true rfl⟩) hS (fun q _ h => hFc q h) hFc (fun r_2 u t H_1 locs ht hvm hw_3 hB hz1 hk1 hS => ?_)
  obtain ⟨hP, hD⟩ := va_join (wr := [(h0, .inr (11, [h0_0, h0_1, h0_2, .ref h1, h0_4, h0_5, h0_6, h0_7, h0_8, h0_9]))]) (w1 := []) hP hD [1, 2, 3, 4] [0] rfl rfl (by decide) (by decide) hk1 hFc (z_P0 _) (z_D0 _)
  have hP : va_P (dC, dI) vwCl [(h0, .inr (11, [h0_0, h0_1, h0_2, .ref h1, h0_4, h0_5, h0_6, h0_7, h0_8, h0_9]))] H_1 := hP
  have hD : va_D A [(h0, .inr (11, [h0_0, h0_1, h0_2, .ref h1, h0_4, h0_5, h0_6, h0_7, h0_8, h0_9]))] := hD
  clear hPc hDc hKc
  refine W.widen (k := 0) (n := 0) (Nat.le_of_ble_eq_true rfl) (Nat.le_of_ble_eq_true rfl) ?_
  exact W.iret (v := r_2) hx hb hr (fun t ht hW => ⟨⟨r_2, (), rfl, hw_3, trivial⟩, hS.F ht⟩) hS.2.2 dX11_column_9
def u_c_X5_name : List Cond := .code yX5_name cX5_name 4 (some .int) :: ([.fieldLink RX5 41 "ShellHeap$Pantry" "kinds" "I", .fieldLink RX5 11 "ShellHeap$Pantry" "meats" "[I", .fieldLink RX5 15 "ShellHeap$Pantry" "valvesOf" "[I", .fieldLink RX5 25 "ShellHeap$Pantry" "keeps" "[I"] ++ wsX50)
set_option maxHeartbeats 4000000 in
set_option maxRecDepth 100000 in
theorem c_X5_name (l : Launch) (dC : Nat → ClassId) (dI : Nat → Nat → Nat) (sz : Nat) (h0 : Nat) (p1 : Int32) (p2 : Int32) (h1 : Nat) (h2 : Nat) (h0_2 : Value) (h0_3 : Value) (h3 : Nat) (h0_5 : Value) (h0_6 : Value) (h0_7 : Value) (h0_8 : Value) (ch1 : ClassId) (fh1 : Nat → Int32) (ch2 : ClassId) (fh2 : Nat → Int32) (ch3 : ClassId) (fh3 : Nat → Int32) : Met l yX5_name u_c_X5_name ({ frames := 0, cells := 0, slots := 0, locals := 0 }) (va_Pc [.ref h0, .int p1, .int p2] (z_C (dC, dI) vwCl [(h0, .inr (5, [.ref h1, .ref h2, h0_2, h0_3, .ref h3, h0_5, h0_6, h0_7, h0_8, .int 0])), (h1, .inl (ch1, 6, .inl fh1)), (h2, .inl (ch2, 6, .inl fh2)), (h3, .inl (ch3, 24, .inl fh3))] [(ch1, .int), (ch2, .int), (ch3, .int)] sz)) (va_Qi (fun (r : Int32) (_ : Unit) => r = v_kind p1 p2) (fun (_ : Unit) (_ : State) => True) (va_A [(h0, .inr (5, [.ref h1, .ref h2, h0_2, h0_3, .ref h3, h0_5, h0_6, h0_7, h0_8, .int 0])), (h1, .inl (ch1, 6, .inl fh1)), (h2, .inl (ch2, 6, .inl fh2)), (h3, .inl (ch3, 24, .inl fh3))] sz)) 0 0 (va_A [(h0, .inr (5, [.ref h1, .ref h2, h0_2, h0_3, .ref h3, h0_5, h0_6, h0_7, h0_8, .int 0])), (h1, .inl (ch1, 6, .inl fh1)), (h2, .inl (ch2, 6, .inl fh2)), (h3, .inl (ch3, 24, .inl fh3))] sz) := by
  refine Met.ofW (cc := cX5_name) (maxL := 4) (ret := (some .int)) (by decide) rfl ?_
  intro p e s m args below meth c s₁ B hml hv
  obtain ⟨rfl, hsz, hP, hK, hD0⟩ := hv
  have hx := B.exec
  have hb := B.bytes
  have hr := B.returns
  have hts := atoms_spec (ws := u_c_X5_name) B.pre
  have hown : s.vm.findClass RX5 = some m.cls := findClass_of_methodNamed B.named
  have hlocks := B.notSynchronized
  subst hsz
  have hD := hD0.self (sz := s.heap.size)
  generalize hAe : va_A [(h0, .inr (5, [.ref h1, .ref h2, h0_2, h0_3, .ref h3, h0_5, h0_6, h0_7, h0_8, .int 0])), (h1, .inl (ch1, 6, .inl fh1)), (h2, .inl (ch2, 6, .inl fh2)), (h3, .inl (ch3, 24, .inl fh3))] s.heap.size = A at hD ⊢
  have hA : ∀ q : Nat, s.heap.size ≤ q → A q := fun q h => by rw [← hAe]; exact Or.inr h
  have hS : va_S A s.heap s.heap [] := va_S.rf
  have hP : va_P (dC, dI) vwCl [(h0, .inr (5, [.ref h1, .ref h2, h0_2, h0_3, .ref h3, h0_5, h0_6, h0_7, h0_8, .int 0])), (h1, .inl (ch1, 6, .inl fh1)), (h2, .inl (ch2, 6, .inl fh2)), (h3, .inl (ch3, 24, .inl fh3))] s.heap := hP
  have w__fieldLink_RX5_41_ShellHeap_Pantry_kinds_I_ := hts (.fieldLink RX5 41 "ShellHeap$Pantry" "kinds" "I") (by decide +kernel)
  have hiX5 := show ∀ w ∈ u_ws RX5 TX5 10, w ∈ u_c_X5_name by decide +kernel
  have w__fieldLink_RX5_11_ShellHeap_Pantry_meats_I_ := hts (.fieldLink RX5 11 "ShellHeap$Pantry" "meats" "[I") (by decide +kernel)
  have w__fieldLink_RX5_15_ShellHeap_Pantry_valvesOf_I_ := hts (.fieldLink RX5 15 "ShellHeap$Pantry" "valvesOf" "[I") (by decide +kernel)
  have w__fieldLink_RX5_25_ShellHeap_Pantry_keeps_I_ := hts (.fieldLink RX5 25 "ShellHeap$Pantry" "keeps" "[I") (by decide +kernel)
  have hl := lv_entry ([.ref h0, .int p1, .int p2]) (n := 4) (Nat.le_of_ble_eq_true rfl)
  rw [lg_entry_eq]
  generalize (lg_sl ([.ref h0, .int p1, .int p2]) ++ List.replicate (4 - (lg_sl ([.ref h0, .int p1, .int p2])).length) Slot.unset).toArray = ls at hl ⊢
  have hl : lv_has ls 4 [(0, .ref h0), (1, .int p1), (2, .int p2)] := hl
  refine lv_iload_n hx hb dX5_name_0 rfl (lv_at hl 1 rfl) ?_
  refine lv_if_lt (tgt := 30) hx hb dX5_name_1 (by decide) (fun c_1 => ?_) (fun c_1 => ?_)
  · have k_2 : (p1).toInt < (0 : Int) := z_lt c_1
    refine lv_iconst (v := (-1)) hx hb dX5_name_30 (by decide) ?_
    refine W.widen (k := 0) (n := 0) (Nat.le_of_ble_eq_true rfl) (Nat.le_of_ble_eq_true rfl) ?_
    exact W.iret (v := (-1)) hx hb hr (fun t ht hW => ⟨⟨(-1), (), rfl, (by first | (unfold v_kind; rw [if_pos (by omega)]) | (unfold v_kind; rw [if_neg (by omega)]) | decide), trivial⟩, hS.F ht⟩) hS.2.2 dX5_name_31
  · have k_3 : (p1).toInt ≥ (0 : Int) := z_nlt c_1
    refine lv_iload_n hx hb dX5_name_4 rfl (lv_at hl 1 rfl) ?_
    refine lv_sipush (v := 999) hx hb dX5_name_5 (by decide) ?_
    refine lv_icmp_gt (tgt := 30) hx hb dX5_name_8 (by decide) (fun c_4 => ?_) (fun c_4 => ?_)
    · have k_5 : (999 : Int) < (p1).toInt := z_lt c_4
      refine lv_iconst (v := (-1)) hx hb dX5_name_30 (by decide) ?_
      refine W.widen (k := 0) (n := 0) (Nat.le_of_ble_eq_true rfl) (Nat.le_of_ble_eq_true rfl) ?_
      exact W.iret (v := (-1)) hx hb hr (fun t ht hW => ⟨⟨(-1), (), rfl, (by first | (unfold v_kind; rw [if_pos (by omega)]) | (unfold v_kind; rw [if_neg (by omega)]) | decide), trivial⟩, hS.F ht⟩) hS.2.2 dX5_name_31
    · have k_6 : (999 : Int) ≥ (p1).toInt := z_nlt c_4
      refine lv_iload_n hx hb dX5_name_11 rfl (lv_at hl 2 rfl) ?_
      refine lv_iconst (v := 1) hx hb dX5_name_12 (by decide) ?_
      refine lv_icmp_lt (tgt := 30) hx hb dX5_name_13 (by decide) (fun c_7 => ?_) (fun c_7 => ?_)
      · have k_8 : (p2).toInt < (1 : Int) := z_lt c_7
        refine lv_iconst (v := (-1)) hx hb dX5_name_30 (by decide) ?_
        refine W.widen (k := 0) (n := 0) (Nat.le_of_ble_eq_true rfl) (Nat.le_of_ble_eq_true rfl) ?_
        exact W.iret (v := (-1)) hx hb hr (fun t ht hW => ⟨⟨(-1), (), rfl, (by first | (unfold v_kind; rw [if_pos (by omega)]) | (unfold v_kind; rw [if_neg (by omega)]) | decide), trivial⟩, hS.F ht⟩) hS.2.2 dX5_name_31
      · have k_9 : (p2).toInt ≥ (1 : Int) := z_nlt c_7
        refine lv_iload_n hx hb dX5_name_16 rfl (lv_at hl 2 rfl) ?_
        refine lv_iconst (v := 2) hx hb dX5_name_17 (by decide) ?_
        refine lv_icmp_gt (tgt := 30) hx hb dX5_name_18 (by decide) (fun c_10 => ?_) (fun c_10 => ?_)
        · have k_11 : (2 : Int) < (p2).toInt := z_lt c_10
          refine lv_iconst (v := (-1)) hx hb dX5_name_30 (by decide) ?_
          refine W.widen (k := 0) (n := 0) (Nat.le_of_ble_eq_true rfl) (Nat.le_of_ble_eq_true rfl) ?_
          exact W.iret (v := (-1)) hx hb hr (fun t ht hW => ⟨⟨(-1), (), rfl, (by first | (unfold v_kind; rw [if_pos (by omega)]) | (unfold v_kind; rw [if_neg (by omega)]) | decide), trivial⟩, hS.F ht⟩) hS.2.2 dX5_name_31
        · have k_12 : (2 : Int) ≥ (p2).toInt := z_nlt c_10
          refine lv_aload_n hx hb dX5_name_21 rfl (lv_at hl 0 rfl) ?_
          refine va_get (D := (dC, dI)) (ci := 5) (v := .int 0) (C := RX5) (T := TX5) (N := 10) hx hb hts hiX5 hown hK hP 0 rfl rfl 9 (by decide) w__fieldLink_RX5_41_ShellHeap_Pantry_kinds_I_ (fun _ h9 => h9) rfl dX5_name_22 ?_
          refine lv_bipush (v := 6) hx hb dX5_name_25 (by decide) ?_
          refine lv_icmp_lt (tgt := 32) hx hb dX5_name_27 (by decide) (fun _ => ?_) (fun c_13 => absurd (by decide) c_13)
          refine lv_aload_n hx hb dX5_name_32 rfl (lv_at hl 0 rfl) ?_
          refine va_get (D := (dC, dI)) (ci := 5) (v := .ref h1) (C := RX5) (T := TX5) (N := 10) hx hb hts hiX5 hown hK hP 0 rfl rfl 0 (by decide) w__fieldLink_RX5_11_ShellHeap_Pantry_meats_I_ (fun _ h9 => h9) rfl dX5_name_33 ?_
          refine lv_aload_n hx hb dX5_name_36 rfl (lv_at hl 0 rfl) ?_
          refine va_get (D := (dC, dI)) (ci := 5) (v := .int 0) (C := RX5) (T := TX5) (N := 10) hx hb hts hiX5 hown hK hP 0 rfl rfl 9 (by decide) w__fieldLink_RX5_41_ShellHeap_Pantry_kinds_I_ (fun _ h9 => h9) rfl dX5_name_37 ?_
          refine lv_iload_n hx hb dX5_name_40 rfl (lv_at hl 1 rfl) ?_
          refine va_iast hx hb hK hP hD hS 1 0 rfl rfl (by unfold vp_in; decide) dX5_name_41 (fun H_14 locs hP hD hS => ?_)
          have hP : va_P (dC, dI) vwCl [(h0, .inr (5, [.ref h1, .ref h2, h0_2, h0_3, .ref h3, h0_5, h0_6, h0_7, h0_8, .int 0])), (h1, .inl (ch1, 6, .inl (upd fh1 (0 : Int32).toNatClampNeg p1))), (h2, .inl (ch2, 6, .inl fh2)), (h3, .inl (ch3, 24, .inl fh3))] H_14 := hP
          have hD : va_D A [(h0, .inr (5, [.ref h1, .ref h2, h0_2, h0_3, .ref h3, h0_5, h0_6, h0_7, h0_8, .int 0])), (h1, .inl (ch1, 6, .inl (upd fh1 (0 : Int32).toNatClampNeg p1))), (h2, .inl (ch2, 6, .inl fh2)), (h3, .inl (ch3, 24, .inl fh3))] := hD
          generalize (upd fh1 (0 : Int32).toNatClampNeg p1) = f_15 at hP hD
          refine lv_aload_n hx hb dX5_name_42 rfl (lv_at hl 0 rfl) ?_
          refine va_get (D := (dC, dI)) (ci := 5) (v := .ref h2) (C := RX5) (T := TX5) (N := 10) hx hb hts hiX5 hown hK hP 0 rfl rfl 1 (by decide) w__fieldLink_RX5_15_ShellHeap_Pantry_valvesOf_I_ (fun _ h9 => h9) rfl dX5_name_43 ?_
          refine lv_aload_n hx hb dX5_name_46 rfl (lv_at hl 0 rfl) ?_
          refine va_get (D := (dC, dI)) (ci := 5) (v := .int 0) (C := RX5) (T := TX5) (N := 10) hx hb hts hiX5 hown hK hP 0 rfl rfl 9 (by decide) w__fieldLink_RX5_41_ShellHeap_Pantry_kinds_I_ (fun _ h9 => h9) rfl dX5_name_47 ?_
          refine lv_iload_n hx hb dX5_name_50 rfl (lv_at hl 2 rfl) ?_
          refine va_iast hx hb hK hP hD hS 2 1 rfl rfl (by unfold vp_in; decide) dX5_name_51 (fun H_16 locs hP hD hS => ?_)
          have hP : va_P (dC, dI) vwCl [(h0, .inr (5, [.ref h1, .ref h2, h0_2, h0_3, .ref h3, h0_5, h0_6, h0_7, h0_8, .int 0])), (h1, .inl (ch1, 6, .inl f_15)), (h2, .inl (ch2, 6, .inl (upd fh2 (0 : Int32).toNatClampNeg p2))), (h3, .inl (ch3, 24, .inl fh3))] H_16 := hP
          have hD : va_D A [(h0, .inr (5, [.ref h1, .ref h2, h0_2, h0_3, .ref h3, h0_5, h0_6, h0_7, h0_8, .int 0])), (h1, .inl (ch1, 6, .inl f_15)), (h2, .inl (ch2, 6, .inl (upd fh2 (0 : Int32).toNatClampNeg p2))), (h3, .inl (ch3, 24, .inl fh3))] := hD
          generalize (upd fh2 (0 : Int32).toNatClampNeg p2) = f_17 at hP hD
          refine lv_iconst (v := 0) hx hb dX5_name_52 (by decide) ?_
          refine lv_istore_n (lv' := [(3, .int 0), (0, .ref h0), (1, .int p1), (2, .int p2)]) hx hb dX5_name_53 rfl hl (by decide) rfl (fun ls hl => ?_)
          refine lv_iload_n hx hb dX5_name_54 rfl (lv_at hl 0 rfl) ?_
          refine lv_iconst (v := 4) hx hb dX5_name_55 (by decide) ?_
          refine lv_icmp_ge (tgt := 80) hx hb dX5_name_56 (by decide) (fun c_18 => absurd c_18 (by decide)) (fun _ => ?_)
          refine lv_aload_n hx hb dX5_name_59 rfl (lv_at hl 1 rfl) ?_
          refine va_get (D := (dC, dI)) (ci := 5) (v := .ref h3) (C := RX5) (T := TX5) (N := 10) hx hb hts hiX5 hown hK hP 0 rfl rfl 4 (by decide) w__fieldLink_RX5_25_ShellHeap_Pantry_keeps_I_ (fun _ h9 => h9) rfl dX5_name_60 ?_
          refine lv_aload_n hx hb dX5_name_63 rfl (lv_at hl 1 rfl) ?_
          refine va_get (D := (dC, dI)) (ci := 5) (v := .int 0) (C := RX5) (T := TX5) (N := 10) hx hb hts hiX5 hown hK hP 0 rfl rfl 9 (by decide) w__fieldLink_RX5_41_ShellHeap_Pantry_kinds_I_ (fun _ h9 => h9) rfl dX5_name_64 ?_
          refine lv_iconst (v := 4) hx hb dX5_name_67 (by decide) ?_
          refine lv_imul hx hb dX5_name_68 ?_
          refine lv_topi (fun x_19 e_20 => ?_)
          obtain rfl : x_19 = 0 := e_20.trans (by decide)
          refine lv_iload_n hx hb dX5_name_69 rfl (lv_at hl 0 rfl) ?_
          refine lv_iadd hx hb dX5_name_70 ?_
          refine lv_topi (fun x_21 e_22 => ?_)
          obtain rfl : x_21 = 0 := e_22.trans (by decide)
          refine lv_bipush (v := 16) hx hb dX5_name_71 (by decide) ?_
          refine va_iast hx hb hK hP hD hS 3 2 rfl rfl (by unfold vp_in; decide) dX5_name_73 (fun H_23 locs hP hD hS => ?_)
          have hP : va_P (dC, dI) vwCl [(h0, .inr (5, [.ref h1, .ref h2, h0_2, h0_3, .ref h3, h0_5, h0_6, h0_7, h0_8, .int 0])), (h1, .inl (ch1, 6, .inl f_15)), (h2, .inl (ch2, 6, .inl f_17)), (h3, .inl (ch3, 24, .inl (upd fh3 (0 : Int32).toNatClampNeg 16)))] H_23 := hP
          have hD : va_D A [(h0, .inr (5, [.ref h1, .ref h2, h0_2, h0_3, .ref h3, h0_5, h0_6, h0_7, h0_8, .int 0])), (h1, .inl (ch1, 6, .inl f_15)), (h2, .inl (ch2, 6, .inl f_17)), (h3, .inl (ch3, 24, .inl (upd fh3 (0 : Int32).toNatClampNeg 16)))] := hD
          generalize (upd fh3 (0 : Int32).toNatClampNeg 16) = f_24 at hP hD
          refine lv_iinc (v := 1) (lv' := [(3, .int 1), (0, .ref h0), (1, .int p1), (2, .int p2)]) hx hb dX5_name_74 hl (k := 0) rfl (by decide) (by decide) rfl (fun ls hl => ?_)
          refine lv_goto (tgt := 54) hx hb dX5_name_77 (by decide) ?_
          refine lv_iload_n hx hb dX5_name_54 rfl (lv_at hl 0 rfl) ?_
          refine lv_iconst (v := 4) hx hb dX5_name_55 (by decide) ?_
          refine lv_icmp_ge (tgt := 80) hx hb dX5_name_56 (by decide) (fun c_25 => absurd c_25 (by decide)) (fun _ => ?_)
          refine lv_aload_n hx hb dX5_name_59 rfl (lv_at hl 1 rfl) ?_
          refine va_get (D := (dC, dI)) (ci := 5) (v := .ref h3) (C := RX5) (T := TX5) (N := 10) hx hb hts hiX5 hown hK hP 0 rfl rfl 4 (by decide) w__fieldLink_RX5_25_ShellHeap_Pantry_keeps_I_ (fun _ h9 => h9) rfl dX5_name_60 ?_
          refine lv_aload_n hx hb dX5_name_63 rfl (lv_at hl 1 rfl) ?_
          refine va_get (D := (dC, dI)) (ci := 5) (v := .int 0) (C := RX5) (T := TX5) (N := 10) hx hb hts hiX5 hown hK hP 0 rfl rfl 9 (by decide) w__fieldLink_RX5_41_ShellHeap_Pantry_kinds_I_ (fun _ h9 => h9) rfl dX5_name_64 ?_
          refine lv_iconst (v := 4) hx hb dX5_name_67 (by decide) ?_
          refine lv_imul hx hb dX5_name_68 ?_
          refine lv_topi (fun x_26 e_27 => ?_)
          obtain rfl : x_26 = 0 := e_27.trans (by decide)
          refine lv_iload_n hx hb dX5_name_69 rfl (lv_at hl 0 rfl) ?_
          refine lv_iadd hx hb dX5_name_70 ?_
          refine lv_topi (fun x_28 e_29 => ?_)
          obtain rfl : x_28 = 1 := e_29.trans (by decide)
          refine lv_bipush (v := 16) hx hb dX5_name_71 (by decide) ?_
          refine va_iast hx hb hK hP hD hS 3 2 rfl rfl (by unfold vp_in; decide) dX5_name_73 (fun H_30 locs hP hD hS => ?_)
          have hP : va_P (dC, dI) vwCl [(h0, .inr (5, [.ref h1, .ref h2, h0_2, h0_3, .ref h3, h0_5, h0_6, h0_7, h0_8, .int 0])), (h1, .inl (ch1, 6, .inl f_15)), (h2, .inl (ch2, 6, .inl f_17)), (h3, .inl (ch3, 24, .inl (upd f_24 (1 : Int32).toNatClampNeg 16)))] H_30 := hP
          have hD : va_D A [(h0, .inr (5, [.ref h1, .ref h2, h0_2, h0_3, .ref h3, h0_5, h0_6, h0_7, h0_8, .int 0])), (h1, .inl (ch1, 6, .inl f_15)), (h2, .inl (ch2, 6, .inl f_17)), (h3, .inl (ch3, 24, .inl (upd f_24 (1 : Int32).toNatClampNeg 16)))] := hD
          generalize (upd f_24 (1 : Int32).toNatClampNeg 16) = f_31 at hP hD
          refine lv_iinc (v := 2) (lv' := [(3, .int 2), (0, .ref h0), (1, .int p1), (2, .int p2)]) hx hb dX5_name_74 hl (k := 0) rfl (by decide) (by decide) rfl (fun ls hl => ?_)
          refine lv_goto (tgt := 54) hx hb dX5_name_77 (by decide) ?_
          refine lv_iload_n hx hb dX5_name_54 rfl (lv_at hl 0 rfl) ?_
          refine lv_iconst (v := 4) hx hb dX5_name_55 (by decide) ?_
          refine lv_icmp_ge (tgt := 80) hx hb dX5_name_56 (by decide) (fun c_32 => absurd c_32 (by decide)) (fun _ => ?_)
          refine lv_aload_n hx hb dX5_name_59 rfl (lv_at hl 1 rfl) ?_
          refine va_get (D := (dC, dI)) (ci := 5) (v := .ref h3) (C := RX5) (T := TX5) (N := 10) hx hb hts hiX5 hown hK hP 0 rfl rfl 4 (by decide) w__fieldLink_RX5_25_ShellHeap_Pantry_keeps_I_ (fun _ h9 => h9) rfl dX5_name_60 ?_
          refine lv_aload_n hx hb dX5_name_63 rfl (lv_at hl 1 rfl) ?_
          refine va_get (D := (dC, dI)) (ci := 5) (v := .int 0) (C := RX5) (T := TX5) (N := 10) hx hb hts hiX5 hown hK hP 0 rfl rfl 9 (by decide) w__fieldLink_RX5_41_ShellHeap_Pantry_kinds_I_ (fun _ h9 => h9) rfl dX5_name_64 ?_
          refine lv_iconst (v := 4) hx hb dX5_name_67 (by decide) ?_
          refine lv_imul hx hb dX5_name_68 ?_
          refine lv_topi (fun x_33 e_34 => ?_)
          obtain rfl : x_33 = 0 := e_34.trans (by decide)
          refine lv_iload_n hx hb dX5_name_69 rfl (lv_at hl 0 rfl) ?_
          refine lv_iadd hx hb dX5_name_70 ?_
          refine lv_topi (fun x_35 e_36 => ?_)
          obtain rfl : x_35 = 2 := e_36.trans (by decide)
          refine lv_bipush (v := 16) hx hb dX5_name_71 (by decide) ?_
          refine va_iast hx hb hK hP hD hS 3 2 rfl rfl (by unfold vp_in; decide) dX5_name_73 (fun H_37 locs hP hD hS => ?_)
          have hP : va_P (dC, dI) vwCl [(h0, .inr (5, [.ref h1, .ref h2, h0_2, h0_3, .ref h3, h0_5, h0_6, h0_7, h0_8, .int 0])), (h1, .inl (ch1, 6, .inl f_15)), (h2, .inl (ch2, 6, .inl f_17)), (h3, .inl (ch3, 24, .inl (upd f_31 (2 : Int32).toNatClampNeg 16)))] H_37 := hP
          have hD : va_D A [(h0, .inr (5, [.ref h1, .ref h2, h0_2, h0_3, .ref h3, h0_5, h0_6, h0_7, h0_8, .int 0])), (h1, .inl (ch1, 6, .inl f_15)), (h2, .inl (ch2, 6, .inl f_17)), (h3, .inl (ch3, 24, .inl (upd f_31 (2 : Int32).toNatClampNeg 16)))] := hD
          generalize (upd f_31 (2 : Int32).toNatClampNeg 16) = f_38 at hP hD
          refine lv_iinc (v := 3) (lv' := [(3, .int 3), (0, .ref h0), (1, .int p1), (2, .int p2)]) hx hb dX5_name_74 hl (k := 0) rfl (by decide) (by decide) rfl (fun ls hl => ?_)
          refine lv_goto (tgt := 54) hx hb dX5_name_77 (by decide) ?_
          refine lv_iload_n hx hb dX5_name_54 rfl (lv_at hl 0 rfl) ?_
          refine lv_iconst (v := 4) hx hb dX5_name_55 (by decide) ?_
          refine lv_icmp_ge (tgt := 80) hx hb dX5_name_56 (by decide) (fun c_39 => absurd c_39 (by decide)) (fun _ => ?_)
          refine lv_aload_n hx hb dX5_name_59 rfl (lv_at hl 1 rfl) ?_
          refine va_get (D := (dC, dI)) (ci := 5) (v := .ref h3) (C := RX5) (T := TX5) (N := 10) hx hb hts hiX5 hown hK hP 0 rfl rfl 4 (by decide) w__fieldLink_RX5_25_ShellHeap_Pantry_keeps_I_ (fun _ h9 => h9) rfl dX5_name_60 ?_
          refine lv_aload_n hx hb dX5_name_63 rfl (lv_at hl 1 rfl) ?_
          refine va_get (D := (dC, dI)) (ci := 5) (v := .int 0) (C := RX5) (T := TX5) (N := 10) hx hb hts hiX5 hown hK hP 0 rfl rfl 9 (by decide) w__fieldLink_RX5_41_ShellHeap_Pantry_kinds_I_ (fun _ h9 => h9) rfl dX5_name_64 ?_
          refine lv_iconst (v := 4) hx hb dX5_name_67 (by decide) ?_
          refine lv_imul hx hb dX5_name_68 ?_
          refine lv_topi (fun x_40 e_41 => ?_)
          obtain rfl : x_40 = 0 := e_41.trans (by decide)
          refine lv_iload_n hx hb dX5_name_69 rfl (lv_at hl 0 rfl) ?_
          refine lv_iadd hx hb dX5_name_70 ?_
          refine lv_topi (fun x_42 e_43 => ?_)
          obtain rfl : x_42 = 3 := e_43.trans (by decide)
          refine lv_bipush (v := 16) hx hb dX5_name_71 (by decide) ?_
          refine va_iast hx hb hK hP hD hS 3 2 rfl rfl (by unfold vp_in; decide) dX5_name_73 (fun H_44 locs hP hD hS => ?_)
          have hP : va_P (dC, dI) vwCl [(h0, .inr (5, [.ref h1, .ref h2, h0_2, h0_3, .ref h3, h0_5, h0_6, h0_7, h0_8, .int 0])), (h1, .inl (ch1, 6, .inl f_15)), (h2, .inl (ch2, 6, .inl f_17)), (h3, .inl (ch3, 24, .inl (upd f_38 (3 : Int32).toNatClampNeg 16)))] H_44 := hP
          have hD : va_D A [(h0, .inr (5, [.ref h1, .ref h2, h0_2, h0_3, .ref h3, h0_5, h0_6, h0_7, h0_8, .int 0])), (h1, .inl (ch1, 6, .inl f_15)), (h2, .inl (ch2, 6, .inl f_17)), (h3, .inl (ch3, 24, .inl (upd f_38 (3 : Int32).toNatClampNeg 16)))] := hD
          generalize (upd f_38 (3 : Int32).toNatClampNeg 16) = f_45 at hP hD
          refine lv_iinc (v := 4) (lv' := [(3, .int 4), (0, .ref h0), (1, .int p1), (2, .int p2)]) hx hb dX5_name_74 hl (k := 0) rfl (by decide) (by decide) rfl (fun ls hl => ?_)
          refine lv_goto (tgt := 54) hx hb dX5_name_77 (by decide) ?_
          refine lv_iload_n hx hb dX5_name_54 rfl (lv_at hl 0 rfl) ?_
          refine lv_iconst (v := 4) hx hb dX5_name_55 (by decide) ?_
          refine lv_icmp_ge (tgt := 80) hx hb dX5_name_56 (by decide) (fun _ => ?_) (fun c_46 => absurd (by decide) c_46)
          refine lv_aload_n hx hb dX5_name_80 rfl (lv_at hl 1 rfl) ?_
          refine lv_dup hx hb dX5_name_81 rfl ?_
          refine va_get (D := (dC, dI)) (ci := 5) (v := .int 0) (C := RX5) (T := TX5) (N := 10) hx hb hts hiX5 hown hK hP 0 rfl rfl 9 (by decide) w__fieldLink_RX5_41_ShellHeap_Pantry_kinds_I_ (fun _ h9 => h9) rfl dX5_name_82 ?_
          refine lv_iconst (v := 1) hx hb dX5_name_85 (by decide) ?_
          refine lv_iadd hx hb dX5_name_86 ?_
          refine lv_topi (fun x_47 e_48 => ?_)
          obtain rfl : x_47 = 1 := e_48.trans (by decide)
          refine va_put (D := (dC, dI)) (ci := 5) (v := .int 1) (ty := .int) (C := RX5) (T := TX5) (N := 10) hx hb hts hiX5 tyX5 tyX5_ok nmX5 hown hK hP hD hS 0 rfl rfl 9 (by decide) w__fieldLink_RX5_41_ShellHeap_Pantry_kinds_I_ (fun _ h9 => h9) rfl (by decide +kernel) rfl rfl (Nat.le_of_ble_eq_true rfl) dX5_name_87 (fun H_49 locs hP hD hS => ?_)
          have hP : va_P (dC, dI) vwCl [(h0, .inr (5, [.ref h1, .ref h2, h0_2, h0_3, .ref h3, h0_5, h0_6, h0_7, h0_8, .int 1])), (h1, .inl (ch1, 6, .inl f_15)), (h2, .inl (ch2, 6, .inl f_17)), (h3, .inl (ch3, 24, .inl f_45))] H_49 := hP
          have hD : va_D A [(h0, .inr (5, [.ref h1, .ref h2, h0_2, h0_3, .ref h3, h0_5, h0_6, h0_7, h0_8, .int 1])), (h1, .inl (ch1, 6, .inl f_15)), (h2, .inl (ch2, 6, .inl f_17)), (h3, .inl (ch3, 24, .inl f_45))] := hD
          refine lv_aload_n hx hb dX5_name_90 rfl (lv_at hl 1 rfl) ?_
          refine va_get (D := (dC, dI)) (ci := 5) (v := .int 1) (C := RX5) (T := TX5) (N := 10) hx hb hts hiX5 hown hK hP 0 rfl rfl 9 (by decide) w__fieldLink_RX5_41_ShellHeap_Pantry_kinds_I_ (fun _ h9 => h9) rfl dX5_name_91 ?_
          refine lv_iconst (v := 1) hx hb dX5_name_94 (by decide) ?_
          refine lv_isub hx hb dX5_name_95 ?_
          refine lv_topi (fun x_50 e_51 => ?_)
          obtain rfl : x_50 = 0 := e_51.trans (by decide)
          refine W.widen (k := 0) (n := 0) (Nat.le_of_ble_eq_true rfl) (Nat.le_of_ble_eq_true rfl) ?_
          exact W.iret (v := 0) hx hb hr (fun t ht hW => ⟨⟨0, (), rfl, (by first | (unfold v_kind; rw [if_pos (by omega)]) | (unfold v_kind; rw [if_neg (by omega)]) | decide), trivial⟩, hS.F ht⟩) hS.2.2 dX5_name_96
def u_c_X11_kind : List Cond := .code yX11_kind cX11_kind 3 (some .int) :: ([.fieldLink RX11 42 "ShellHeap" "pantry" "LShellHeap$Pantry;", .methodLink RX11 200 yX5_name, .instanceMethod yX5_name, .selects RX5 yX5_name yX5_name, .initialized RX5, .code yX5_name cX5_name 4 (some .int), .fieldLink RX5 41 "ShellHeap$Pantry" "kinds" "I", .fieldLink RX5 11 "ShellHeap$Pantry" "meats" "[I", .fieldLink RX5 15 "ShellHeap$Pantry" "valvesOf" "[I", .fieldLink RX5 25 "ShellHeap$Pantry" "keeps" "[I"] ++ wsX110 ++ wsX50)
set_option maxRecDepth 20000 in
theorem gw_c_X11_kind_c_X5_name_200 : GoodIn u_c_X11_kind (wsV RX11 200 RX5 yX5_name u_c_X5_name) := goodIn_r _ [2, 3, 4, 5, 6, 7, 8, 9, 10, 21, 22, 23, 24, 25, 26, 27, 28, 29, 30] (by decide +kernel) (by decide +kernel)
set_option maxHeartbeats 4000000 in
set_option maxRecDepth 100000 in
theorem c_X11_kind (l : Launch) (dC : Nat → ClassId) (dI : Nat → Nat → Nat) (sz : Nat) (h0 : Nat) (p1 : Int32) (p2 : Int32) (h0_0 : Value) (h0_1 : Value) (h0_2 : Value) (h0_3 : Value) (h1 : Nat) (h0_5 : Value) (h0_6 : Value) (h0_7 : Value) (h0_8 : Value) (h0_9 : Value) (h2 : Nat) (h3 : Nat) (h1_2 : Value) (h1_3 : Value) (h4 : Nat) (h1_5 : Value) (h1_6 : Value) (h1_7 : Value) (h1_8 : Value) (ch2 : ClassId) (fh2 : Nat → Int32) (ch3 : ClassId) (fh3 : Nat → Int32) (ch4 : ClassId) (fh4 : Nat → Int32) : Met l yX11_kind u_c_X11_kind ({ frames := 1, cells := 0, slots := 0, locals := 23 }) (va_Pc [.ref h0, .int p1, .int p2] (z_C (dC, dI) vwCl [(h0, .inr (11, [h0_0, h0_1, h0_2, h0_3, .ref h1, h0_5, h0_6, h0_7, h0_8, h0_9])), (h1, .inr (5, [.ref h2, .ref h3, h1_2, h1_3, .ref h4, h1_5, h1_6, h1_7, h1_8, .int 0])), (h2, .inl (ch2, 6, .inl fh2)), (h3, .inl (ch3, 6, .inl fh3)), (h4, .inl (ch4, 24, .inl fh4))] [(ch2, .int), (ch3, .int), (ch4, .int)] sz)) (va_Qi (fun (r : Int32) (_ : Unit) => r = v_kind p1 p2) (fun (_ : Unit) (_ : State) => True) (va_A [(h0, .inr (11, [h0_0, h0_1, h0_2, h0_3, .ref h1, h0_5, h0_6, h0_7, h0_8, h0_9])), (h1, .inr (5, [.ref h2, .ref h3, h1_2, h1_3, .ref h4, h1_5, h1_6, h1_7, h1_8, .int 0])), (h2, .inl (ch2, 6, .inl fh2)), (h3, .inl (ch3, 6, .inl fh3)), (h4, .inl (ch4, 24, .inl fh4))] sz)) 0 0 (va_A [(h0, .inr (11, [h0_0, h0_1, h0_2, h0_3, .ref h1, h0_5, h0_6, h0_7, h0_8, h0_9])), (h1, .inr (5, [.ref h2, .ref h3, h1_2, h1_3, .ref h4, h1_5, h1_6, h1_7, h1_8, .int 0])), (h2, .inl (ch2, 6, .inl fh2)), (h3, .inl (ch3, 6, .inl fh3)), (h4, .inl (ch4, 24, .inl fh4))] sz) := by
  refine Met.ofW (cc := cX11_kind) (maxL := 3) (ret := (some .int)) (by decide) rfl ?_
  intro p e s m args below meth c s₁ B hml hv
  obtain ⟨rfl, hsz, hP, hK, hD0⟩ := hv
  have hx := B.exec
  have hb := B.bytes
  have hr := B.returns
  have hts := atoms_spec (ws := u_c_X11_kind) B.pre
  have hown : s.vm.findClass RX11 = some m.cls := findClass_of_methodNamed B.named
  have hlocks := B.notSynchronized
  subst hsz
  have hD := hD0.self (sz := s.heap.size)
  generalize hAe : va_A [(h0, .inr (11, [h0_0, h0_1, h0_2, h0_3, .ref h1, h0_5, h0_6, h0_7, h0_8, h0_9])), (h1, .inr (5, [.ref h2, .ref h3, h1_2, h1_3, .ref h4, h1_5, h1_6, h1_7, h1_8, .int 0])), (h2, .inl (ch2, 6, .inl fh2)), (h3, .inl (ch3, 6, .inl fh3)), (h4, .inl (ch4, 24, .inl fh4))] s.heap.size = A at hD ⊢
  have hA : ∀ q : Nat, s.heap.size ≤ q → A q := fun q h => by rw [← hAe]; exact Or.inr h
  have hS : va_S A s.heap s.heap [] := va_S.rf
  have hP : va_P (dC, dI) vwCl [(h0, .inr (11, [h0_0, h0_1, h0_2, h0_3, .ref h1, h0_5, h0_6, h0_7, h0_8, h0_9])), (h1, .inr (5, [.ref h2, .ref h3, h1_2, h1_3, .ref h4, h1_5, h1_6, h1_7, h1_8, .int 0])), (h2, .inl (ch2, 6, .inl fh2)), (h3, .inl (ch3, 6, .inl fh3)), (h4, .inl (ch4, 24, .inl fh4))] s.heap := hP
  have w__fieldLink_RX11_42_ShellHeap_pantry_LShellHeap_Pantry_ := hts (.fieldLink RX11 42 "ShellHeap" "pantry" "LShellHeap$Pantry;") (by decide +kernel)
  have hiX11 := show ∀ w ∈ u_ws RX11 TX11 10, w ∈ u_c_X11_kind by decide +kernel
  have hl := lv_entry ([.ref h0, .int p1, .int p2]) (n := 3) (Nat.le_of_ble_eq_true rfl)
  rw [lg_entry_eq]
  generalize (lg_sl ([.ref h0, .int p1, .int p2]) ++ List.replicate (3 - (lg_sl ([.ref h0, .int p1, .int p2])).length) Slot.unset).toArray = ls at hl ⊢
  have hl : lv_has ls 3 [(0, .ref h0), (1, .int p1), (2, .int p2)] := hl
  refine lv_aload_n hx hb dX11_kind_0 rfl (lv_at hl 0 rfl) ?_
  refine va_get (D := (dC, dI)) (ci := 11) (v := .ref h1) (C := RX11) (T := TX11) (N := 10) hx hb hts hiX11 hown hK hP 0 rfl rfl 4 (by decide) w__fieldLink_RX11_42_ShellHeap_pantry_LShellHeap_Pantry_ (fun _ h9 => h9) rfl dX11_kind_1 ?_
  refine lv_iload_n hx hb dX11_kind_4 rfl (lv_at hl 1 rfl) ?_
  refine lv_iload_n hx hb dX11_kind_5 rfl (lv_at hl 2 rfl) ?_
  have hPc := hP.sub (ws' := [(h1, .inr (5, [.ref h2, .ref h3, h1_2, h1_3, .ref h4, h1_5, h1_6, h1_7, h1_8, .int 0])), (h2, .inl (ch2, 6, .inl fh2)), (h3, .inl (ch3, 6, .inl fh3)), (h4, .inl (ch4, 24, .inl fh4))]) [1, 2, 3, 4] rfl
  have hDc := hD.sub (ws' := [(h1, .inr (5, [.ref h2, .ref h3, h1_2, h1_3, .ref h4, h1_5, h1_6, h1_7, h1_8, .int 0])), (h2, .inl (ch2, 6, .inl fh2)), (h3, .inl (ch3, 6, .inl fh3)), (h4, .inl (ch4, 24, .inl fh4))]) [1, 2, 3, 4] (by decide) rfl
  have hKc := hK.sub (tys' := [(ch2, .int), (ch3, .int), (ch4, .int)]) [0, 1, 2] rfl
  have hFc := va_free (wc := [(h1, .inr (5, [.ref h2, .ref h3, h1_2, h1_3, .ref h4, h1_5, h1_6, h1_7, h1_8, .int 0])), (h2, .inl (ch2, 6, .inl fh2)), (h3, .inl (ch3, 6, .inl fh3)), (h4, .inl (ch4, 24, .inl fh4))]) hD hS hA [1, 2, 3, 4] rfl
  refine va_calli (va_runV (As := [.int p1, .int p2]) (rest := []) ⟨hx, hb, hml, hown, hts⟩ (c_X5_name l dC dI s.heap.size h1 p1 p2 h2 h3 h1_2 h1_3 h4 h1_5 h1_6 h1_7 h1_8 ch2 fh2 ch3 fh3 ch4 fh4) (cwV 2 hts gw_c_X11_kind_c_X5_name_200 rfl rfl rfl (by decide +kernel) ⟨Nat.le_of_ble_eq_true rfl, Nat.le_of_ble_eq_true rfl⟩) ⟨z_blind, va_recv hKc hPc (ci := 5) (q0 := 0) rfl rfl, z_pre hPc hKc hDc⟩ rfl rfl hl.1 rfl (lv_room (Nat.le_of_ble_eq_true rfl)) dX11_kind_6 ⟨Nat.le_of_ble_eq_true rfl, Nat.le_of_ble_eq_true rfl⟩) hS (fun q _ h => hFc q h) hFc (fun r_2 u t H_1 locs ht hvm hw_3 hB hz1 hk1 hS => ?_)
  obtain ⟨hP, hD⟩ := va_join (wr := [(h0, .inr (11, [h0_0, h0_1, h0_2, h0_3, .ref h1, h0_5, h0_6, h0_7, h0_8, h0_9]))]) (w1 := []) hP hD [1, 2, 3, 4] [0] rfl rfl (by decide) (by decide) hk1 hFc (z_P0 _) (z_D0 _)
  have hP : va_P (dC, dI) vwCl [(h0, .inr (11, [h0_0, h0_1, h0_2, h0_3, .ref h1, h0_5, h0_6, h0_7, h0_8, h0_9]))] H_1 := hP
  have hD : va_D A [(h0, .inr (11, [h0_0, h0_1, h0_2, h0_3, .ref h1, h0_5, h0_6, h0_7, h0_8, h0_9]))] := hD
  clear hPc hDc hKc
  refine W.widen (k := 0) (n := 0) (Nat.le_of_ble_eq_true rfl) (Nat.le_of_ble_eq_true rfl) ?_
  exact W.iret (v := r_2) hx hb hr (fun t ht hW => ⟨⟨r_2, (), rfl, hw_3, trivial⟩, hS.F ht⟩) hS.2.2 dX11_kind_9
def u_c_X6_has : List Cond := .code yX6_has cX6_has 1 (some .boolean) :: ([])
set_option maxHeartbeats 4000000 in
set_option maxRecDepth 100000 in
theorem c_X6_has (l : Launch) (dC : Nat → ClassId) (dI : Nat → Nat → Nat) (sz : Nat) (p0 : Int32) : Met l yX6_has u_c_X6_has ({ frames := 0, cells := 0, slots := 0, locals := 0 }) (va_Pc [.int p0] (z_C (dC, dI) vwCl [] [] sz)) (va_Qi (fun (r : Int32) (_ : Unit) => (r = 1 ∧ (0 ≤ p0.toInt ∧ p0.toInt < 3)) ∨ (r = 0 ∧ ¬ (0 ≤ p0.toInt ∧ p0.toInt < 3))) (fun (_ : Unit) (_ : State) => True) (va_A [] sz)) 0 0 (va_A [] sz) := by
  refine Met.ofW (cc := cX6_has) (maxL := 1) (ret := (some .boolean)) (by decide) rfl ?_
  intro p e s m args below meth c s₁ B hml hv
  obtain ⟨rfl, hsz, hP, hK, hD0⟩ := hv
  have hx := B.exec
  have hb := B.bytes
  have hr := B.returns
  have hts := atoms_spec (ws := u_c_X6_has) B.pre
  have hown : s.vm.findClass RX6 = some m.cls := findClass_of_methodNamed B.named
  have hlocks := B.notSynchronized
  subst hsz
  have hD := hD0
  generalize hAe : va_A [] s.heap.size = A
  have hA : ∀ q : Nat, s.heap.size ≤ q → A q := fun q h => by rw [← hAe]; exact Or.inr h
  have hS : va_S A s.heap s.heap [] := va_S.rf
  have hP : va_P (dC, dI) vwCl [] s.heap := hP
  have hl := lv_entry ([.int p0]) (n := 1) (Nat.le_of_ble_eq_true rfl)
  rw [lg_entry_eq]
  generalize (lg_sl ([.int p0]) ++ List.replicate (1 - (lg_sl ([.int p0])).length) Slot.unset).toArray = ls at hl ⊢
  have hl : lv_has ls 1 [(0, .int p0)] := hl
  refine lv_iload_n hx hb dX6_has_0 rfl (lv_at hl 0 rfl) ?_
  refine lv_if_lt (tgt := 13) hx hb dX6_has_1 (by decide) (fun c_1 => ?_) (fun c_1 => ?_)
  · have k_2 : (p0).toInt < (0 : Int) := z_lt c_1
    refine lv_iconst (v := 0) hx hb dX6_has_13 (by decide) ?_
    refine W.widen (k := 0) (n := 0) (Nat.le_of_ble_eq_true rfl) (Nat.le_of_ble_eq_true rfl) ?_
    exact W.zret (v := 0) hx hb hr (by rfl) (fun t ht hW => ⟨⟨0, (), rfl, (Or.inr (⟨rfl, by first | omega | decide⟩)), trivial⟩, hS.F ht⟩) hS.2.2 dX6_has_14
  · have k_3 : (p0).toInt ≥ (0 : Int) := z_nlt c_1
    refine lv_iload_n hx hb dX6_has_4 rfl (lv_at hl 0 rfl) ?_
    refine lv_iconst (v := 3) hx hb dX6_has_5 (by decide) ?_
    refine lv_icmp_ge (tgt := 13) hx hb dX6_has_6 (by decide) (fun c_4 => ?_) (fun c_4 => ?_)
    · have k_5 : (3 : Int) ≤ (p0).toInt := z_le c_4
      refine lv_iconst (v := 0) hx hb dX6_has_13 (by decide) ?_
      refine W.widen (k := 0) (n := 0) (Nat.le_of_ble_eq_true rfl) (Nat.le_of_ble_eq_true rfl) ?_
      exact W.zret (v := 0) hx hb hr (by rfl) (fun t ht hW => ⟨⟨0, (), rfl, (Or.inr (⟨rfl, by first | omega | decide⟩)), trivial⟩, hS.F ht⟩) hS.2.2 dX6_has_14
    · have k_6 : (3 : Int) > (p0).toInt := z_nle c_4
      refine lv_iconst (v := 1) hx hb dX6_has_9 (by decide) ?_
      refine lv_goto (tgt := 14) hx hb dX6_has_10 (by decide) ?_
      refine W.widen (k := 0) (n := 0) (Nat.le_of_ble_eq_true rfl) (Nat.le_of_ble_eq_true rfl) ?_
      exact W.zret (v := 1) hx hb hr (by rfl) (fun t ht hW => ⟨⟨1, (), rfl, (Or.inl (⟨rfl, by first | omega | decide⟩)), trivial⟩, hS.F ht⟩) hS.2.2 dX6_has_14
def u_c_X6_areWithin : List Cond := .code yX6_areWithin cX6_areWithin 5 (some .boolean) :: ([])
set_option maxHeartbeats 4000000 in
set_option maxRecDepth 100000 in
theorem c_X6_areWithin (l : Launch) (dC : Nat → ClassId) (dI : Nat → Nat → Nat) (sz : Nat) (p1 : Int32) (p2 : Int32) (p3 : Int32) (p4 : Int32) : Met l yX6_areWithin u_c_X6_areWithin ({ frames := 0, cells := 0, slots := 0, locals := 0 }) (va_Pc [.int 16, .int p1, .int p2, .int p3, .int p4] (z_C (dC, dI) vwCl [] [] sz)) (va_Qi (fun (r : Int32) (_ : Unit) => (r = 1 ∧ (0 ≤ p1.toInt ∧ p1.toInt ≤ 16 ∧ 0 ≤ p2.toInt ∧ p2.toInt ≤ 16 ∧ 0 ≤ p3.toInt ∧ p3.toInt ≤ 16 ∧ 0 ≤ p4.toInt ∧ p4.toInt ≤ 16)) ∨ (r = 0 ∧ ¬ (0 ≤ p1.toInt ∧ p1.toInt ≤ 16 ∧ 0 ≤ p2.toInt ∧ p2.toInt ≤ 16 ∧ 0 ≤ p3.toInt ∧ p3.toInt ≤ 16 ∧ 0 ≤ p4.toInt ∧ p4.toInt ≤ 16))) (fun (_ : Unit) (_ : State) => True) (va_A [] sz)) 0 0 (va_A [] sz) := by
  refine Met.ofW (cc := cX6_areWithin) (maxL := 5) (ret := (some .boolean)) (by decide) rfl ?_
  intro p e s m args below meth c s₁ B hml hv
  obtain ⟨rfl, hsz, hP, hK, hD0⟩ := hv
  have hx := B.exec
  have hb := B.bytes
  have hr := B.returns
  have hts := atoms_spec (ws := u_c_X6_areWithin) B.pre
  have hown : s.vm.findClass RX6 = some m.cls := findClass_of_methodNamed B.named
  have hlocks := B.notSynchronized
  subst hsz
  have hD := hD0
  generalize hAe : va_A [] s.heap.size = A
  have hA : ∀ q : Nat, s.heap.size ≤ q → A q := fun q h => by rw [← hAe]; exact Or.inr h
  have hS : va_S A s.heap s.heap [] := va_S.rf
  have hP : va_P (dC, dI) vwCl [] s.heap := hP
  have hl := lv_entry ([.int 16, .int p1, .int p2, .int p3, .int p4]) (n := 5) (Nat.le_of_ble_eq_true rfl)
  rw [lg_entry_eq]
  generalize (lg_sl ([.int 16, .int p1, .int p2, .int p3, .int p4]) ++ List.replicate (5 - (lg_sl ([.int 16, .int p1, .int p2, .int p3, .int p4])).length) Slot.unset).toArray = ls at hl ⊢
  have hl : lv_has ls 5 [(0, .int 16), (1, .int p1), (2, .int p2), (3, .int p3), (4, .int p4)] := hl
  refine lv_iload_n hx hb dX6_areWithin_0 rfl (lv_at hl 1 rfl) ?_
  refine lv_if_lt (tgt := 42) hx hb dX6_areWithin_1 (by decide) (fun c_1 => ?_) (fun c_1 => ?_)
  · have k_2 : (p1).toInt < (0 : Int) := z_lt c_1
    refine lv_iconst (v := 0) hx hb dX6_areWithin_42 (by decide) ?_
    refine W.widen (k := 0) (n := 0) (Nat.le_of_ble_eq_true rfl) (Nat.le_of_ble_eq_true rfl) ?_
    exact W.zret (v := 0) hx hb hr (by rfl) (fun t ht hW => ⟨⟨0, (), rfl, (Or.inr (⟨rfl, by first | omega | decide⟩)), trivial⟩, hS.F ht⟩) hS.2.2 dX6_areWithin_43
  · have k_3 : (p1).toInt ≥ (0 : Int) := z_nlt c_1
    refine lv_iload_n hx hb dX6_areWithin_4 rfl (lv_at hl 1 rfl) ?_
    refine lv_iload_n hx hb dX6_areWithin_5 rfl (lv_at hl 0 rfl) ?_
    refine lv_icmp_gt (tgt := 42) hx hb dX6_areWithin_6 (by decide) (fun c_4 => ?_) (fun c_4 => ?_)
    · have k_5 : (16 : Int) < (p1).toInt := z_lt c_4
      refine lv_iconst (v := 0) hx hb dX6_areWithin_42 (by decide) ?_
      refine W.widen (k := 0) (n := 0) (Nat.le_of_ble_eq_true rfl) (Nat.le_of_ble_eq_true rfl) ?_
      exact W.zret (v := 0) hx hb hr (by rfl) (fun t ht hW => ⟨⟨0, (), rfl, (Or.inr (⟨rfl, by first | omega | decide⟩)), trivial⟩, hS.F ht⟩) hS.2.2 dX6_areWithin_43
    · have k_6 : (16 : Int) ≥ (p1).toInt := z_nlt c_4
      refine lv_iload_n hx hb dX6_areWithin_9 rfl (lv_at hl 2 rfl) ?_
      refine lv_if_lt (tgt := 42) hx hb dX6_areWithin_10 (by decide) (fun c_7 => ?_) (fun c_7 => ?_)
      · have k_8 : (p2).toInt < (0 : Int) := z_lt c_7
        refine lv_iconst (v := 0) hx hb dX6_areWithin_42 (by decide) ?_
        refine W.widen (k := 0) (n := 0) (Nat.le_of_ble_eq_true rfl) (Nat.le_of_ble_eq_true rfl) ?_
        exact W.zret (v := 0) hx hb hr (by rfl) (fun t ht hW => ⟨⟨0, (), rfl, (Or.inr (⟨rfl, by first | omega | decide⟩)), trivial⟩, hS.F ht⟩) hS.2.2 dX6_areWithin_43
      · have k_9 : (p2).toInt ≥ (0 : Int) := z_nlt c_7
        refine lv_iload_n hx hb dX6_areWithin_13 rfl (lv_at hl 2 rfl) ?_
        refine lv_iload_n hx hb dX6_areWithin_14 rfl (lv_at hl 0 rfl) ?_
        refine lv_icmp_gt (tgt := 42) hx hb dX6_areWithin_15 (by decide) (fun c_10 => ?_) (fun c_10 => ?_)
        · have k_11 : (16 : Int) < (p2).toInt := z_lt c_10
          refine lv_iconst (v := 0) hx hb dX6_areWithin_42 (by decide) ?_
          refine W.widen (k := 0) (n := 0) (Nat.le_of_ble_eq_true rfl) (Nat.le_of_ble_eq_true rfl) ?_
          exact W.zret (v := 0) hx hb hr (by rfl) (fun t ht hW => ⟨⟨0, (), rfl, (Or.inr (⟨rfl, by first | omega | decide⟩)), trivial⟩, hS.F ht⟩) hS.2.2 dX6_areWithin_43
        · have k_12 : (16 : Int) ≥ (p2).toInt := z_nlt c_10
          refine lv_iload_n hx hb dX6_areWithin_18 rfl (lv_at hl 3 rfl) ?_
          refine lv_if_lt (tgt := 42) hx hb dX6_areWithin_19 (by decide) (fun c_13 => ?_) (fun c_13 => ?_)
          · have k_14 : (p3).toInt < (0 : Int) := z_lt c_13
            refine lv_iconst (v := 0) hx hb dX6_areWithin_42 (by decide) ?_
            refine W.widen (k := 0) (n := 0) (Nat.le_of_ble_eq_true rfl) (Nat.le_of_ble_eq_true rfl) ?_
            exact W.zret (v := 0) hx hb hr (by rfl) (fun t ht hW => ⟨⟨0, (), rfl, (Or.inr (⟨rfl, by first | omega | decide⟩)), trivial⟩, hS.F ht⟩) hS.2.2 dX6_areWithin_43
          · have k_15 : (p3).toInt ≥ (0 : Int) := z_nlt c_13
            refine lv_iload_n hx hb dX6_areWithin_22 rfl (lv_at hl 3 rfl) ?_
            refine lv_iload_n hx hb dX6_areWithin_23 rfl (lv_at hl 0 rfl) ?_
            refine lv_icmp_gt (tgt := 42) hx hb dX6_areWithin_24 (by decide) (fun c_16 => ?_) (fun c_16 => ?_)
            · have k_17 : (16 : Int) < (p3).toInt := z_lt c_16
              refine lv_iconst (v := 0) hx hb dX6_areWithin_42 (by decide) ?_
              refine W.widen (k := 0) (n := 0) (Nat.le_of_ble_eq_true rfl) (Nat.le_of_ble_eq_true rfl) ?_
              exact W.zret (v := 0) hx hb hr (by rfl) (fun t ht hW => ⟨⟨0, (), rfl, (Or.inr (⟨rfl, by first | omega | decide⟩)), trivial⟩, hS.F ht⟩) hS.2.2 dX6_areWithin_43
            · have k_18 : (16 : Int) ≥ (p3).toInt := z_nlt c_16
              refine lv_iload hx hb dX6_areWithin_27 (lv_at hl 4 rfl) ?_
              refine lv_if_lt (tgt := 42) hx hb dX6_areWithin_29 (by decide) (fun c_19 => ?_) (fun c_19 => ?_)
              · have k_20 : (p4).toInt < (0 : Int) := z_lt c_19
                refine lv_iconst (v := 0) hx hb dX6_areWithin_42 (by decide) ?_
                refine W.widen (k := 0) (n := 0) (Nat.le_of_ble_eq_true rfl) (Nat.le_of_ble_eq_true rfl) ?_
                exact W.zret (v := 0) hx hb hr (by rfl) (fun t ht hW => ⟨⟨0, (), rfl, (Or.inr (⟨rfl, by first | omega | decide⟩)), trivial⟩, hS.F ht⟩) hS.2.2 dX6_areWithin_43
              · have k_21 : (p4).toInt ≥ (0 : Int) := z_nlt c_19
                refine lv_iload hx hb dX6_areWithin_32 (lv_at hl 4 rfl) ?_
                refine lv_iload_n hx hb dX6_areWithin_34 rfl (lv_at hl 0 rfl) ?_
                refine lv_icmp_gt (tgt := 42) hx hb dX6_areWithin_35 (by decide) (fun c_22 => ?_) (fun c_22 => ?_)
                · have k_23 : (16 : Int) < (p4).toInt := z_lt c_22
                  refine lv_iconst (v := 0) hx hb dX6_areWithin_42 (by decide) ?_
                  refine W.widen (k := 0) (n := 0) (Nat.le_of_ble_eq_true rfl) (Nat.le_of_ble_eq_true rfl) ?_
                  exact W.zret (v := 0) hx hb hr (by rfl) (fun t ht hW => ⟨⟨0, (), rfl, (Or.inr (⟨rfl, by first | omega | decide⟩)), trivial⟩, hS.F ht⟩) hS.2.2 dX6_areWithin_43
                · have k_24 : (16 : Int) ≥ (p4).toInt := z_nlt c_22
                  refine lv_iconst (v := 1) hx hb dX6_areWithin_38 (by decide) ?_
                  refine lv_goto (tgt := 43) hx hb dX6_areWithin_39 (by decide) ?_
                  refine W.widen (k := 0) (n := 0) (Nat.le_of_ble_eq_true rfl) (Nat.le_of_ble_eq_true rfl) ?_
                  exact W.zret (v := 1) hx hb hr (by rfl) (fun t ht hW => ⟨⟨1, (), rfl, (Or.inl (⟨rfl, by first | omega | decide⟩)), trivial⟩, hS.F ht⟩) hS.2.2 dX6_areWithin_43
