def u_c_X10_make : List Cond := .code yX10_init cX10_init 1 none :: ([.methodLink RX10 3 objectInit, .instanceMethod objectInit, .code objectInit ⟨#[0xb1]⟩ 1 none, .arrayClass .int, .fieldLink RX10 11 "ShellHeap$Tape" "bytes" "[I", .fieldLink RX10 15 "ShellHeap$Tape" "text" "I", .fieldLink RX10 19 "ShellHeap$Tape" "at" "I", .fieldLink RX10 22 "ShellHeap$Tape" "digitsJoin" "Z", .fieldLink RX10 26 "ShellHeap$Tape" "fed" "I", .fieldLink RX10 29 "ShellHeap$Tape" "start" "I", .fieldLink RX10 32 "ShellHeap$Tape" "end" "I", .fieldLink RX10 35 "ShellHeap$Tape" "sort" "I", .fieldLink RX10 38 "ShellHeap$Tape" "sign" "I", .fieldLink RX10 41 "ShellHeap$Tape" "faultSort" "I", .fieldLink RX10 44 "ShellHeap$Tape" "faultPlace" "I"] ++ wsX100)
set_option maxHeartbeats 4000000 in
set_option maxRecDepth 100000 in
theorem c_X10_make (l : Launch) (dC : Nat → ClassId) (dI : Nat → Nat → Nat) (sz : Nat) (h0 : Nat) : Met l yX10_init u_c_X10_make ({ frames := 1, cells := 1, slots := 700, locals := 12 }) (va_Pc [.ref h0] (z_C (dC, dI) vwCl [(h0, .inr (10, [.null, .int 0, .int 0, .int 0, .int 0, .int 0, .int 0, .int 0, .int 0, .int 0, .int 0]))] [] sz)) (va_Qv (fun (_ : Unit) => True) (fun (_ : Unit) (t : State) => ∃ (qa0 : Nat), ∃ (qc0 : ClassId), va_P (dC, dI) vwCl [(h0, .inr (10, [.ref qa0, .int 0, .int 0, .int 0, .int 0, .int 0, .int 0, .int 0, .int (-1), .int 0, .int (-1)])), (qa0, .inl (qc0, 700, .inl (fun _ => 0)))] t.heap ∧ va_K (dC, dI) vwCl [(qc0, .int)] t ∧ va_D (va_A [(h0, .inr (10, [.null, .int 0, .int 0, .int 0, .int 0, .int 0, .int 0, .int 0, .int 0, .int 0, .int 0]))] sz) [(h0, .inr (10, [.ref qa0, .int 0, .int 0, .int 0, .int 0, .int 0, .int 0, .int 0, .int (-1), .int 0, .int (-1)])), (qa0, .inl (qc0, 700, .inl (fun _ => 0)))]) (va_A [(h0, .inr (10, [.null, .int 0, .int 0, .int 0, .int 0, .int 0, .int 0, .int 0, .int 0, .int 0, .int 0]))] sz)) 1 700 (va_A [(h0, .inr (10, [.null, .int 0, .int 0, .int 0, .int 0, .int 0, .int 0, .int 0, .int 0, .int 0, .int 0]))] sz) := by
  refine Met.ofW (cc := cX10_init) (maxL := 1) (ret := none) (by decide) rfl ?_
  intro p e s m args below meth c s₁ B hml hv
  obtain ⟨rfl, hsz, hP, hK, hD0⟩ := hv
  have hx := B.exec
  have hb := B.bytes
  have hr := B.returns
  have hts := atoms_spec (ws := u_c_X10_make) B.pre
  have hown : s.vm.findClass RX10 = some m.cls := findClass_of_methodNamed B.named
  have hlocks := B.notSynchronized
  have hin : meth.name = "<init>" := (name_of_methodNamed B.named B.method).1
  subst hsz
  have hD := hD0.self (sz := s.heap.size)
  generalize hAe : va_A [(h0, .inr (10, [.null, .int 0, .int 0, .int 0, .int 0, .int 0, .int 0, .int 0, .int 0, .int 0, .int 0]))] s.heap.size = A at hD ⊢
  have hA : ∀ q : Nat, s.heap.size ≤ q → A q := fun q h => by rw [← hAe]; exact Or.inr h
  have hS : va_S A s.heap s.heap [] := va_S.rf
  have hP : va_P (dC, dI) vwCl [(h0, .inr (10, [.null, .int 0, .int 0, .int 0, .int 0, .int 0, .int 0, .int 0, .int 0, .int 0, .int 0]))] s.heap := hP
  have w__methodLink_RX10_3_objectInit := hts (.methodLink RX10 3 objectInit) (by decide +kernel)
  have w__instanceMethod_objectInit := hts (.instanceMethod objectInit) (by decide +kernel)
  have w__code_objectInit_0xb1_1_none := hts (.code objectInit ⟨#[0xb1]⟩ 1 none) (by decide +kernel)
  have w__arrayClass_int := hts (.arrayClass .int) (by decide +kernel)
  have w__fieldLink_RX10_11_ShellHeap_Tape_bytes_I_ := hts (.fieldLink RX10 11 "ShellHeap$Tape" "bytes" "[I") (by decide +kernel)
  have hiX10 := show ∀ w ∈ u_ws RX10 TX10 11, w ∈ u_c_X10_make by decide +kernel
  have w__fieldLink_RX10_15_ShellHeap_Tape_text_I_ := hts (.fieldLink RX10 15 "ShellHeap$Tape" "text" "I") (by decide +kernel)
  have w__fieldLink_RX10_19_ShellHeap_Tape_at_I_ := hts (.fieldLink RX10 19 "ShellHeap$Tape" "at" "I") (by decide +kernel)
  have w__fieldLink_RX10_22_ShellHeap_Tape_digitsJoin_Z_ := hts (.fieldLink RX10 22 "ShellHeap$Tape" "digitsJoin" "Z") (by decide +kernel)
  have w__fieldLink_RX10_26_ShellHeap_Tape_fed_I_ := hts (.fieldLink RX10 26 "ShellHeap$Tape" "fed" "I") (by decide +kernel)
  have w__fieldLink_RX10_29_ShellHeap_Tape_start_I_ := hts (.fieldLink RX10 29 "ShellHeap$Tape" "start" "I") (by decide +kernel)
  have w__fieldLink_RX10_32_ShellHeap_Tape_end_I_ := hts (.fieldLink RX10 32 "ShellHeap$Tape" "end" "I") (by decide +kernel)
  have w__fieldLink_RX10_35_ShellHeap_Tape_sort_I_ := hts (.fieldLink RX10 35 "ShellHeap$Tape" "sort" "I") (by decide +kernel)
  have w__fieldLink_RX10_38_ShellHeap_Tape_sign_I_ := hts (.fieldLink RX10 38 "ShellHeap$Tape" "sign" "I") (by decide +kernel)
  have w__fieldLink_RX10_41_ShellHeap_Tape_faultSort_I_ := hts (.fieldLink RX10 41 "ShellHeap$Tape" "faultSort" "I") (by decide +kernel)
  have w__fieldLink_RX10_44_ShellHeap_Tape_faultPlace_I_ := hts (.fieldLink RX10 44 "ShellHeap$Tape" "faultPlace" "I") (by decide +kernel)
  have hl := lv_entry ([.ref h0]) (n := 1) (Nat.le_of_ble_eq_true rfl)
  rw [lg_entry_eq]
  generalize (lg_sl ([.ref h0]) ++ List.replicate (1 - (lg_sl ([.ref h0])).length) Slot.unset).toArray = ls at hl ⊢
  have hl : lv_has ls 1 [(0, .ref h0)] := hl
  refine lv_aload_n hx hb dX10_init_0 rfl (lv_at hl 0 rfl) ?_
  refine W.objInit hx hb hown w__methodLink_RX10_3_objectInit w__instanceMethod_objectInit w__code_objectInit_0xb1_1_none rfl (by rw [hml]; exact hl.1) rfl dX10_init_1 (Nat.le_of_ble_eq_true rfl) (Nat.le_of_ble_eq_true rfl) ?_
  refine W.eq (g2 := F0 m 4 ls []) rfl ?_
  refine lv_aload_n hx hb dX10_init_4 rfl (lv_at hl 0 rfl) ?_
  refine lv_sipush (v := 700) hx hb dX10_init_5 (by decide) ?_
  refine va_newa (atype := .int) (ty := .int) (N' := 700) (a0 := (700, .inl (fun _ => 0))) hx hb w__arrayClass_int rfl hK hP hD hS hA (z_newI 700) (by decide) (by decide) (by decide) (Nat.le_of_ble_eq_true rfl) (Nat.le_of_ble_eq_true rfl) dX10_init_8 ?_
  clear hK hP hD hS
  intro q_1 cA_2 H_3 hK hP hD hS
  replace hK : va_K (dC, dI) vwCl [(cA_2, .int)] s := hK
  replace hP : va_P (dC, dI) vwCl [(h0, .inr (10, [.null, .int 0, .int 0, .int 0, .int 0, .int 0, .int 0, .int 0, .int 0, .int 0, .int 0])), (q_1, .inl (cA_2, 700, .inl (fun _ => 0)))] H_3 := hP
  replace hD : va_D A [(h0, .inr (10, [.null, .int 0, .int 0, .int 0, .int 0, .int 0, .int 0, .int 0, .int 0, .int 0, .int 0])), (q_1, .inl (cA_2, 700, .inl (fun _ => 0)))] := hD
  refine va_putF (D := (dC, dI)) (ci := 10) (v := .ref q_1) (ty := .array .int) (C := RX10) (T := TX10) (N := 11) hx hb hts hiX10 tyX10 tyX10_ok nmX10 hown hK hP hD hS 0 rfl rfl 0 (by decide) w__fieldLink_RX10_11_ShellHeap_Tape_bytes_I_ (fun _ h9 => h9) rfl hin rfl (by decide +kernel) rfl rfl (Nat.le_of_ble_eq_true rfl) dX10_init_10 ?_
  clear hP hD hS
  intro H_4 locs hP hD hS
  have h9 := z_s_0_0 hP hD
  clear hP hD
  obtain ⟨hP, hD⟩ := h9
  refine lv_aload_n hx hb dX10_init_13 rfl (lv_at hl 0 rfl) ?_
  refine lv_iconst (v := 0) hx hb dX10_init_14 (by decide) ?_
  refine va_put (D := (dC, dI)) (ci := 10) (v := .int 0) (ty := .int) (C := RX10) (T := TX10) (N := 11) hx hb hts hiX10 tyX10 tyX10_ok nmX10 hown hK hP hD hS 0 rfl rfl 1 (by decide) w__fieldLink_RX10_15_ShellHeap_Tape_text_I_ (fun _ h9 => h9) rfl (by decide +kernel) rfl rfl (Nat.le_of_ble_eq_true rfl) dX10_init_15 ?_
  clear hP hD hS
  intro H_5 locs hP hD hS
  have h9 := z_s_0_1 hP hD
  clear hP hD
  obtain ⟨hP, hD⟩ := h9
  refine lv_aload_n hx hb dX10_init_18 rfl (lv_at hl 0 rfl) ?_
  refine lv_iconst (v := 0) hx hb dX10_init_19 (by decide) ?_
  refine va_put (D := (dC, dI)) (ci := 10) (v := .int 0) (ty := .int) (C := RX10) (T := TX10) (N := 11) hx hb hts hiX10 tyX10 tyX10_ok nmX10 hown hK hP hD hS 0 rfl rfl 2 (by decide) w__fieldLink_RX10_19_ShellHeap_Tape_at_I_ (fun _ h9 => h9) rfl (by decide +kernel) rfl rfl (Nat.le_of_ble_eq_true rfl) dX10_init_20 ?_
  clear hP hD hS
  intro H_6 locs hP hD hS
  have h9 := z_s_0_2 hP hD
  clear hP hD
  obtain ⟨hP, hD⟩ := h9
  refine lv_aload_n hx hb dX10_init_23 rfl (lv_at hl 0 rfl) ?_
  refine lv_iconst (v := 0) hx hb dX10_init_24 (by decide) ?_
  refine va_put (D := (dC, dI)) (ci := 10) (v := .int 0) (ty := .boolean) (C := RX10) (T := TX10) (N := 11) hx hb hts hiX10 tyX10 tyX10_ok nmX10 hown hK hP hD hS 0 rfl rfl 3 (by decide) w__fieldLink_RX10_22_ShellHeap_Tape_digitsJoin_Z_ (fun _ h9 => h9) rfl (by decide +kernel) rfl rfl (Nat.le_of_ble_eq_true rfl) dX10_init_25 ?_
  clear hP hD hS
  intro H_7 locs hP hD hS
  have h9 := z_s_0_3 hP hD
  clear hP hD
  obtain ⟨hP, hD⟩ := h9
  refine lv_aload_n hx hb dX10_init_28 rfl (lv_at hl 0 rfl) ?_
  refine lv_iconst (v := 0) hx hb dX10_init_29 (by decide) ?_
  refine va_put (D := (dC, dI)) (ci := 10) (v := .int 0) (ty := .int) (C := RX10) (T := TX10) (N := 11) hx hb hts hiX10 tyX10 tyX10_ok nmX10 hown hK hP hD hS 0 rfl rfl 4 (by decide) w__fieldLink_RX10_26_ShellHeap_Tape_fed_I_ (fun _ h9 => h9) rfl (by decide +kernel) rfl rfl (Nat.le_of_ble_eq_true rfl) dX10_init_30 ?_
  clear hP hD hS
  intro H_8 locs hP hD hS
  have h9 := z_s_0_4 hP hD
  clear hP hD
  obtain ⟨hP, hD⟩ := h9
  refine lv_aload_n hx hb dX10_init_33 rfl (lv_at hl 0 rfl) ?_
  refine lv_iconst (v := 0) hx hb dX10_init_34 (by decide) ?_
  refine va_put (D := (dC, dI)) (ci := 10) (v := .int 0) (ty := .int) (C := RX10) (T := TX10) (N := 11) hx hb hts hiX10 tyX10 tyX10_ok nmX10 hown hK hP hD hS 0 rfl rfl 5 (by decide) w__fieldLink_RX10_29_ShellHeap_Tape_start_I_ (fun _ h9 => h9) rfl (by decide +kernel) rfl rfl (Nat.le_of_ble_eq_true rfl) dX10_init_35 ?_
  clear hP hD hS
  intro H_9 locs hP hD hS
  have h9 := z_s_0_5 hP hD
  clear hP hD
  obtain ⟨hP, hD⟩ := h9
  refine lv_aload_n hx hb dX10_init_38 rfl (lv_at hl 0 rfl) ?_
  refine lv_iconst (v := 0) hx hb dX10_init_39 (by decide) ?_
  refine va_put (D := (dC, dI)) (ci := 10) (v := .int 0) (ty := .int) (C := RX10) (T := TX10) (N := 11) hx hb hts hiX10 tyX10 tyX10_ok nmX10 hown hK hP hD hS 0 rfl rfl 6 (by decide) w__fieldLink_RX10_32_ShellHeap_Tape_end_I_ (fun _ h9 => h9) rfl (by decide +kernel) rfl rfl (Nat.le_of_ble_eq_true rfl) dX10_init_40 ?_
  clear hP hD hS
  intro H_10 locs hP hD hS
  have h9 := z_s_0_6 hP hD
  clear hP hD
  obtain ⟨hP, hD⟩ := h9
  refine lv_aload_n hx hb dX10_init_43 rfl (lv_at hl 0 rfl) ?_
  refine lv_iconst (v := 0) hx hb dX10_init_44 (by decide) ?_
  refine va_put (D := (dC, dI)) (ci := 10) (v := .int 0) (ty := .int) (C := RX10) (T := TX10) (N := 11) hx hb hts hiX10 tyX10 tyX10_ok nmX10 hown hK hP hD hS 0 rfl rfl 7 (by decide) w__fieldLink_RX10_35_ShellHeap_Tape_sort_I_ (fun _ h9 => h9) rfl (by decide +kernel) rfl rfl (Nat.le_of_ble_eq_true rfl) dX10_init_45 ?_
  clear hP hD hS
  intro H_11 locs hP hD hS
  have h9 := z_s_0_7 hP hD
  clear hP hD
  obtain ⟨hP, hD⟩ := h9
  refine lv_aload_n hx hb dX10_init_48 rfl (lv_at hl 0 rfl) ?_
  refine lv_iconst (v := (-1)) hx hb dX10_init_49 (by decide) ?_
  refine va_put (D := (dC, dI)) (ci := 10) (v := .int (-1)) (ty := .int) (C := RX10) (T := TX10) (N := 11) hx hb hts hiX10 tyX10 tyX10_ok nmX10 hown hK hP hD hS 0 rfl rfl 8 (by decide) w__fieldLink_RX10_38_ShellHeap_Tape_sign_I_ (fun _ h9 => h9) rfl (by decide +kernel) rfl rfl (Nat.le_of_ble_eq_true rfl) dX10_init_50 ?_
  clear hP hD hS
  intro H_12 locs hP hD hS
  have h9 := z_s_0_8 hP hD
  clear hP hD
  obtain ⟨hP, hD⟩ := h9
  refine lv_aload_n hx hb dX10_init_53 rfl (lv_at hl 0 rfl) ?_
  refine lv_iconst (v := 0) hx hb dX10_init_54 (by decide) ?_
  refine va_put (D := (dC, dI)) (ci := 10) (v := .int 0) (ty := .int) (C := RX10) (T := TX10) (N := 11) hx hb hts hiX10 tyX10 tyX10_ok nmX10 hown hK hP hD hS 0 rfl rfl 9 (by decide) w__fieldLink_RX10_41_ShellHeap_Tape_faultSort_I_ (fun _ h9 => h9) rfl (by decide +kernel) rfl rfl (Nat.le_of_ble_eq_true rfl) dX10_init_55 ?_
  clear hP hD hS
  intro H_13 locs hP hD hS
  have h9 := z_s_0_9 hP hD
  clear hP hD
  obtain ⟨hP, hD⟩ := h9
  refine lv_aload_n hx hb dX10_init_58 rfl (lv_at hl 0 rfl) ?_
  refine lv_iconst (v := (-1)) hx hb dX10_init_59 (by decide) ?_
  refine va_put (D := (dC, dI)) (ci := 10) (v := .int (-1)) (ty := .int) (C := RX10) (T := TX10) (N := 11) hx hb hts hiX10 tyX10 tyX10_ok nmX10 hown hK hP hD hS 0 rfl rfl 10 (by decide) w__fieldLink_RX10_44_ShellHeap_Tape_faultPlace_I_ (fun _ h9 => h9) rfl (by decide +kernel) rfl rfl (Nat.le_of_ble_eq_true rfl) dX10_init_60 ?_
  clear hP hD hS
  intro H_14 locs hP hD hS
  have h9 := z_s_0_10 hP hD
  clear hP hD
  obtain ⟨hP, hD⟩ := h9
  have hP9 := hP.sub (ws' := [(h0, .inr (10, [.ref q_1, .int 0, .int 0, .int 0, .int 0, .int 0, .int 0, .int 0, .int (-1), .int 0, .int (-1)])), (q_1, .inl (cA_2, 700, .inl (fun _ => 0)))]) [0, 1] rfl
  have hD9 := hD.sub (ws' := [(h0, .inr (10, [.ref q_1, .int 0, .int 0, .int 0, .int 0, .int 0, .int 0, .int 0, .int (-1), .int 0, .int (-1)])), (q_1, .inl (cA_2, 700, .inl (fun _ => 0)))]) [0, 1] (by decide) rfl
  have hK9 := hK.sub (tys' := [(cA_2, .int)]) [0] rfl
  refine W.widen (k := 1) (n := 700) (Nat.le_of_ble_eq_true rfl) (Nat.le_of_ble_eq_true rfl) ?_
  exact W.vret hx hb hr (fun t ht hW => ⟨⟨(), rfl, trivial, ⟨q_1, cA_2, by rw [ht]; exact hP9, va_K.moved hW.alike hK9, hD9⟩⟩, hS.F ht⟩) hS.2.2 dX10_init_63
