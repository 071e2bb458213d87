def u_c_X2_make : List Cond := .code yX2_init cX2_init 1 none :: ([.methodLink RX2 3 objectInit, .instanceMethod objectInit, .code objectInit ⟨#[0xb1]⟩ 1 none, .fieldLink RX2 9 "ShellHeap$Ground" "w" "I", .fieldLink RX2 15 "ShellHeap$Ground" "h" "I", .arrayClass .int, .fieldLink RX2 18 "ShellHeap$Ground" "xs" "[I", .fieldLink RX2 22 "ShellHeap$Ground" "ys" "[I", .fieldLink RX2 25 "ShellHeap$Ground" "ofBed" "[I", .fieldLink RX2 28 "ShellHeap$Ground" "without" "[I", .fieldLink RX2 31 "ShellHeap$Ground" "thickness" "[I", .fieldLink RX2 34 "ShellHeap$Ground" "columns" "I", .fieldLink RX2 37 "ShellHeap$Ground" "whole" "I", .fieldLink RX2 40 "ShellHeap$Ground" "least" "I", .fieldLink RX2 43 "ShellHeap$Ground" "greatest" "I"] ++ wsX20)
set_option maxHeartbeats 4000000 in
set_option maxRecDepth 100000 in
theorem c_X2_make (l : Launch) (dC : Nat → ClassId) (dI : Nat → Nat → Nat) (sz : Nat) (h0 : Nat) : Met l yX2_init u_c_X2_make ({ frames := 1, cells := 5, slots := 160, locals := 12 }) (va_Pc [.ref h0] (z_C (dC, dI) vwCl [(h0, .inr (2, [.int 0, .int 0, .null, .null, .null, .null, .null, .int 0, .int 0, .int 0, .int 0]))] [] sz)) (va_Qv (fun (_ : Unit) => True) (fun (_ : Unit) (t : State) => ∃ (qa2 : Nat), ∃ (qc2 : ClassId), ∃ (qa3 : Nat), ∃ (qc3 : ClassId), ∃ (qa4 : Nat), ∃ (qc4 : ClassId), ∃ (qa5 : Nat), ∃ (qc5 : ClassId), ∃ (qa6 : Nat), ∃ (qc6 : ClassId), va_P (dC, dI) vwCl [(h0, .inr (2, [.int 6, .int 6, .ref qa2, .ref qa3, .ref qa4, .ref qa5, .ref qa6, .int 0, .int 0, .int 0, .int 0])), (qa2, .inl (qc2, 10, .inl (fun _ => 0))), (qa3, .inl (qc3, 10, .inl (fun _ => 0))), (qa4, .inl (qc4, 10, .inl (fun _ => 0))), (qa5, .inl (qc5, 10, .inl (fun _ => 0))), (qa6, .inl (qc6, 120, .inl (fun _ => 0)))] t.heap ∧ va_K (dC, dI) vwCl [(qc2, .int), (qc3, .int), (qc4, .int), (qc5, .int), (qc6, .int)] t ∧ va_D (va_A [(h0, .inr (2, [.int 0, .int 0, .null, .null, .null, .null, .null, .int 0, .int 0, .int 0, .int 0]))] sz) [(h0, .inr (2, [.int 6, .int 6, .ref qa2, .ref qa3, .ref qa4, .ref qa5, .ref qa6, .int 0, .int 0, .int 0, .int 0])), (qa2, .inl (qc2, 10, .inl (fun _ => 0))), (qa3, .inl (qc3, 10, .inl (fun _ => 0))), (qa4, .inl (qc4, 10, .inl (fun _ => 0))), (qa5, .inl (qc5, 10, .inl (fun _ => 0))), (qa6, .inl (qc6, 120, .inl (fun _ => 0)))]) (va_A [(h0, .inr (2, [.int 0, .int 0, .null, .null, .null, .null, .null, .int 0, .int 0, .int 0, .int 0]))] sz)) 5 160 (va_A [(h0, .inr (2, [.int 0, .int 0, .null, .null, .null, .null, .null, .int 0, .int 0, .int 0, .int 0]))] sz) := by
  refine Met.ofW (cc := cX2_init) (maxL := 1) (ret := none) (by decide) rfl ?_
  intro p e s m args below meth c s₁ B hml hv
  obtain ⟨rfl, hsz, hP, hK, hD0⟩ := hv
  have hx := B.exec
  have hb := B.bytes
  have hr := B.returns
  have hts := atoms_spec (ws := u_c_X2_make) B.pre
  have hown : s.vm.findClass RX2 = some m.cls := findClass_of_methodNamed B.named
  have hlocks := B.notSynchronized
  have hin : meth.name = "<init>" := (name_of_methodNamed B.named B.method).1
  subst hsz
  have hD := hD0.self (sz := s.heap.size)
  generalize hAe : va_A [(h0, .inr (2, [.int 0, .int 0, .null, .null, .null, .null, .null, .int 0, .int 0, .int 0, .int 0]))] s.heap.size = A at hD ⊢
  have hA : ∀ q : Nat, s.heap.size ≤ q → A q := fun q h => by rw [← hAe]; exact Or.inr h
  have hS : va_S A s.heap s.heap [] := va_S.rf
  have hP : va_P (dC, dI) vwCl [(h0, .inr (2, [.int 0, .int 0, .null, .null, .null, .null, .null, .int 0, .int 0, .int 0, .int 0]))] s.heap := hP
  have w__methodLink_RX2_3_objectInit := hts (.methodLink RX2 3 objectInit) (by decide +kernel)
  have w__instanceMethod_objectInit := hts (.instanceMethod objectInit) (by decide +kernel)
  have w__code_objectInit_0xb1_1_none := hts (.code objectInit ⟨#[0xb1]⟩ 1 none) (by decide +kernel)
  have w__fieldLink_RX2_9_ShellHeap_Ground_w_I_ := hts (.fieldLink RX2 9 "ShellHeap$Ground" "w" "I") (by decide +kernel)
  have hiX2 := show ∀ w ∈ u_ws RX2 TX2 11, w ∈ u_c_X2_make by decide +kernel
  have w__fieldLink_RX2_15_ShellHeap_Ground_h_I_ := hts (.fieldLink RX2 15 "ShellHeap$Ground" "h" "I") (by decide +kernel)
  have w__arrayClass_int := hts (.arrayClass .int) (by decide +kernel)
  have w__fieldLink_RX2_18_ShellHeap_Ground_xs_I_ := hts (.fieldLink RX2 18 "ShellHeap$Ground" "xs" "[I") (by decide +kernel)
  have w__fieldLink_RX2_22_ShellHeap_Ground_ys_I_ := hts (.fieldLink RX2 22 "ShellHeap$Ground" "ys" "[I") (by decide +kernel)
  have w__fieldLink_RX2_25_ShellHeap_Ground_ofBed_I_ := hts (.fieldLink RX2 25 "ShellHeap$Ground" "ofBed" "[I") (by decide +kernel)
  have w__fieldLink_RX2_28_ShellHeap_Ground_without_I_ := hts (.fieldLink RX2 28 "ShellHeap$Ground" "without" "[I") (by decide +kernel)
  have w__fieldLink_RX2_31_ShellHeap_Ground_thickness_I_ := hts (.fieldLink RX2 31 "ShellHeap$Ground" "thickness" "[I") (by decide +kernel)
  have w__fieldLink_RX2_34_ShellHeap_Ground_columns_I_ := hts (.fieldLink RX2 34 "ShellHeap$Ground" "columns" "I") (by decide +kernel)
  have w__fieldLink_RX2_37_ShellHeap_Ground_whole_I_ := hts (.fieldLink RX2 37 "ShellHeap$Ground" "whole" "I") (by decide +kernel)
  have w__fieldLink_RX2_40_ShellHeap_Ground_least_I_ := hts (.fieldLink RX2 40 "ShellHeap$Ground" "least" "I") (by decide +kernel)
  have w__fieldLink_RX2_43_ShellHeap_Ground_greatest_I_ := hts (.fieldLink RX2 43 "ShellHeap$Ground" "greatest" "I") (by decide +kernel)
  have hl := lv_entry ([.ref h0]) (n := 1) (Nat.le_of_ble_eq_true rfl)
  rw [lg_entry_eq]
  generalize (lg_sl ([.ref h0]) ++ List.replicate (1 - (lg_sl ([.ref h0])).length) Slot.unset).toArray = ls at hl ⊢
  have hl : lv_has ls 1 [(0, .ref h0)] := hl
  refine lv_aload_n hx hb dX2_init_0 rfl (lv_at hl 0 rfl) ?_
  refine W.objInit hx hb hown w__methodLink_RX2_3_objectInit w__instanceMethod_objectInit w__code_objectInit_0xb1_1_none rfl (by rw [hml]; exact hl.1) rfl dX2_init_1 (Nat.le_of_ble_eq_true rfl) (Nat.le_of_ble_eq_true rfl) ?_
  refine W.eq (g2 := F0 m 4 ls []) rfl ?_
  refine lv_aload_n hx hb dX2_init_4 rfl (lv_at hl 0 rfl) ?_
  refine lv_bipush (v := 6) hx hb dX2_init_5 (by decide) ?_
  refine va_put (D := (dC, dI)) (ci := 2) (v := .int 6) (ty := .int) (C := RX2) (T := TX2) (N := 11) hx hb hts hiX2 tyX2 tyX2_ok nmX2 hown hK hP hD hS 0 rfl rfl 0 (by decide) w__fieldLink_RX2_9_ShellHeap_Ground_w_I_ (fun _ h9 => h9) rfl (by decide +kernel) rfl rfl (Nat.le_of_ble_eq_true rfl) dX2_init_7 ?_
  clear hP hD hS
  intro H_1 locs hP hD hS
  have h9 := z_s_0_0 hP hD
  clear hP hD
  obtain ⟨hP, hD⟩ := h9
  refine lv_aload_n hx hb dX2_init_10 rfl (lv_at hl 0 rfl) ?_
  refine lv_bipush (v := 6) hx hb dX2_init_11 (by decide) ?_
  refine va_put (D := (dC, dI)) (ci := 2) (v := .int 6) (ty := .int) (C := RX2) (T := TX2) (N := 11) hx hb hts hiX2 tyX2 tyX2_ok nmX2 hown hK hP hD hS 0 rfl rfl 1 (by decide) w__fieldLink_RX2_15_ShellHeap_Ground_h_I_ (fun _ h9 => h9) rfl (by decide +kernel) rfl rfl (Nat.le_of_ble_eq_true rfl) dX2_init_13 ?_
  clear hP hD hS
  intro H_2 locs hP hD hS
  have h9 := z_s_0_1 hP hD
  clear hP hD
  obtain ⟨hP, hD⟩ := h9
  refine lv_aload_n hx hb dX2_init_16 rfl (lv_at hl 0 rfl) ?_
  refine lv_bipush (v := 10) hx hb dX2_init_17 (by decide) ?_
  refine va_newa (atype := .int) (ty := .int) (N' := 10) (a0 := (10, .inl (fun _ => 0))) hx hb w__arrayClass_int rfl hK hP hD hS hA (z_newI 10) (by decide) (by decide) (by decide) (Nat.le_of_ble_eq_true rfl) (Nat.le_of_ble_eq_true rfl) dX2_init_19 ?_
  clear hK hP hD hS
  intro q_3 cA_4 H_5 hK hP hD hS
  replace hK : va_K (dC, dI) vwCl [(cA_4, .int)] s := hK
  replace hP : va_P (dC, dI) vwCl [(h0, .inr (2, [.int 6, .int 6, .null, .null, .null, .null, .null, .int 0, .int 0, .int 0, .int 0])), (q_3, .inl (cA_4, 10, .inl (fun _ => 0)))] H_5 := hP
  replace hD : va_D A [(h0, .inr (2, [.int 6, .int 6, .null, .null, .null, .null, .null, .int 0, .int 0, .int 0, .int 0])), (q_3, .inl (cA_4, 10, .inl (fun _ => 0)))] := hD
  refine va_putF (D := (dC, dI)) (ci := 2) (v := .ref q_3) (ty := .array .int) (C := RX2) (T := TX2) (N := 11) hx hb hts hiX2 tyX2 tyX2_ok nmX2 hown hK hP hD hS 0 rfl rfl 2 (by decide) w__fieldLink_RX2_18_ShellHeap_Ground_xs_I_ (fun _ h9 => h9) rfl hin rfl (by decide +kernel) rfl rfl (Nat.le_of_ble_eq_true rfl) dX2_init_21 ?_
  clear hP hD hS
  intro H_6 locs hP hD hS
  have h9 := z_s_0_2 hP hD
  clear hP hD
  obtain ⟨hP, hD⟩ := h9
  refine lv_aload_n hx hb dX2_init_24 rfl (lv_at hl 0 rfl) ?_
  refine lv_bipush (v := 10) hx hb dX2_init_25 (by decide) ?_
  refine va_newa (atype := .int) (ty := .int) (N' := 10) (a0 := (10, .inl (fun _ => 0))) hx hb w__arrayClass_int rfl hK hP hD hS hA (z_newI 10) (by decide) (by decide) (by decide) (Nat.le_of_ble_eq_true rfl) (Nat.le_of_ble_eq_true rfl) dX2_init_27 ?_
  clear hK hP hD hS
  intro q_7 cA_8 H_9 hK hP hD hS
  replace hK : va_K (dC, dI) vwCl [(cA_4, .int), (cA_8, .int)] s := hK
  replace hP : va_P (dC, dI) vwCl [(h0, .inr (2, [.int 6, .int 6, .ref q_3, .null, .null, .null, .null, .int 0, .int 0, .int 0, .int 0])), (q_3, .inl (cA_4, 10, .inl (fun _ => 0))), (q_7, .inl (cA_8, 10, .inl (fun _ => 0)))] H_9 := hP
  replace hD : va_D A [(h0, .inr (2, [.int 6, .int 6, .ref q_3, .null, .null, .null, .null, .int 0, .int 0, .int 0, .int 0])), (q_3, .inl (cA_4, 10, .inl (fun _ => 0))), (q_7, .inl (cA_8, 10, .inl (fun _ => 0)))] := hD
  refine va_putF (D := (dC, dI)) (ci := 2) (v := .ref q_7) (ty := .array .int) (C := RX2) (T := TX2) (N := 11) hx hb hts hiX2 tyX2 tyX2_ok nmX2 hown hK hP hD hS 0 rfl rfl 3 (by decide) w__fieldLink_RX2_22_ShellHeap_Ground_ys_I_ (fun _ h9 => h9) rfl hin rfl (by decide +kernel) rfl rfl (Nat.le_of_ble_eq_true rfl) dX2_init_29 ?_
  clear hP hD hS
  intro H_10 locs hP hD hS
  have h9 := z_s_0_3 hP hD
  clear hP hD
  obtain ⟨hP, hD⟩ := h9
  refine lv_aload_n hx hb dX2_init_32 rfl (lv_at hl 0 rfl) ?_
  refine lv_bipush (v := 10) hx hb dX2_init_33 (by decide) ?_
  refine va_newa (atype := .int) (ty := .int) (N' := 10) (a0 := (10, .inl (fun _ => 0))) hx hb w__arrayClass_int rfl hK hP hD hS hA (z_newI 10) (by decide) (by decide) (by decide) (Nat.le_of_ble_eq_true rfl) (Nat.le_of_ble_eq_true rfl) dX2_init_35 ?_
  clear hK hP hD hS
  intro q_11 cA_12 H_13 hK hP hD hS
  replace hK : va_K (dC, dI) vwCl [(cA_4, .int), (cA_8, .int), (cA_12, .int)] s := hK
  replace hP : va_P (dC, dI) vwCl [(h0, .inr (2, [.int 6, .int 6, .ref q_3, .ref q_7, .null, .null, .null, .int 0, .int 0, .int 0, .int 0])), (q_3, .inl (cA_4, 10, .inl (fun _ => 0))), (q_7, .inl (cA_8, 10, .inl (fun _ => 0))), (q_11, .inl (cA_12, 10, .inl (fun _ => 0)))] H_13 := hP
  replace hD : va_D A [(h0, .inr (2, [.int 6, .int 6, .ref q_3, .ref q_7, .null, .null, .null, .int 0, .int 0, .int 0, .int 0])), (q_3, .inl (cA_4, 10, .inl (fun _ => 0))), (q_7, .inl (cA_8, 10, .inl (fun _ => 0))), (q_11, .inl (cA_12, 10, .inl (fun _ => 0)))] := hD
  refine va_putF (D := (dC, dI)) (ci := 2) (v := .ref q_11) (ty := .array .int) (C := RX2) (T := TX2) (N := 11) hx hb hts hiX2 tyX2 tyX2_ok nmX2 hown hK hP hD hS 0 rfl rfl 4 (by decide) w__fieldLink_RX2_25_ShellHeap_Ground_ofBed_I_ (fun _ h9 => h9) rfl hin rfl (by decide +kernel) rfl rfl (Nat.le_of_ble_eq_true rfl) dX2_init_37 ?_
  clear hP hD hS
  intro H_14 locs hP hD hS
  have h9 := z_s_0_4 hP hD
  clear hP hD
  obtain ⟨hP, hD⟩ := h9
  refine lv_aload_n hx hb dX2_init_40 rfl (lv_at hl 0 rfl) ?_
  refine lv_bipush (v := 10) hx hb dX2_init_41 (by decide) ?_
  refine va_newa (atype := .int) (ty := .int) (N' := 10) (a0 := (10, .inl (fun _ => 0))) hx hb w__arrayClass_int rfl hK hP hD hS hA (z_newI 10) (by decide) (by decide) (by decide) (Nat.le_of_ble_eq_true rfl) (Nat.le_of_ble_eq_true rfl) dX2_init_43 ?_
  clear hK hP hD hS
  intro q_15 cA_16 H_17 hK hP hD hS
  replace hK : va_K (dC, dI) vwCl [(cA_4, .int), (cA_8, .int), (cA_12, .int), (cA_16, .int)] s := hK
  replace hP : va_P (dC, dI) vwCl [(h0, .inr (2, [.int 6, .int 6, .ref q_3, .ref q_7, .ref q_11, .null, .null, .int 0, .int 0, .int 0, .int 0])), (q_3, .inl (cA_4, 10, .inl (fun _ => 0))), (q_7, .inl (cA_8, 10, .inl (fun _ => 0))), (q_11, .inl (cA_12, 10, .inl (fun _ => 0))), (q_15, .inl (cA_16, 10, .inl (fun _ => 0)))] H_17 := hP
  replace hD : va_D A [(h0, .inr (2, [.int 6, .int 6, .ref q_3, .ref q_7, .ref q_11, .null, .null, .int 0, .int 0, .int 0, .int 0])), (q_3, .inl (cA_4, 10, .inl (fun _ => 0))), (q_7, .inl (cA_8, 10, .inl (fun _ => 0))), (q_11, .inl (cA_12, 10, .inl (fun _ => 0))), (q_15, .inl (cA_16, 10, .inl (fun _ => 0)))] := hD
  refine va_putF (D := (dC, dI)) (ci := 2) (v := .ref q_15) (ty := .array .int) (C := RX2) (T := TX2) (N := 11) hx hb hts hiX2 tyX2 tyX2_ok nmX2 hown hK hP hD hS 0 rfl rfl 5 (by decide) w__fieldLink_RX2_28_ShellHeap_Ground_without_I_ (fun _ h9 => h9) rfl hin rfl (by decide +kernel) rfl rfl (Nat.le_of_ble_eq_true rfl) dX2_init_45 ?_
  clear hP hD hS
  intro H_18 locs hP hD hS
  have h9 := z_s_0_5 hP hD
  clear hP hD
  obtain ⟨hP, hD⟩ := h9
  refine lv_aload_n hx hb dX2_init_48 rfl (lv_at hl 0 rfl) ?_
  refine lv_bipush (v := 120) hx hb dX2_init_49 (by decide) ?_
  refine va_newa (atype := .int) (ty := .int) (N' := 120) (a0 := (120, .inl (fun _ => 0))) hx hb w__arrayClass_int rfl hK hP hD hS hA (z_newI 120) (by decide) (by decide) (by decide) (Nat.le_of_ble_eq_true rfl) (Nat.le_of_ble_eq_true rfl) dX2_init_51 ?_
  clear hK hP hD hS
  intro q_19 cA_20 H_21 hK hP hD hS
  replace hK : va_K (dC, dI) vwCl [(cA_4, .int), (cA_8, .int), (cA_12, .int), (cA_16, .int), (cA_20, .int)] s := hK
  replace hP : va_P (dC, dI) vwCl [(h0, .inr (2, [.int 6, .int 6, .ref q_3, .ref q_7, .ref q_11, .ref q_15, .null, .int 0, .int 0, .int 0, .int 0])), (q_3, .inl (cA_4, 10, .inl (fun _ => 0))), (q_7, .inl (cA_8, 10, .inl (fun _ => 0))), (q_11, .inl (cA_12, 10, .inl (fun _ => 0))), (q_15, .inl (cA_16, 10, .inl (fun _ => 0))), (q_19, .inl (cA_20, 120, .inl (fun _ => 0)))] H_21 := hP
  replace hD : va_D A [(h0, .inr (2, [.int 6, .int 6, .ref q_3, .ref q_7, .ref q_11, .ref q_15, .null, .int 0, .int 0, .int 0, .int 0])), (q_3, .inl (cA_4, 10, .inl (fun _ => 0))), (q_7, .inl (cA_8, 10, .inl (fun _ => 0))), (q_11, .inl (cA_12, 10, .inl (fun _ => 0))), (q_15, .inl (cA_16, 10, .inl (fun _ => 0))), (q_19, .inl (cA_20, 120, .inl (fun _ => 0)))] := hD
  refine va_putF (D := (dC, dI)) (ci := 2) (v := .ref q_19) (ty := .array .int) (C := RX2) (T := TX2) (N := 11) hx hb hts hiX2 tyX2 tyX2_ok nmX2 hown hK hP hD hS 0 rfl rfl 6 (by decide) w__fieldLink_RX2_31_ShellHeap_Ground_thickness_I_ (fun _ h9 => h9) rfl hin rfl (by decide +kernel) rfl rfl (Nat.le_of_ble_eq_true rfl) dX2_init_53 ?_
  clear hP hD hS
  intro H_22 locs hP hD hS
  have h9 := z_s_0_6 hP hD
  clear hP hD
  obtain ⟨hP, hD⟩ := h9
  refine lv_aload_n hx hb dX2_init_56 rfl (lv_at hl 0 rfl) ?_
  refine lv_iconst (v := 0) hx hb dX2_init_57 (by decide) ?_
  refine va_put (D := (dC, dI)) (ci := 2) (v := .int 0) (ty := .int) (C := RX2) (T := TX2) (N := 11) hx hb hts hiX2 tyX2 tyX2_ok nmX2 hown hK hP hD hS 0 rfl rfl 7 (by decide) w__fieldLink_RX2_34_ShellHeap_Ground_columns_I_ (fun _ h9 => h9) rfl (by decide +kernel) rfl rfl (Nat.le_of_ble_eq_true rfl) dX2_init_58 ?_
  clear hP hD hS
  intro H_23 locs hP hD hS
  have h9 := z_s_0_7 hP hD
  clear hP hD
  obtain ⟨hP, hD⟩ := h9
  refine lv_aload_n hx hb dX2_init_61 rfl (lv_at hl 0 rfl) ?_
  refine lv_iconst (v := 0) hx hb dX2_init_62 (by decide) ?_
  refine va_put (D := (dC, dI)) (ci := 2) (v := .int 0) (ty := .int) (C := RX2) (T := TX2) (N := 11) hx hb hts hiX2 tyX2 tyX2_ok nmX2 hown hK hP hD hS 0 rfl rfl 8 (by decide) w__fieldLink_RX2_37_ShellHeap_Ground_whole_I_ (fun _ h9 => h9) rfl (by decide +kernel) rfl rfl (Nat.le_of_ble_eq_true rfl) dX2_init_63 ?_
  clear hP hD hS
  intro H_24 locs hP hD hS
  have h9 := z_s_0_8 hP hD
  clear hP hD
  obtain ⟨hP, hD⟩ := h9
  refine lv_aload_n hx hb dX2_init_66 rfl (lv_at hl 0 rfl) ?_
  refine lv_iconst (v := 0) hx hb dX2_init_67 (by decide) ?_
  refine va_put (D := (dC, dI)) (ci := 2) (v := .int 0) (ty := .int) (C := RX2) (T := TX2) (N := 11) hx hb hts hiX2 tyX2 tyX2_ok nmX2 hown hK hP hD hS 0 rfl rfl 9 (by decide) w__fieldLink_RX2_40_ShellHeap_Ground_least_I_ (fun _ h9 => h9) rfl (by decide +kernel) rfl rfl (Nat.le_of_ble_eq_true rfl) dX2_init_68 ?_
  clear hP hD hS
  intro H_25 locs hP hD hS
  have h9 := z_s_0_9 hP hD
  clear hP hD
  obtain ⟨hP, hD⟩ := h9
  refine lv_aload_n hx hb dX2_init_71 rfl (lv_at hl 0 rfl) ?_
  refine lv_iconst (v := 0) hx hb dX2_init_72 (by decide) ?_
  refine va_put (D := (dC, dI)) (ci := 2) (v := .int 0) (ty := .int) (C := RX2) (T := TX2) (N := 11) hx hb hts hiX2 tyX2 tyX2_ok nmX2 hown hK hP hD hS 0 rfl rfl 10 (by decide) w__fieldLink_RX2_43_ShellHeap_Ground_greatest_I_ (fun _ h9 => h9) rfl (by decide +kernel) rfl rfl (Nat.le_of_ble_eq_true rfl) dX2_init_73 ?_
  clear hP hD hS
  intro H_26 locs hP hD hS
  have h9 := z_s_0_10 hP hD
  clear hP hD
  obtain ⟨hP, hD⟩ := h9
  have hP9 := hP.sub (ws' := [(h0, .inr (2, [.int 6, .int 6, .ref q_3, .ref q_7, .ref q_11, .ref q_15, .ref q_19, .int 0, .int 0, .int 0, .int 0])), (q_3, .inl (cA_4, 10, .inl (fun _ => 0))), (q_7, .inl (cA_8, 10, .inl (fun _ => 0))), (q_11, .inl (cA_12, 10, .inl (fun _ => 0))), (q_15, .inl (cA_16, 10, .inl (fun _ => 0))), (q_19, .inl (cA_20, 120, .inl (fun _ => 0)))]) [0, 1, 2, 3, 4, 5] rfl
  have hD9 := hD.sub (ws' := [(h0, .inr (2, [.int 6, .int 6, .ref q_3, .ref q_7, .ref q_11, .ref q_15, .ref q_19, .int 0, .int 0, .int 0, .int 0])), (q_3, .inl (cA_4, 10, .inl (fun _ => 0))), (q_7, .inl (cA_8, 10, .inl (fun _ => 0))), (q_11, .inl (cA_12, 10, .inl (fun _ => 0))), (q_15, .inl (cA_16, 10, .inl (fun _ => 0))), (q_19, .inl (cA_20, 120, .inl (fun _ => 0)))]) [0, 1, 2, 3, 4, 5] (by decide) rfl
  have hK9 := hK.sub (tys' := [(cA_4, .int), (cA_8, .int), (cA_12, .int), (cA_16, .int), (cA_20, .int)]) [0, 1, 2, 3, 4] rfl
  refine W.widen (k := 5) (n := 160) (Nat.le_of_ble_eq_true rfl) (Nat.le_of_ble_eq_true rfl) ?_
  exact W.vret hx hb hr (fun t ht hW => ⟨⟨(), rfl, trivial, ⟨q_3, cA_4, q_7, cA_8, q_11, cA_12, q_15, cA_16, q_19, cA_20, by rw [ht]; exact hP9, va_K.moved hW.alike hK9, hD9⟩⟩, hS.F ht⟩) hS.2.2 dX2_init_76
