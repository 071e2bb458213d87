def u_c_X5_make : List Cond := .code yX5_init cX5_init 1 none :: ([.methodLink RX5 5 objectInit, .instanceMethod objectInit, .code objectInit ⟨#[0xb1]⟩ 1 none, .arrayClass .int, .fieldLink RX5 11 "ShellHeap$Pantry" "meats" "[I", .fieldLink RX5 15 "ShellHeap$Pantry" "valvesOf" "[I", .fieldLink RX5 18 "ShellHeap$Pantry" "found" "[I", .arrayClass .long, .fieldLink RX5 21 "ShellHeap$Pantry" "ofBed" "[J", .fieldLink RX5 25 "ShellHeap$Pantry" "keeps" "[I", .fieldLink RX5 28 "ShellHeap$Pantry" "leastNumber" "[J", .fieldLink RX5 31 "ShellHeap$Pantry" "righted" "[J", .fieldLink RX5 34 "ShellHeap$Pantry" "food" "J", .fieldLink RX5 38 "ShellHeap$Pantry" "lost" "J", .fieldLink RX5 41 "ShellHeap$Pantry" "kinds" "I"] ++ wsX50)
set_option maxHeartbeats 4000000 in
set_option maxRecDepth 100000 in
theorem c_X5_make (l : Launch) (dC : Nat → ClassId) (dI : Nat → Nat → Nat) (sz : Nat) (h0 : Nat) : Met l yX5_init u_c_X5_make ({ frames := 1, cells := 7, slots := 11712, locals := 12 }) (va_Pc [.ref h0] (z_C (dC, dI) vwCl [(h0, .inr (5, [.null, .null, .null, .null, .null, .null, .null, .long 0, .long 0, .int 0]))] [] sz)) (va_Qv (fun (_ : Unit) => True) (fun (_ : Unit) (t : State) => ∃ (qa0 : Nat), ∃ (qc0 : ClassId), ∃ (qa1 : Nat), ∃ (qc1 : ClassId), ∃ (qa2 : Nat), ∃ (qc2 : ClassId), ∃ (qa3 : Nat), ∃ (qc3 : ClassId), ∃ (qa4 : Nat), ∃ (qc4 : ClassId), ∃ (qa5 : Nat), ∃ (qc5 : ClassId), ∃ (qa6 : Nat), ∃ (qc6 : ClassId), va_P (dC, dI) vwCl [(h0, .inr (5, [.ref qa0, .ref qa1, .ref qa2, .ref qa3, .ref qa4, .ref qa5, .ref qa6, .long 0, .long 0, .int 0])), (qa0, .inl (qc0, 6, .inl (fun _ => 0))), (qa1, .inl (qc1, 6, .inl (fun _ => 0))), (qa2, .inl (qc2, 11520, .inl (fun _ => 0))), (qa3, .inl (qc3, 144, .inr (.inl (fun _ => 0)))), (qa4, .inl (qc4, 24, .inl (fun _ => 0))), (qa5, .inl (qc5, 6, .inr (.inl (fun _ => 0)))), (qa6, .inl (qc6, 6, .inr (.inl (fun _ => 0))))] t.heap ∧ va_K (dC, dI) vwCl [(qc0, .int), (qc1, .int), (qc2, .int), (qc3, .long), (qc4, .int), (qc5, .long), (qc6, .long)] t ∧ va_D (va_A [(h0, .inr (5, [.null, .null, .null, .null, .null, .null, .null, .long 0, .long 0, .int 0]))] sz) [(h0, .inr (5, [.ref qa0, .ref qa1, .ref qa2, .ref qa3, .ref qa4, .ref qa5, .ref qa6, .long 0, .long 0, .int 0])), (qa0, .inl (qc0, 6, .inl (fun _ => 0))), (qa1, .inl (qc1, 6, .inl (fun _ => 0))), (qa2, .inl (qc2, 11520, .inl (fun _ => 0))), (qa3, .inl (qc3, 144, .inr (.inl (fun _ => 0)))), (qa4, .inl (qc4, 24, .inl (fun _ => 0))), (qa5, .inl (qc5, 6, .inr (.inl (fun _ => 0)))), (qa6, .inl (qc6, 6, .inr (.inl (fun _ => 0))))]) (va_A [(h0, .inr (5, [.null, .null, .null, .null, .null, .null, .null, .long 0, .long 0, .int 0]))] sz)) 7 11712 (va_A [(h0, .inr (5, [.null, .null, .null, .null, .null, .null, .null, .long 0, .long 0, .int 0]))] sz) := by
  refine Met.ofW (cc := cX5_init) (maxL := 1) (ret := none) (by decide) rfl ?_
  intro p e s m args below meth c s₁ B hml hv
  obtain ⟨rfl, hsz, hP, hK, hD0⟩ := hv
  have hx := B.exec
  have hb := B.bytes
  have hr := B.returns
  have hts := atoms_spec (ws := u_c_X5_make) B.pre
  have hown : s.vm.findClass RX5 = some m.cls := findClass_of_methodNamed B.named
  have hlocks := B.notSynchronized
  have hin : meth.name = "<init>" := (name_of_methodNamed B.named B.method).1
  subst hsz
  have hD := hD0.self (sz := s.heap.size)
  generalize hAe : va_A [(h0, .inr (5, [.null, .null, .null, .null, .null, .null, .null, .long 0, .long 0, .int 0]))] s.heap.size = A at hD ⊢
  have hA : ∀ q : Nat, s.heap.size ≤ q → A q := fun q h => by rw [← hAe]; exact Or.inr h
  have hS : va_S A s.heap s.heap [] := va_S.rf
  have hP : va_P (dC, dI) vwCl [(h0, .inr (5, [.null, .null, .null, .null, .null, .null, .null, .long 0, .long 0, .int 0]))] s.heap := hP
  have w__methodLink_RX5_5_objectInit := hts (.methodLink RX5 5 objectInit) (by decide +kernel)
  have w__instanceMethod_objectInit := hts (.instanceMethod objectInit) (by decide +kernel)
  have w__code_objectInit_0xb1_1_none := hts (.code objectInit ⟨#[0xb1]⟩ 1 none) (by decide +kernel)
  have w__arrayClass_int := hts (.arrayClass .int) (by decide +kernel)
  have w__fieldLink_RX5_11_ShellHeap_Pantry_meats_I_ := hts (.fieldLink RX5 11 "ShellHeap$Pantry" "meats" "[I") (by decide +kernel)
  have hiX5 := show ∀ w ∈ u_ws RX5 TX5 10, w ∈ u_c_X5_make by decide +kernel
  have w__fieldLink_RX5_15_ShellHeap_Pantry_valvesOf_I_ := hts (.fieldLink RX5 15 "ShellHeap$Pantry" "valvesOf" "[I") (by decide +kernel)
  have w__fieldLink_RX5_18_ShellHeap_Pantry_found_I_ := hts (.fieldLink RX5 18 "ShellHeap$Pantry" "found" "[I") (by decide +kernel)
  have w__arrayClass_long := hts (.arrayClass .long) (by decide +kernel)
  have w__fieldLink_RX5_21_ShellHeap_Pantry_ofBed_J_ := hts (.fieldLink RX5 21 "ShellHeap$Pantry" "ofBed" "[J") (by decide +kernel)
  have w__fieldLink_RX5_25_ShellHeap_Pantry_keeps_I_ := hts (.fieldLink RX5 25 "ShellHeap$Pantry" "keeps" "[I") (by decide +kernel)
  have w__fieldLink_RX5_28_ShellHeap_Pantry_leastNumber_J_ := hts (.fieldLink RX5 28 "ShellHeap$Pantry" "leastNumber" "[J") (by decide +kernel)
  have w__fieldLink_RX5_31_ShellHeap_Pantry_righted_J_ := hts (.fieldLink RX5 31 "ShellHeap$Pantry" "righted" "[J") (by decide +kernel)
  have w__fieldLink_RX5_34_ShellHeap_Pantry_food_J_ := hts (.fieldLink RX5 34 "ShellHeap$Pantry" "food" "J") (by decide +kernel)
  have w__fieldLink_RX5_38_ShellHeap_Pantry_lost_J_ := hts (.fieldLink RX5 38 "ShellHeap$Pantry" "lost" "J") (by decide +kernel)
  have w__fieldLink_RX5_41_ShellHeap_Pantry_kinds_I_ := hts (.fieldLink RX5 41 "ShellHeap$Pantry" "kinds" "I") (by decide +kernel)
  have hl := lv_entry ([.ref h0]) (n := 1) (Nat.le_of_ble_eq_true rfl)
  rw [lg_entry_eq]
  generalize (lg_sl ([.ref h0]) ++ List.replicate (1 - (lg_sl ([.ref h0])).length) Slot.unset).toArray = ls at hl ⊢
  have hl : lv_has ls 1 [(0, .ref h0)] := hl
  refine lv_aload_n hx hb dX5_init_0 rfl (lv_at hl 0 rfl) ?_
  refine W.objInit hx hb hown w__methodLink_RX5_5_objectInit w__instanceMethod_objectInit w__code_objectInit_0xb1_1_none rfl (by rw [hml]; exact hl.1) rfl dX5_init_1 (Nat.le_of_ble_eq_true rfl) (Nat.le_of_ble_eq_true rfl) ?_
  refine W.eq (g2 := F0 m 4 ls []) rfl ?_
  refine lv_aload_n hx hb dX5_init_4 rfl (lv_at hl 0 rfl) ?_
  refine lv_bipush (v := 6) hx hb dX5_init_5 (by decide) ?_
  refine va_newa (atype := .int) (ty := .int) (N' := 6) (a0 := (6, .inl (fun _ => 0))) hx hb w__arrayClass_int rfl hK hP hD hS hA (z_newI 6) (by decide) (by decide) (by decide) (Nat.le_of_ble_eq_true rfl) (Nat.le_of_ble_eq_true rfl) dX5_init_7 ?_
  clear hK hP hD hS
  intro q_1 cA_2 H_3 hK hP hD hS
  replace hK : va_K (dC, dI) vwCl [(cA_2, .int)] s := hK
  replace hP : va_P (dC, dI) vwCl [(h0, .inr (5, [.null, .null, .null, .null, .null, .null, .null, .long 0, .long 0, .int 0])), (q_1, .inl (cA_2, 6, .inl (fun _ => 0)))] H_3 := hP
  replace hD : va_D A [(h0, .inr (5, [.null, .null, .null, .null, .null, .null, .null, .long 0, .long 0, .int 0])), (q_1, .inl (cA_2, 6, .inl (fun _ => 0)))] := hD
  refine va_putF (D := (dC, dI)) (ci := 5) (v := .ref q_1) (ty := .array .int) (C := RX5) (T := TX5) (N := 10) hx hb hts hiX5 tyX5 tyX5_ok nmX5 hown hK hP hD hS 0 rfl rfl 0 (by decide) w__fieldLink_RX5_11_ShellHeap_Pantry_meats_I_ (fun _ h9 => h9) rfl hin rfl (by decide +kernel) rfl rfl (Nat.le_of_ble_eq_true rfl) dX5_init_9 ?_
  clear hP hD hS
  intro H_4 locs hP hD hS
  have h9 := z_s_0_0 hP hD
  clear hP hD
  obtain ⟨hP, hD⟩ := h9
  refine lv_aload_n hx hb dX5_init_12 rfl (lv_at hl 0 rfl) ?_
  refine lv_bipush (v := 6) hx hb dX5_init_13 (by decide) ?_
  refine va_newa (atype := .int) (ty := .int) (N' := 6) (a0 := (6, .inl (fun _ => 0))) hx hb w__arrayClass_int rfl hK hP hD hS hA (z_newI 6) (by decide) (by decide) (by decide) (Nat.le_of_ble_eq_true rfl) (Nat.le_of_ble_eq_true rfl) dX5_init_15 ?_
  clear hK hP hD hS
  intro q_5 cA_6 H_7 hK hP hD hS
  replace hK : va_K (dC, dI) vwCl [(cA_2, .int), (cA_6, .int)] s := hK
  replace hP : va_P (dC, dI) vwCl [(h0, .inr (5, [.ref q_1, .null, .null, .null, .null, .null, .null, .long 0, .long 0, .int 0])), (q_1, .inl (cA_2, 6, .inl (fun _ => 0))), (q_5, .inl (cA_6, 6, .inl (fun _ => 0)))] H_7 := hP
  replace hD : va_D A [(h0, .inr (5, [.ref q_1, .null, .null, .null, .null, .null, .null, .long 0, .long 0, .int 0])), (q_1, .inl (cA_2, 6, .inl (fun _ => 0))), (q_5, .inl (cA_6, 6, .inl (fun _ => 0)))] := hD
  refine va_putF (D := (dC, dI)) (ci := 5) (v := .ref q_5) (ty := .array .int) (C := RX5) (T := TX5) (N := 10) hx hb hts hiX5 tyX5 tyX5_ok nmX5 hown hK hP hD hS 0 rfl rfl 1 (by decide) w__fieldLink_RX5_15_ShellHeap_Pantry_valvesOf_I_ (fun _ h9 => h9) rfl hin rfl (by decide +kernel) rfl rfl (Nat.le_of_ble_eq_true rfl) dX5_init_17 ?_
  clear hP hD hS
  intro H_8 locs hP hD hS
  have h9 := z_s_0_1 hP hD
  clear hP hD
  obtain ⟨hP, hD⟩ := h9
  refine lv_aload_n hx hb dX5_init_20 rfl (lv_at hl 0 rfl) ?_
  refine lv_sipush (v := 11520) hx hb dX5_init_21 (by decide) ?_
  refine va_newa (atype := .int) (ty := .int) (N' := 11520) (a0 := (11520, .inl (fun _ => 0))) hx hb w__arrayClass_int rfl hK hP hD hS hA (z_newI 11520) (by decide) (by decide) (by decide) (Nat.le_of_ble_eq_true rfl) (Nat.le_of_ble_eq_true rfl) dX5_init_24 ?_
  clear hK hP hD hS
  intro q_9 cA_10 H_11 hK hP hD hS
  replace hK : va_K (dC, dI) vwCl [(cA_2, .int), (cA_6, .int), (cA_10, .int)] s := hK
  replace hP : va_P (dC, dI) vwCl [(h0, .inr (5, [.ref q_1, .ref q_5, .null, .null, .null, .null, .null, .long 0, .long 0, .int 0])), (q_1, .inl (cA_2, 6, .inl (fun _ => 0))), (q_5, .inl (cA_6, 6, .inl (fun _ => 0))), (q_9, .inl (cA_10, 11520, .inl (fun _ => 0)))] H_11 := hP
  replace hD : va_D A [(h0, .inr (5, [.ref q_1, .ref q_5, .null, .null, .null, .null, .null, .long 0, .long 0, .int 0])), (q_1, .inl (cA_2, 6, .inl (fun _ => 0))), (q_5, .inl (cA_6, 6, .inl (fun _ => 0))), (q_9, .inl (cA_10, 11520, .inl (fun _ => 0)))] := hD
  refine va_putF (D := (dC, dI)) (ci := 5) (v := .ref q_9) (ty := .array .int) (C := RX5) (T := TX5) (N := 10) hx hb hts hiX5 tyX5 tyX5_ok nmX5 hown hK hP hD hS 0 rfl rfl 2 (by decide) w__fieldLink_RX5_18_ShellHeap_Pantry_found_I_ (fun _ h9 => h9) rfl hin rfl (by decide +kernel) rfl rfl (Nat.le_of_ble_eq_true rfl) dX5_init_26 ?_
  clear hP hD hS
  intro H_12 locs hP hD hS
  have h9 := z_s_0_2 hP hD
  clear hP hD
  obtain ⟨hP, hD⟩ := h9
  refine lv_aload_n hx hb dX5_init_29 rfl (lv_at hl 0 rfl) ?_
  refine lv_sipush (v := 144) hx hb dX5_init_30 (by decide) ?_
  refine va_newa (atype := .long) (ty := .long) (N' := 144) (a0 := (144, .inr (.inl (fun _ => 0)))) hx hb w__arrayClass_long rfl hK hP hD hS hA (z_newJ 144) (by decide) (by decide) (by decide) (Nat.le_of_ble_eq_true rfl) (Nat.le_of_ble_eq_true rfl) dX5_init_33 ?_
  clear hK hP hD hS
  intro q_13 cA_14 H_15 hK hP hD hS
  replace hK : va_K (dC, dI) vwCl [(cA_2, .int), (cA_6, .int), (cA_10, .int), (cA_14, .long)] s := hK
  replace hP : va_P (dC, dI) vwCl [(h0, .inr (5, [.ref q_1, .ref q_5, .ref q_9, .null, .null, .null, .null, .long 0, .long 0, .int 0])), (q_1, .inl (cA_2, 6, .inl (fun _ => 0))), (q_5, .inl (cA_6, 6, .inl (fun _ => 0))), (q_9, .inl (cA_10, 11520, .inl (fun _ => 0))), (q_13, .inl (cA_14, 144, .inr (.inl (fun _ => 0))))] H_15 := hP
  replace hD : va_D A [(h0, .inr (5, [.ref q_1, .ref q_5, .ref q_9, .null, .null, .null, .null, .long 0, .long 0, .int 0])), (q_1, .inl (cA_2, 6, .inl (fun _ => 0))), (q_5, .inl (cA_6, 6, .inl (fun _ => 0))), (q_9, .inl (cA_10, 11520, .inl (fun _ => 0))), (q_13, .inl (cA_14, 144, .inr (.inl (fun _ => 0))))] := hD
  refine va_putF (D := (dC, dI)) (ci := 5) (v := .ref q_13) (ty := .array .long) (C := RX5) (T := TX5) (N := 10) hx hb hts hiX5 tyX5 tyX5_ok nmX5 hown hK hP hD hS 0 rfl rfl 3 (by decide) w__fieldLink_RX5_21_ShellHeap_Pantry_ofBed_J_ (fun _ h9 => h9) rfl hin rfl (by decide +kernel) rfl rfl (Nat.le_of_ble_eq_true rfl) dX5_init_35 ?_
  clear hP hD hS
  intro H_16 locs hP hD hS
  have h9 := z_s_0_3 hP hD
  clear hP hD
  obtain ⟨hP, hD⟩ := h9
  refine lv_aload_n hx hb dX5_init_38 rfl (lv_at hl 0 rfl) ?_
  refine lv_bipush (v := 24) hx hb dX5_init_39 (by decide) ?_
  refine va_newa (atype := .int) (ty := .int) (N' := 24) (a0 := (24, .inl (fun _ => 0))) hx hb w__arrayClass_int rfl hK hP hD hS hA (z_newI 24) (by decide) (by decide) (by decide) (Nat.le_of_ble_eq_true rfl) (Nat.le_of_ble_eq_true rfl) dX5_init_41 ?_
  clear hK hP hD hS
  intro q_17 cA_18 H_19 hK hP hD hS
  replace hK : va_K (dC, dI) vwCl [(cA_2, .int), (cA_6, .int), (cA_10, .int), (cA_14, .long), (cA_18, .int)] s := hK
  replace hP : va_P (dC, dI) vwCl [(h0, .inr (5, [.ref q_1, .ref q_5, .ref q_9, .ref q_13, .null, .null, .null, .long 0, .long 0, .int 0])), (q_1, .inl (cA_2, 6, .inl (fun _ => 0))), (q_5, .inl (cA_6, 6, .inl (fun _ => 0))), (q_9, .inl (cA_10, 11520, .inl (fun _ => 0))), (q_13, .inl (cA_14, 144, .inr (.inl (fun _ => 0)))), (q_17, .inl (cA_18, 24, .inl (fun _ => 0)))] H_19 := hP
  replace hD : va_D A [(h0, .inr (5, [.ref q_1, .ref q_5, .ref q_9, .ref q_13, .null, .null, .null, .long 0, .long 0, .int 0])), (q_1, .inl (cA_2, 6, .inl (fun _ => 0))), (q_5, .inl (cA_6, 6, .inl (fun _ => 0))), (q_9, .inl (cA_10, 11520, .inl (fun _ => 0))), (q_13, .inl (cA_14, 144, .inr (.inl (fun _ => 0)))), (q_17, .inl (cA_18, 24, .inl (fun _ => 0)))] := hD
  refine va_putF (D := (dC, dI)) (ci := 5) (v := .ref q_17) (ty := .array .int) (C := RX5) (T := TX5) (N := 10) hx hb hts hiX5 tyX5 tyX5_ok nmX5 hown hK hP hD hS 0 rfl rfl 4 (by decide) w__fieldLink_RX5_25_ShellHeap_Pantry_keeps_I_ (fun _ h9 => h9) rfl hin rfl (by decide +kernel) rfl rfl (Nat.le_of_ble_eq_true rfl) dX5_init_43 ?_
  clear hP hD hS
  intro H_20 locs hP hD hS
  have h9 := z_s_0_4 hP hD
  clear hP hD
  obtain ⟨hP, hD⟩ := h9
  refine lv_aload_n hx hb dX5_init_46 rfl (lv_at hl 0 rfl) ?_
  refine lv_bipush (v := 6) hx hb dX5_init_47 (by decide) ?_
  refine va_newa (atype := .long) (ty := .long) (N' := 6) (a0 := (6, .inr (.inl (fun _ => 0)))) hx hb w__arrayClass_long rfl hK hP hD hS hA (z_newJ 6) (by decide) (by decide) (by decide) (Nat.le_of_ble_eq_true rfl) (Nat.le_of_ble_eq_true rfl) dX5_init_49 ?_
  clear hK hP hD hS
  intro q_21 cA_22 H_23 hK hP hD hS
  replace hK : va_K (dC, dI) vwCl [(cA_2, .int), (cA_6, .int), (cA_10, .int), (cA_14, .long), (cA_18, .int), (cA_22, .long)] s := hK
  replace hP : va_P (dC, dI) vwCl [(h0, .inr (5, [.ref q_1, .ref q_5, .ref q_9, .ref q_13, .ref q_17, .null, .null, .long 0, .long 0, .int 0])), (q_1, .inl (cA_2, 6, .inl (fun _ => 0))), (q_5, .inl (cA_6, 6, .inl (fun _ => 0))), (q_9, .inl (cA_10, 11520, .inl (fun _ => 0))), (q_13, .inl (cA_14, 144, .inr (.inl (fun _ => 0)))), (q_17, .inl (cA_18, 24, .inl (fun _ => 0))), (q_21, .inl (cA_22, 6, .inr (.inl (fun _ => 0))))] H_23 := hP
  replace hD : va_D A [(h0, .inr (5, [.ref q_1, .ref q_5, .ref q_9, .ref q_13, .ref q_17, .null, .null, .long 0, .long 0, .int 0])), (q_1, .inl (cA_2, 6, .inl (fun _ => 0))), (q_5, .inl (cA_6, 6, .inl (fun _ => 0))), (q_9, .inl (cA_10, 11520, .inl (fun _ => 0))), (q_13, .inl (cA_14, 144, .inr (.inl (fun _ => 0)))), (q_17, .inl (cA_18, 24, .inl (fun _ => 0))), (q_21, .inl (cA_22, 6, .inr (.inl (fun _ => 0))))] := hD
  refine va_putF (D := (dC, dI)) (ci := 5) (v := .ref q_21) (ty := .array .long) (C := RX5) (T := TX5) (N := 10) hx hb hts hiX5 tyX5 tyX5_ok nmX5 hown hK hP hD hS 0 rfl rfl 5 (by decide) w__fieldLink_RX5_28_ShellHeap_Pantry_leastNumber_J_ (fun _ h9 => h9) rfl hin rfl (by decide +kernel) rfl rfl (Nat.le_of_ble_eq_true rfl) dX5_init_51 ?_
  clear hP hD hS
  intro H_24 locs hP hD hS
  have h9 := z_s_0_5 hP hD
  clear hP hD
  obtain ⟨hP, hD⟩ := h9
  refine lv_aload_n hx hb dX5_init_54 rfl (lv_at hl 0 rfl) ?_
  refine lv_bipush (v := 6) hx hb dX5_init_55 (by decide) ?_
  refine va_newa (atype := .long) (ty := .long) (N' := 6) (a0 := (6, .inr (.inl (fun _ => 0)))) hx hb w__arrayClass_long rfl hK hP hD hS hA (z_newJ 6) (by decide) (by decide) (by decide) (Nat.le_of_ble_eq_true rfl) (Nat.le_of_ble_eq_true rfl) dX5_init_57 ?_
  clear hK hP hD hS
  intro q_25 cA_26 H_27 hK hP hD hS
  replace hK : va_K (dC, dI) vwCl [(cA_2, .int), (cA_6, .int), (cA_10, .int), (cA_14, .long), (cA_18, .int), (cA_22, .long), (cA_26, .long)] s := hK
  replace hP : va_P (dC, dI) vwCl [(h0, .inr (5, [.ref q_1, .ref q_5, .ref q_9, .ref q_13, .ref q_17, .ref q_21, .null, .long 0, .long 0, .int 0])), (q_1, .inl (cA_2, 6, .inl (fun _ => 0))), (q_5, .inl (cA_6, 6, .inl (fun _ => 0))), (q_9, .inl (cA_10, 11520, .inl (fun _ => 0))), (q_13, .inl (cA_14, 144, .inr (.inl (fun _ => 0)))), (q_17, .inl (cA_18, 24, .inl (fun _ => 0))), (q_21, .inl (cA_22, 6, .inr (.inl (fun _ => 0)))), (q_25, .inl (cA_26, 6, .inr (.inl (fun _ => 0))))] H_27 := hP
  replace hD : va_D A [(h0, .inr (5, [.ref q_1, .ref q_5, .ref q_9, .ref q_13, .ref q_17, .ref q_21, .null, .long 0, .long 0, .int 0])), (q_1, .inl (cA_2, 6, .inl (fun _ => 0))), (q_5, .inl (cA_6, 6, .inl (fun _ => 0))), (q_9, .inl (cA_10, 11520, .inl (fun _ => 0))), (q_13, .inl (cA_14, 144, .inr (.inl (fun _ => 0)))), (q_17, .inl (cA_18, 24, .inl (fun _ => 0))), (q_21, .inl (cA_22, 6, .inr (.inl (fun _ => 0)))), (q_25, .inl (cA_26, 6, .inr (.inl (fun _ => 0))))] := hD
  refine va_putF (D := (dC, dI)) (ci := 5) (v := .ref q_25) (ty := .array .long) (C := RX5) (T := TX5) (N := 10) hx hb hts hiX5 tyX5 tyX5_ok nmX5 hown hK hP hD hS 0 rfl rfl 6 (by decide) w__fieldLink_RX5_31_ShellHeap_Pantry_righted_J_ (fun _ h9 => h9) rfl hin rfl (by decide +kernel) rfl rfl (Nat.le_of_ble_eq_true rfl) dX5_init_59 ?_
  clear hP hD hS
  intro H_28 locs hP hD hS
  have h9 := z_s_0_6 hP hD
  clear hP hD
  obtain ⟨hP, hD⟩ := h9
  refine lv_aload_n hx hb dX5_init_62 rfl (lv_at hl 0 rfl) ?_
  refine lv_lconst (v := 0) hx hb dX5_init_63 (by decide) ?_
  refine va_put (D := (dC, dI)) (ci := 5) (v := .long 0) (ty := .long) (C := RX5) (T := TX5) (N := 10) hx hb hts hiX5 tyX5 tyX5_ok nmX5 hown hK hP hD hS 0 rfl rfl 7 (by decide) w__fieldLink_RX5_34_ShellHeap_Pantry_food_J_ (fun _ h9 => h9) rfl (by decide +kernel) rfl rfl (Nat.le_of_ble_eq_true rfl) dX5_init_64 ?_
  clear hP hD hS
  intro H_29 locs hP hD hS
  have h9 := z_s_0_7 hP hD
  clear hP hD
  obtain ⟨hP, hD⟩ := h9
  refine lv_aload_n hx hb dX5_init_67 rfl (lv_at hl 0 rfl) ?_
  refine lv_lconst (v := 0) hx hb dX5_init_68 (by decide) ?_
  refine va_put (D := (dC, dI)) (ci := 5) (v := .long 0) (ty := .long) (C := RX5) (T := TX5) (N := 10) hx hb hts hiX5 tyX5 tyX5_ok nmX5 hown hK hP hD hS 0 rfl rfl 8 (by decide) w__fieldLink_RX5_38_ShellHeap_Pantry_lost_J_ (fun _ h9 => h9) rfl (by decide +kernel) rfl rfl (Nat.le_of_ble_eq_true rfl) dX5_init_69 ?_
  clear hP hD hS
  intro H_30 locs hP hD hS
  have h9 := z_s_0_8 hP hD
  clear hP hD
  obtain ⟨hP, hD⟩ := h9
  refine lv_aload_n hx hb dX5_init_72 rfl (lv_at hl 0 rfl) ?_
  refine lv_iconst (v := 0) hx hb dX5_init_73 (by decide) ?_
  refine va_put (D := (dC, dI)) (ci := 5) (v := .int 0) (ty := .int) (C := RX5) (T := TX5) (N := 10) hx hb hts hiX5 tyX5 tyX5_ok nmX5 hown hK hP hD hS 0 rfl rfl 9 (by decide) w__fieldLink_RX5_41_ShellHeap_Pantry_kinds_I_ (fun _ h9 => h9) rfl (by decide +kernel) rfl rfl (Nat.le_of_ble_eq_true rfl) dX5_init_74 ?_
  clear hP hD hS
  intro H_31 locs hP hD hS
  have h9 := z_s_0_9 hP hD
  clear hP hD
  obtain ⟨hP, hD⟩ := h9
  have hP9 := hP.sub (ws' := [(h0, .inr (5, [.ref q_1, .ref q_5, .ref q_9, .ref q_13, .ref q_17, .ref q_21, .ref q_25, .long 0, .long 0, .int 0])), (q_1, .inl (cA_2, 6, .inl (fun _ => 0))), (q_5, .inl (cA_6, 6, .inl (fun _ => 0))), (q_9, .inl (cA_10, 11520, .inl (fun _ => 0))), (q_13, .inl (cA_14, 144, .inr (.inl (fun _ => 0)))), (q_17, .inl (cA_18, 24, .inl (fun _ => 0))), (q_21, .inl (cA_22, 6, .inr (.inl (fun _ => 0)))), (q_25, .inl (cA_26, 6, .inr (.inl (fun _ => 0))))]) [0, 1, 2, 3, 4, 5, 6, 7] rfl
  have hD9 := hD.sub (ws' := [(h0, .inr (5, [.ref q_1, .ref q_5, .ref q_9, .ref q_13, .ref q_17, .ref q_21, .ref q_25, .long 0, .long 0, .int 0])), (q_1, .inl (cA_2, 6, .inl (fun _ => 0))), (q_5, .inl (cA_6, 6, .inl (fun _ => 0))), (q_9, .inl (cA_10, 11520, .inl (fun _ => 0))), (q_13, .inl (cA_14, 144, .inr (.inl (fun _ => 0)))), (q_17, .inl (cA_18, 24, .inl (fun _ => 0))), (q_21, .inl (cA_22, 6, .inr (.inl (fun _ => 0)))), (q_25, .inl (cA_26, 6, .inr (.inl (fun _ => 0))))]) [0, 1, 2, 3, 4, 5, 6, 7] (by decide) rfl
  have hK9 := hK.sub (tys' := [(cA_2, .int), (cA_6, .int), (cA_10, .int), (cA_14, .long), (cA_18, .int), (cA_22, .long), (cA_26, .long)]) [0, 1, 2, 3, 4, 5, 6] rfl
  refine W.widen (k := 7) (n := 11712) (Nat.le_of_ble_eq_true rfl) (Nat.le_of_ble_eq_true rfl) ?_
  exact W.vret hx hb hr (fun t ht hW => ⟨⟨(), rfl, trivial, ⟨q_1, cA_2, q_5, cA_6, q_9, cA_10, q_13, cA_14, q_17, cA_18, q_21, cA_22, q_25, cA_26, by rw [ht]; exact hP9, va_K.moved hW.alike hK9, hD9⟩⟩, hS.F ht⟩) hS.2.2 dX5_init_77
