def u_c_X6_make : List Cond := .code yX6_init cX6_init 3 none :: ([.methodLink RX6 3 objectInit, .instanceMethod objectInit, .code objectInit ⟨#[0xb1]⟩ 1 none, .arrayClass .int, .fieldLink RX6 11 "ShellHeap$Readers" "rows" "[I", .fieldLink RX6 15 "ShellHeap$Readers" "told" "[I", .fieldLink RX6 18 "ShellHeap$Readers" "ofBed" "[I", .fieldLink RX6 21 "ShellHeap$Readers" "gaps" "[I", .fieldLink RX6 24 "ShellHeap$Readers" "steps" "[I", .fieldLink RX6 27 "ShellHeap$Readers" "died" "[I", .fieldLink RX6 30 "ShellHeap$Readers" "miss" "I"] ++ wsX60)
set_option maxHeartbeats 4000000 in
set_option maxRecDepth 100000 in
theorem c_X6_make (l : Launch) (dC : Nat → ClassId) (dI : Nat → Nat → Nat) (sz : Nat) (h0 : Nat) : Met l yX6_init u_c_X6_make ({ frames := 1, cells := 6, slots := 208, locals := 12 }) (va_Pc [.ref h0] (z_C (dC, dI) vwCl [(h0, .inr (6, [.null, .null, .null, .null, .null, .null, .int 0]))] [] sz)) (va_Qv (fun (_ : Unit) => True) (fun (_ : Unit) (t : State) => ∃ (qa0 : Nat), ∃ (qc0 : ClassId), ∃ (g : Nat → Int32), ∃ (qa1 : Nat), ∃ (qc1 : ClassId), ∃ (qa2 : Nat), ∃ (qc2 : ClassId), ∃ (qa3 : Nat), ∃ (qc3 : ClassId), ∃ (qa4 : Nat), ∃ (qc4 : ClassId), ∃ (qa5 : Nat), ∃ (qc5 : ClassId), va_P (dC, dI) vwCl [(h0, .inr (6, [.ref qa0, .ref qa1, .ref qa2, .ref qa3, .ref qa4, .ref qa5, .int (-1)])), (qa0, .inl (qc0, 48, .inl g)), (qa1, .inl (qc1, 144, .inl (fun _ => 0))), (qa2, .inl (qc2, 4, .inl (fun _ => 0))), (qa3, .inl (qc3, 4, .inl (fun _ => 0))), (qa4, .inl (qc4, 4, .inl (fun _ => 0))), (qa5, .inl (qc5, 4, .inl (fun _ => 0)))] t.heap ∧ va_K (dC, dI) vwCl [(qc0, .int), (qc1, .int), (qc2, .int), (qc3, .int), (qc4, .int), (qc5, .int)] t ∧ va_D (va_A [(h0, .inr (6, [.null, .null, .null, .null, .null, .null, .int 0]))] sz) [(h0, .inr (6, [.ref qa0, .ref qa1, .ref qa2, .ref qa3, .ref qa4, .ref qa5, .int (-1)])), (qa0, .inl (qc0, 48, .inl g)), (qa1, .inl (qc1, 144, .inl (fun _ => 0))), (qa2, .inl (qc2, 4, .inl (fun _ => 0))), (qa3, .inl (qc3, 4, .inl (fun _ => 0))), (qa4, .inl (qc4, 4, .inl (fun _ => 0))), (qa5, .inl (qc5, 4, .inl (fun _ => 0)))]) (va_A [(h0, .inr (6, [.null, .null, .null, .null, .null, .null, .int 0]))] sz)) 6 208 (va_A [(h0, .inr (6, [.null, .null, .null, .null, .null, .null, .int 0]))] sz) := by
  refine Met.ofW (cc := cX6_init) (maxL := 3) (ret := none) (by decide) rfl ?_
  intro p e s m args below meth c s₁ B hml hv
  obtain ⟨rfl, hsz, hP, hK, hD0⟩ := hv
  have hx := B.exec
  have hb := B.bytes
  have hr := B.returns
  have hts := atoms_spec (ws := u_c_X6_make) B.pre
  have hown : s.vm.findClass RX6 = some m.cls := findClass_of_methodNamed B.named
  have hlocks := B.notSynchronized
  have hin : meth.name = "<init>" := (name_of_methodNamed B.named B.method).1
  subst hsz
  have hD := hD0.self (sz := s.heap.size)
  generalize hAe : va_A [(h0, .inr (6, [.null, .null, .null, .null, .null, .null, .int 0]))] s.heap.size = A at hD ⊢
  have hA : ∀ q : Nat, s.heap.size ≤ q → A q := fun q h => by rw [← hAe]; exact Or.inr h
  have hS : va_S A s.heap s.heap [] := va_S.rf
  have hP : va_P (dC, dI) vwCl [(h0, .inr (6, [.null, .null, .null, .null, .null, .null, .int 0]))] s.heap := hP
  have w__methodLink_RX6_3_objectInit := hts (.methodLink RX6 3 objectInit) (by decide +kernel)
  have w__instanceMethod_objectInit := hts (.instanceMethod objectInit) (by decide +kernel)
  have w__code_objectInit_0xb1_1_none := hts (.code objectInit ⟨#[0xb1]⟩ 1 none) (by decide +kernel)
  have w__arrayClass_int := hts (.arrayClass .int) (by decide +kernel)
  have w__fieldLink_RX6_11_ShellHeap_Readers_rows_I_ := hts (.fieldLink RX6 11 "ShellHeap$Readers" "rows" "[I") (by decide +kernel)
  have hiX6 := show ∀ w ∈ u_ws RX6 TX6 7, w ∈ u_c_X6_make by decide +kernel
  have w__fieldLink_RX6_15_ShellHeap_Readers_told_I_ := hts (.fieldLink RX6 15 "ShellHeap$Readers" "told" "[I") (by decide +kernel)
  have w__fieldLink_RX6_18_ShellHeap_Readers_ofBed_I_ := hts (.fieldLink RX6 18 "ShellHeap$Readers" "ofBed" "[I") (by decide +kernel)
  have w__fieldLink_RX6_21_ShellHeap_Readers_gaps_I_ := hts (.fieldLink RX6 21 "ShellHeap$Readers" "gaps" "[I") (by decide +kernel)
  have w__fieldLink_RX6_24_ShellHeap_Readers_steps_I_ := hts (.fieldLink RX6 24 "ShellHeap$Readers" "steps" "[I") (by decide +kernel)
  have w__fieldLink_RX6_27_ShellHeap_Readers_died_I_ := hts (.fieldLink RX6 27 "ShellHeap$Readers" "died" "[I") (by decide +kernel)
  have w__fieldLink_RX6_30_ShellHeap_Readers_miss_I_ := hts (.fieldLink RX6 30 "ShellHeap$Readers" "miss" "I") (by decide +kernel)
  have hl := lv_entry ([.ref h0]) (n := 3) (Nat.le_of_ble_eq_true rfl)
  rw [lg_entry_eq]
  generalize (lg_sl ([.ref h0]) ++ List.replicate (3 - (lg_sl ([.ref h0])).length) Slot.unset).toArray = ls at hl ⊢
  have hl : lv_has ls 3 [(0, .ref h0)] := hl
  refine lv_aload_n hx hb dX6_init_0 rfl (lv_at hl 0 rfl) ?_
  refine W.objInit hx hb hown w__methodLink_RX6_3_objectInit w__instanceMethod_objectInit w__code_objectInit_0xb1_1_none rfl (by rw [hml]; exact hl.1) rfl dX6_init_1 (Nat.le_of_ble_eq_true rfl) (Nat.le_of_ble_eq_true rfl) ?_
  refine W.eq (g2 := F0 m 4 ls []) rfl ?_
  refine lv_aload_n hx hb dX6_init_4 rfl (lv_at hl 0 rfl) ?_
  refine lv_bipush (v := 48) hx hb dX6_init_5 (by decide) ?_
  refine va_newa (atype := .int) (ty := .int) (N' := 48) (a0 := (48, .inl (fun _ => 0))) hx hb w__arrayClass_int rfl hK hP hD hS hA (z_newI 48) (by decide) (by decide) (by decide) (Nat.le_of_ble_eq_true rfl) (Nat.le_of_ble_eq_true rfl) dX6_init_7 ?_
  clear hK hP hD hS
  intro q_1 cA_2 H_3 hK hP hD hS
  replace hK : va_K (dC, dI) vwCl [(cA_2, .int)] s := hK
  replace hP : va_P (dC, dI) vwCl [(h0, .inr (6, [.null, .null, .null, .null, .null, .null, .int 0])), (q_1, .inl (cA_2, 48, .inl (fun _ => 0)))] H_3 := hP
  replace hD : va_D A [(h0, .inr (6, [.null, .null, .null, .null, .null, .null, .int 0])), (q_1, .inl (cA_2, 48, .inl (fun _ => 0)))] := hD
  refine va_putF (D := (dC, dI)) (ci := 6) (v := .ref q_1) (ty := .array .int) (C := RX6) (T := TX6) (N := 7) hx hb hts hiX6 tyX6 tyX6_ok nmX6 hown hK hP hD hS 0 rfl rfl 0 (by decide) w__fieldLink_RX6_11_ShellHeap_Readers_rows_I_ (fun _ h9 => h9) rfl hin rfl (by decide +kernel) rfl rfl (Nat.le_of_ble_eq_true rfl) dX6_init_9 ?_
  clear hP hD hS
  intro H_4 locs hP hD hS
  have h9 := z_s_0_0 hP hD
  clear hP hD
  obtain ⟨hP, hD⟩ := h9
  refine lv_aload_n hx hb dX6_init_12 rfl (lv_at hl 0 rfl) ?_
  refine lv_sipush (v := 144) hx hb dX6_init_13 (by decide) ?_
  refine va_newa (atype := .int) (ty := .int) (N' := 144) (a0 := (144, .inl (fun _ => 0))) hx hb w__arrayClass_int rfl hK hP hD hS hA (z_newI 144) (by decide) (by decide) (by decide) (Nat.le_of_ble_eq_true rfl) (Nat.le_of_ble_eq_true rfl) dX6_init_16 ?_
  clear hK hP hD hS
  intro q_5 cA_6 H_7 hK hP hD hS
  replace hK : va_K (dC, dI) vwCl [(cA_2, .int), (cA_6, .int)] s := hK
  replace hP : va_P (dC, dI) vwCl [(h0, .inr (6, [.ref q_1, .null, .null, .null, .null, .null, .int 0])), (q_1, .inl (cA_2, 48, .inl (fun _ => 0))), (q_5, .inl (cA_6, 144, .inl (fun _ => 0)))] H_7 := hP
  replace hD : va_D A [(h0, .inr (6, [.ref q_1, .null, .null, .null, .null, .null, .int 0])), (q_1, .inl (cA_2, 48, .inl (fun _ => 0))), (q_5, .inl (cA_6, 144, .inl (fun _ => 0)))] := hD
  refine va_putF (D := (dC, dI)) (ci := 6) (v := .ref q_5) (ty := .array .int) (C := RX6) (T := TX6) (N := 7) hx hb hts hiX6 tyX6 tyX6_ok nmX6 hown hK hP hD hS 0 rfl rfl 1 (by decide) w__fieldLink_RX6_15_ShellHeap_Readers_told_I_ (fun _ h9 => h9) rfl hin rfl (by decide +kernel) rfl rfl (Nat.le_of_ble_eq_true rfl) dX6_init_18 ?_
  clear hP hD hS
  intro H_8 locs hP hD hS
  have h9 := z_s_0_1 hP hD
  clear hP hD
  obtain ⟨hP, hD⟩ := h9
  refine lv_aload_n hx hb dX6_init_21 rfl (lv_at hl 0 rfl) ?_
  refine lv_iconst (v := 4) hx hb dX6_init_22 (by decide) ?_
  refine va_newa (atype := .int) (ty := .int) (N' := 4) (a0 := (4, .inl (fun _ => 0))) hx hb w__arrayClass_int rfl hK hP hD hS hA (z_newI 4) (by decide) (by decide) (by decide) (Nat.le_of_ble_eq_true rfl) (Nat.le_of_ble_eq_true rfl) dX6_init_23 ?_
  clear hK hP hD hS
  intro q_9 cA_10 H_11 hK hP hD hS
  replace hK : va_K (dC, dI) vwCl [(cA_2, .int), (cA_6, .int), (cA_10, .int)] s := hK
  replace hP : va_P (dC, dI) vwCl [(h0, .inr (6, [.ref q_1, .ref q_5, .null, .null, .null, .null, .int 0])), (q_1, .inl (cA_2, 48, .inl (fun _ => 0))), (q_5, .inl (cA_6, 144, .inl (fun _ => 0))), (q_9, .inl (cA_10, 4, .inl (fun _ => 0)))] H_11 := hP
  replace hD : va_D A [(h0, .inr (6, [.ref q_1, .ref q_5, .null, .null, .null, .null, .int 0])), (q_1, .inl (cA_2, 48, .inl (fun _ => 0))), (q_5, .inl (cA_6, 144, .inl (fun _ => 0))), (q_9, .inl (cA_10, 4, .inl (fun _ => 0)))] := hD
  refine va_putF (D := (dC, dI)) (ci := 6) (v := .ref q_9) (ty := .array .int) (C := RX6) (T := TX6) (N := 7) hx hb hts hiX6 tyX6 tyX6_ok nmX6 hown hK hP hD hS 0 rfl rfl 2 (by decide) w__fieldLink_RX6_18_ShellHeap_Readers_ofBed_I_ (fun _ h9 => h9) rfl hin rfl (by decide +kernel) rfl rfl (Nat.le_of_ble_eq_true rfl) dX6_init_25 ?_
  clear hP hD hS
  intro H_12 locs hP hD hS
  have h9 := z_s_0_2 hP hD
  clear hP hD
  obtain ⟨hP, hD⟩ := h9
  refine lv_aload_n hx hb dX6_init_28 rfl (lv_at hl 0 rfl) ?_
  refine lv_iconst (v := 4) hx hb dX6_init_29 (by decide) ?_
  refine va_newa (atype := .int) (ty := .int) (N' := 4) (a0 := (4, .inl (fun _ => 0))) hx hb w__arrayClass_int rfl hK hP hD hS hA (z_newI 4) (by decide) (by decide) (by decide) (Nat.le_of_ble_eq_true rfl) (Nat.le_of_ble_eq_true rfl) dX6_init_30 ?_
  clear hK hP hD hS
  intro q_13 cA_14 H_15 hK hP hD hS
  replace hK : va_K (dC, dI) vwCl [(cA_2, .int), (cA_6, .int), (cA_10, .int), (cA_14, .int)] s := hK
  replace hP : va_P (dC, dI) vwCl [(h0, .inr (6, [.ref q_1, .ref q_5, .ref q_9, .null, .null, .null, .int 0])), (q_1, .inl (cA_2, 48, .inl (fun _ => 0))), (q_5, .inl (cA_6, 144, .inl (fun _ => 0))), (q_9, .inl (cA_10, 4, .inl (fun _ => 0))), (q_13, .inl (cA_14, 4, .inl (fun _ => 0)))] H_15 := hP
  replace hD : va_D A [(h0, .inr (6, [.ref q_1, .ref q_5, .ref q_9, .null, .null, .null, .int 0])), (q_1, .inl (cA_2, 48, .inl (fun _ => 0))), (q_5, .inl (cA_6, 144, .inl (fun _ => 0))), (q_9, .inl (cA_10, 4, .inl (fun _ => 0))), (q_13, .inl (cA_14, 4, .inl (fun _ => 0)))] := hD
  refine va_putF (D := (dC, dI)) (ci := 6) (v := .ref q_13) (ty := .array .int) (C := RX6) (T := TX6) (N := 7) hx hb hts hiX6 tyX6 tyX6_ok nmX6 hown hK hP hD hS 0 rfl rfl 3 (by decide) w__fieldLink_RX6_21_ShellHeap_Readers_gaps_I_ (fun _ h9 => h9) rfl hin rfl (by decide +kernel) rfl rfl (Nat.le_of_ble_eq_true rfl) dX6_init_32 ?_
  clear hP hD hS
  intro H_16 locs hP hD hS
  have h9 := z_s_0_3 hP hD
  clear hP hD
  obtain ⟨hP, hD⟩ := h9
  refine lv_aload_n hx hb dX6_init_35 rfl (lv_at hl 0 rfl) ?_
  refine lv_iconst (v := 4) hx hb dX6_init_36 (by decide) ?_
  refine va_newa (atype := .int) (ty := .int) (N' := 4) (a0 := (4, .inl (fun _ => 0))) hx hb w__arrayClass_int rfl hK hP hD hS hA (z_newI 4) (by decide) (by decide) (by decide) (Nat.le_of_ble_eq_true rfl) (Nat.le_of_ble_eq_true rfl) dX6_init_37 ?_
  clear hK hP hD hS
  intro q_17 cA_18 H_19 hK hP hD hS
  replace hK : va_K (dC, dI) vwCl [(cA_2, .int), (cA_6, .int), (cA_10, .int), (cA_14, .int), (cA_18, .int)] s := hK
  replace hP : va_P (dC, dI) vwCl [(h0, .inr (6, [.ref q_1, .ref q_5, .ref q_9, .ref q_13, .null, .null, .int 0])), (q_1, .inl (cA_2, 48, .inl (fun _ => 0))), (q_5, .inl (cA_6, 144, .inl (fun _ => 0))), (q_9, .inl (cA_10, 4, .inl (fun _ => 0))), (q_13, .inl (cA_14, 4, .inl (fun _ => 0))), (q_17, .inl (cA_18, 4, .inl (fun _ => 0)))] H_19 := hP
  replace hD : va_D A [(h0, .inr (6, [.ref q_1, .ref q_5, .ref q_9, .ref q_13, .null, .null, .int 0])), (q_1, .inl (cA_2, 48, .inl (fun _ => 0))), (q_5, .inl (cA_6, 144, .inl (fun _ => 0))), (q_9, .inl (cA_10, 4, .inl (fun _ => 0))), (q_13, .inl (cA_14, 4, .inl (fun _ => 0))), (q_17, .inl (cA_18, 4, .inl (fun _ => 0)))] := hD
  refine va_putF (D := (dC, dI)) (ci := 6) (v := .ref q_17) (ty := .array .int) (C := RX6) (T := TX6) (N := 7) hx hb hts hiX6 tyX6 tyX6_ok nmX6 hown hK hP hD hS 0 rfl rfl 4 (by decide) w__fieldLink_RX6_24_ShellHeap_Readers_steps_I_ (fun _ h9 => h9) rfl hin rfl (by decide +kernel) rfl rfl (Nat.le_of_ble_eq_true rfl) dX6_init_39 ?_
  clear hP hD hS
  intro H_20 locs hP hD hS
  have h9 := z_s_0_4 hP hD
  clear hP hD
  obtain ⟨hP, hD⟩ := h9
  refine lv_aload_n hx hb dX6_init_42 rfl (lv_at hl 0 rfl) ?_
  refine lv_iconst (v := 4) hx hb dX6_init_43 (by decide) ?_
  refine va_newa (atype := .int) (ty := .int) (N' := 4) (a0 := (4, .inl (fun _ => 0))) hx hb w__arrayClass_int rfl hK hP hD hS hA (z_newI 4) (by decide) (by decide) (by decide) (Nat.le_of_ble_eq_true rfl) (Nat.le_of_ble_eq_true rfl) dX6_init_44 ?_
  clear hK hP hD hS
  intro q_21 cA_22 H_23 hK hP hD hS
  replace hK : va_K (dC, dI) vwCl [(cA_2, .int), (cA_6, .int), (cA_10, .int), (cA_14, .int), (cA_18, .int), (cA_22, .int)] s := hK
  replace hP : va_P (dC, dI) vwCl [(h0, .inr (6, [.ref q_1, .ref q_5, .ref q_9, .ref q_13, .ref q_17, .null, .int 0])), (q_1, .inl (cA_2, 48, .inl (fun _ => 0))), (q_5, .inl (cA_6, 144, .inl (fun _ => 0))), (q_9, .inl (cA_10, 4, .inl (fun _ => 0))), (q_13, .inl (cA_14, 4, .inl (fun _ => 0))), (q_17, .inl (cA_18, 4, .inl (fun _ => 0))), (q_21, .inl (cA_22, 4, .inl (fun _ => 0)))] H_23 := hP
  replace hD : va_D A [(h0, .inr (6, [.ref q_1, .ref q_5, .ref q_9, .ref q_13, .ref q_17, .null, .int 0])), (q_1, .inl (cA_2, 48, .inl (fun _ => 0))), (q_5, .inl (cA_6, 144, .inl (fun _ => 0))), (q_9, .inl (cA_10, 4, .inl (fun _ => 0))), (q_13, .inl (cA_14, 4, .inl (fun _ => 0))), (q_17, .inl (cA_18, 4, .inl (fun _ => 0))), (q_21, .inl (cA_22, 4, .inl (fun _ => 0)))] := hD
  refine va_putF (D := (dC, dI)) (ci := 6) (v := .ref q_21) (ty := .array .int) (C := RX6) (T := TX6) (N := 7) hx hb hts hiX6 tyX6 tyX6_ok nmX6 hown hK hP hD hS 0 rfl rfl 5 (by decide) w__fieldLink_RX6_27_ShellHeap_Readers_died_I_ (fun _ h9 => h9) rfl hin rfl (by decide +kernel) rfl rfl (Nat.le_of_ble_eq_true rfl) dX6_init_46 ?_
  clear hP hD hS
  intro H_24 locs hP hD hS
  have h9 := z_s_0_5 hP hD
  clear hP hD
  obtain ⟨hP, hD⟩ := h9
  refine lv_aload_n hx hb dX6_init_49 rfl (lv_at hl 0 rfl) ?_
  refine lv_iconst (v := (-1)) hx hb dX6_init_50 (by decide) ?_
  refine va_put (D := (dC, dI)) (ci := 6) (v := .int (-1)) (ty := .int) (C := RX6) (T := TX6) (N := 7) hx hb hts hiX6 tyX6 tyX6_ok nmX6 hown hK hP hD hS 0 rfl rfl 6 (by decide) w__fieldLink_RX6_30_ShellHeap_Readers_miss_I_ (fun _ h9 => h9) rfl (by decide +kernel) rfl rfl (Nat.le_of_ble_eq_true rfl) dX6_init_51 ?_
  clear hP hD hS
  intro H_25 locs hP hD hS
  have h9 := z_s_0_6 hP hD
  clear hP hD
  obtain ⟨hP, hD⟩ := h9
  refine lv_iconst (v := 0) hx hb dX6_init_54 (by decide) ?_
  refine lv_istore_n (lv' := [(1, .int 0), (0, .ref h0)]) hx hb dX6_init_55 rfl hl (by decide) rfl (fun ls hl => ?_)
  refine lv_iload_n hx hb dX6_init_56 rfl (lv_at hl 0 rfl) ?_
  refine lv_iconst (v := 3) hx hb dX6_init_57 (by decide) ?_
  refine lv_icmp_ge (tgt := 96) hx hb dX6_init_58 (by decide) (fun c_26 => absurd c_26 (by decide)) (fun _ => ?_)
  refine lv_iconst (v := 0) hx hb dX6_init_61 (by decide) ?_
  refine lv_istore_n (lv' := [(2, .int 0), (1, .int 0), (0, .ref h0)]) hx hb dX6_init_62 rfl hl (by decide) rfl (fun ls hl => ?_)
  refine lv_iload_n hx hb dX6_init_63 rfl (lv_at hl 0 rfl) ?_
  refine lv_iconst (v := 4) hx hb dX6_init_64 (by decide) ?_
  refine lv_icmp_ge (tgt := 90) hx hb dX6_init_65 (by decide) (fun c_27 => absurd c_27 (by decide)) (fun _ => ?_)
  refine lv_aload_n hx hb dX6_init_68 rfl (lv_at hl 2 rfl) ?_
  refine va_get (D := (dC, dI)) (ci := 6) (v := .ref q_1) (C := RX6) (T := TX6) (N := 7) hx hb hts hiX6 hown hK hP 0 rfl rfl 0 (by decide) w__fieldLink_RX6_11_ShellHeap_Readers_rows_I_ (fun _ h9 => h9) rfl dX6_init_69 ?_
  refine lv_iload_n hx hb dX6_init_72 rfl (lv_at hl 1 rfl) ?_
  refine lv_iconst (v := 4) hx hb dX6_init_73 (by decide) ?_
  refine lv_imul hx hb dX6_init_74 ?_
  refine lv_topi (fun x_28 e_29 => ?_)
  obtain rfl : x_28 = 0 := e_29.trans (by decide)
  refine lv_iload_n hx hb dX6_init_75 rfl (lv_at hl 0 rfl) ?_
  refine lv_iadd hx hb dX6_init_76 ?_
  refine lv_topi (fun x_30 e_31 => ?_)
  obtain rfl : x_30 = 0 := e_31.trans (by decide)
  refine lv_iconst (v := 4) hx hb dX6_init_77 (by decide) ?_
  refine lv_imul hx hb dX6_init_78 ?_
  refine lv_topi (fun x_32 e_33 => ?_)
  obtain rfl : x_32 = 0 := e_33.trans (by decide)
  refine lv_iload_n hx hb dX6_init_79 rfl (lv_at hl 0 rfl) ?_
  refine lv_iadd hx hb dX6_init_80 ?_
  refine lv_topi (fun x_34 e_35 => ?_)
  obtain rfl : x_34 = 0 := e_35.trans (by decide)
  refine lv_bipush (v := 16) hx hb dX6_init_81 (by decide) ?_
  refine va_iast hx hb hK hP hD hS 1 0 rfl rfl (by unfold vp_in; decide) dX6_init_83 (fun H_36 locs hP hD hS => ?_)
  have h9 := z_s_1 hP hD
  clear hP hD
  obtain ⟨hP, hD⟩ := h9
  generalize (upd (fun _ => 0) (0 : Int32).toNatClampNeg 16) = f_37 at hP hD
  refine lv_iinc (v := 1) (lv' := [(2, .int 1), (1, .int 0), (0, .ref h0)]) hx hb dX6_init_84 hl (k := 0) rfl (by decide) (by decide) rfl (fun ls hl => ?_)
  refine lv_goto (tgt := 63) hx hb dX6_init_87 (by decide) ?_
  refine lv_iload_n hx hb dX6_init_63 rfl (lv_at hl 0 rfl) ?_
  refine lv_iconst (v := 4) hx hb dX6_init_64 (by decide) ?_
  refine lv_icmp_ge (tgt := 90) hx hb dX6_init_65 (by decide) (fun c_38 => absurd c_38 (by decide)) (fun _ => ?_)
  refine lv_aload_n hx hb dX6_init_68 rfl (lv_at hl 2 rfl) ?_
  refine va_get (D := (dC, dI)) (ci := 6) (v := .ref q_1) (C := RX6) (T := TX6) (N := 7) hx hb hts hiX6 hown hK hP 0 rfl rfl 0 (by decide) w__fieldLink_RX6_11_ShellHeap_Readers_rows_I_ (fun _ h9 => h9) rfl dX6_init_69 ?_
  refine lv_iload_n hx hb dX6_init_72 rfl (lv_at hl 1 rfl) ?_
  refine lv_iconst (v := 4) hx hb dX6_init_73 (by decide) ?_
  refine lv_imul hx hb dX6_init_74 ?_
  refine lv_topi (fun x_39 e_40 => ?_)
  obtain rfl : x_39 = 0 := e_40.trans (by decide)
  refine lv_iload_n hx hb dX6_init_75 rfl (lv_at hl 0 rfl) ?_
  refine lv_iadd hx hb dX6_init_76 ?_
  refine lv_topi (fun x_41 e_42 => ?_)
  obtain rfl : x_41 = 1 := e_42.trans (by decide)
  refine lv_iconst (v := 4) hx hb dX6_init_77 (by decide) ?_
  refine lv_imul hx hb dX6_init_78 ?_
  refine lv_topi (fun x_43 e_44 => ?_)
  obtain rfl : x_43 = 4 := e_44.trans (by decide)
  refine lv_iload_n hx hb dX6_init_79 rfl (lv_at hl 0 rfl) ?_
  refine lv_iadd hx hb dX6_init_80 ?_
  refine lv_topi (fun x_45 e_46 => ?_)
  obtain rfl : x_45 = 5 := e_46.trans (by decide)
  refine lv_bipush (v := 16) hx hb dX6_init_81 (by decide) ?_
  refine va_iast hx hb hK hP hD hS 1 0 rfl rfl (by unfold vp_in; decide) dX6_init_83 (fun H_47 locs hP hD hS => ?_)
  have h9 := z_s_1 hP hD
  clear hP hD
  obtain ⟨hP, hD⟩ := h9
  generalize (upd f_37 (5 : Int32).toNatClampNeg 16) = f_48 at hP hD
  refine lv_iinc (v := 2) (lv' := [(2, .int 2), (1, .int 0), (0, .ref h0)]) hx hb dX6_init_84 hl (k := 0) rfl (by decide) (by decide) rfl (fun ls hl => ?_)
  refine lv_goto (tgt := 63) hx hb dX6_init_87 (by decide) ?_
  refine lv_iload_n hx hb dX6_init_63 rfl (lv_at hl 0 rfl) ?_
  refine lv_iconst (v := 4) hx hb dX6_init_64 (by decide) ?_
  refine lv_icmp_ge (tgt := 90) hx hb dX6_init_65 (by decide) (fun c_49 => absurd c_49 (by decide)) (fun _ => ?_)
  refine lv_aload_n hx hb dX6_init_68 rfl (lv_at hl 2 rfl) ?_
  refine va_get (D := (dC, dI)) (ci := 6) (v := .ref q_1) (C := RX6) (T := TX6) (N := 7) hx hb hts hiX6 hown hK hP 0 rfl rfl 0 (by decide) w__fieldLink_RX6_11_ShellHeap_Readers_rows_I_ (fun _ h9 => h9) rfl dX6_init_69 ?_
  refine lv_iload_n hx hb dX6_init_72 rfl (lv_at hl 1 rfl) ?_
  refine lv_iconst (v := 4) hx hb dX6_init_73 (by decide) ?_
  refine lv_imul hx hb dX6_init_74 ?_
  refine lv_topi (fun x_50 e_51 => ?_)
  obtain rfl : x_50 = 0 := e_51.trans (by decide)
  refine lv_iload_n hx hb dX6_init_75 rfl (lv_at hl 0 rfl) ?_
  refine lv_iadd hx hb dX6_init_76 ?_
  refine lv_topi (fun x_52 e_53 => ?_)
  obtain rfl : x_52 = 2 := e_53.trans (by decide)
  refine lv_iconst (v := 4) hx hb dX6_init_77 (by decide) ?_
  refine lv_imul hx hb dX6_init_78 ?_
  refine lv_topi (fun x_54 e_55 => ?_)
  obtain rfl : x_54 = 8 := e_55.trans (by decide)
  refine lv_iload_n hx hb dX6_init_79 rfl (lv_at hl 0 rfl) ?_
  refine lv_iadd hx hb dX6_init_80 ?_
  refine lv_topi (fun x_56 e_57 => ?_)
  obtain rfl : x_56 = 10 := e_57.trans (by decide)
  refine lv_bipush (v := 16) hx hb dX6_init_81 (by decide) ?_
  refine va_iast hx hb hK hP hD hS 1 0 rfl rfl (by unfold vp_in; decide) dX6_init_83 (fun H_58 locs hP hD hS => ?_)
  have h9 := z_s_1 hP hD
  clear hP hD
  obtain ⟨hP, hD⟩ := h9
  generalize (upd f_48 (10 : Int32).toNatClampNeg 16) = f_59 at hP hD
  refine lv_iinc (v := 3) (lv' := [(2, .int 3), (1, .int 0), (0, .ref h0)]) hx hb dX6_init_84 hl (k := 0) rfl (by decide) (by decide) rfl (fun ls hl => ?_)
  refine lv_goto (tgt := 63) hx hb dX6_init_87 (by decide) ?_
  refine lv_iload_n hx hb dX6_init_63 rfl (lv_at hl 0 rfl) ?_
  refine lv_iconst (v := 4) hx hb dX6_init_64 (by decide) ?_
  refine lv_icmp_ge (tgt := 90) hx hb dX6_init_65 (by decide) (fun c_60 => absurd c_60 (by decide)) (fun _ => ?_)
  refine lv_aload_n hx hb dX6_init_68 rfl (lv_at hl 2 rfl) ?_
  refine va_get (D := (dC, dI)) (ci := 6) (v := .ref q_1) (C := RX6) (T := TX6) (N := 7) hx hb hts hiX6 hown hK hP 0 rfl rfl 0 (by decide) w__fieldLink_RX6_11_ShellHeap_Readers_rows_I_ (fun _ h9 => h9) rfl dX6_init_69 ?_
  refine lv_iload_n hx hb dX6_init_72 rfl (lv_at hl 1 rfl) ?_
  refine lv_iconst (v := 4) hx hb dX6_init_73 (by decide) ?_
  refine lv_imul hx hb dX6_init_74 ?_
  refine lv_topi (fun x_61 e_62 => ?_)
  obtain rfl : x_61 = 0 := e_62.trans (by decide)
  refine lv_iload_n hx hb dX6_init_75 rfl (lv_at hl 0 rfl) ?_
  refine lv_iadd hx hb dX6_init_76 ?_
  refine lv_topi (fun x_63 e_64 => ?_)
  obtain rfl : x_63 = 3 := e_64.trans (by decide)
  refine lv_iconst (v := 4) hx hb dX6_init_77 (by decide) ?_
  refine lv_imul hx hb dX6_init_78 ?_
  refine lv_topi (fun x_65 e_66 => ?_)
  obtain rfl : x_65 = 12 := e_66.trans (by decide)
  refine lv_iload_n hx hb dX6_init_79 rfl (lv_at hl 0 rfl) ?_
  refine lv_iadd hx hb dX6_init_80 ?_
  refine lv_topi (fun x_67 e_68 => ?_)
  obtain rfl : x_67 = 15 := e_68.trans (by decide)
  refine lv_bipush (v := 16) hx hb dX6_init_81 (by decide) ?_
  refine va_iast hx hb hK hP hD hS 1 0 rfl rfl (by unfold vp_in; decide) dX6_init_83 (fun H_69 locs hP hD hS => ?_)
  have h9 := z_s_1 hP hD
  clear hP hD
  obtain ⟨hP, hD⟩ := h9
  generalize (upd f_59 (15 : Int32).toNatClampNeg 16) = f_70 at hP hD
  refine lv_iinc (v := 4) (lv' := [(2, .int 4), (1, .int 0), (0, .ref h0)]) hx hb dX6_init_84 hl (k := 0) rfl (by decide) (by decide) rfl (fun ls hl => ?_)
  refine lv_goto (tgt := 63) hx hb dX6_init_87 (by decide) ?_
  refine lv_iload_n hx hb dX6_init_63 rfl (lv_at hl 0 rfl) ?_
  refine lv_iconst (v := 4) hx hb dX6_init_64 (by decide) ?_
  refine lv_icmp_ge (tgt := 90) hx hb dX6_init_65 (by decide) (fun _ => ?_) (fun c_71 => absurd (by decide) c_71)
  refine lv_iinc (v := 1) (lv' := [(1, .int 1), (2, .int 4), (0, .ref h0)]) hx hb dX6_init_90 hl (k := 1) rfl (by decide) (by decide) rfl (fun ls hl => ?_)
  refine lv_goto (tgt := 56) hx hb dX6_init_93 (by decide) ?_
  refine lv_iload_n hx hb dX6_init_56 rfl (lv_at hl 0 rfl) ?_
  refine lv_iconst (v := 3) hx hb dX6_init_57 (by decide) ?_
  refine lv_icmp_ge (tgt := 96) hx hb dX6_init_58 (by decide) (fun c_72 => absurd c_72 (by decide)) (fun _ => ?_)
  refine lv_iconst (v := 0) hx hb dX6_init_61 (by decide) ?_
  refine lv_istore_n (lv' := [(2, .int 0), (1, .int 1), (0, .ref h0)]) hx hb dX6_init_62 rfl hl (by decide) rfl (fun ls hl => ?_)
  refine lv_iload_n hx hb dX6_init_63 rfl (lv_at hl 0 rfl) ?_
  refine lv_iconst (v := 4) hx hb dX6_init_64 (by decide) ?_
  refine lv_icmp_ge (tgt := 90) hx hb dX6_init_65 (by decide) (fun c_73 => absurd c_73 (by decide)) (fun _ => ?_)
  refine lv_aload_n hx hb dX6_init_68 rfl (lv_at hl 2 rfl) ?_
  refine va_get (D := (dC, dI)) (ci := 6) (v := .ref q_1) (C := RX6) (T := TX6) (N := 7) hx hb hts hiX6 hown hK hP 0 rfl rfl 0 (by decide) w__fieldLink_RX6_11_ShellHeap_Readers_rows_I_ (fun _ h9 => h9) rfl dX6_init_69 ?_
  refine lv_iload_n hx hb dX6_init_72 rfl (lv_at hl 1 rfl) ?_
  refine lv_iconst (v := 4) hx hb dX6_init_73 (by decide) ?_
  refine lv_imul hx hb dX6_init_74 ?_
  refine lv_topi (fun x_74 e_75 => ?_)
  obtain rfl : x_74 = 4 := e_75.trans (by decide)
  refine lv_iload_n hx hb dX6_init_75 rfl (lv_at hl 0 rfl) ?_
  refine lv_iadd hx hb dX6_init_76 ?_
  refine lv_topi (fun x_76 e_77 => ?_)
  obtain rfl : x_76 = 4 := e_77.trans (by decide)
  refine lv_iconst (v := 4) hx hb dX6_init_77 (by decide) ?_
  refine lv_imul hx hb dX6_init_78 ?_
  refine lv_topi (fun x_78 e_79 => ?_)
  obtain rfl : x_78 = 16 := e_79.trans (by decide)
  refine lv_iload_n hx hb dX6_init_79 rfl (lv_at hl 0 rfl) ?_
  refine lv_iadd hx hb dX6_init_80 ?_
  refine lv_topi (fun x_80 e_81 => ?_)
  obtain rfl : x_80 = 16 := e_81.trans (by decide)
  refine lv_bipush (v := 16) hx hb dX6_init_81 (by decide) ?_
  refine va_iast hx hb hK hP hD hS 1 0 rfl rfl (by unfold vp_in; decide) dX6_init_83 (fun H_82 locs hP hD hS => ?_)
  have h9 := z_s_1 hP hD
  clear hP hD
  obtain ⟨hP, hD⟩ := h9
  generalize (upd f_70 (16 : Int32).toNatClampNeg 16) = f_83 at hP hD
  refine lv_iinc (v := 1) (lv' := [(2, .int 1), (1, .int 1), (0, .ref h0)]) hx hb dX6_init_84 hl (k := 0) rfl (by decide) (by decide) rfl (fun ls hl => ?_)
  refine lv_goto (tgt := 63) hx hb dX6_init_87 (by decide) ?_
  refine lv_iload_n hx hb dX6_init_63 rfl (lv_at hl 0 rfl) ?_
  refine lv_iconst (v := 4) hx hb dX6_init_64 (by decide) ?_
  refine lv_icmp_ge (tgt := 90) hx hb dX6_init_65 (by decide) (fun c_84 => absurd c_84 (by decide)) (fun _ => ?_)
  refine lv_aload_n hx hb dX6_init_68 rfl (lv_at hl 2 rfl) ?_
  refine va_get (D := (dC, dI)) (ci := 6) (v := .ref q_1) (C := RX6) (T := TX6) (N := 7) hx hb hts hiX6 hown hK hP 0 rfl rfl 0 (by decide) w__fieldLink_RX6_11_ShellHeap_Readers_rows_I_ (fun _ h9 => h9) rfl dX6_init_69 ?_
  refine lv_iload_n hx hb dX6_init_72 rfl (lv_at hl 1 rfl) ?_
  refine lv_iconst (v := 4) hx hb dX6_init_73 (by decide) ?_
  refine lv_imul hx hb dX6_init_74 ?_
  refine lv_topi (fun x_85 e_86 => ?_)
  obtain rfl : x_85 = 4 := e_86.trans (by decide)
  refine lv_iload_n hx hb dX6_init_75 rfl (lv_at hl 0 rfl) ?_
  refine lv_iadd hx hb dX6_init_76 ?_
  refine lv_topi (fun x_87 e_88 => ?_)
  obtain rfl : x_87 = 5 := e_88.trans (by decide)
  refine lv_iconst (v := 4) hx hb dX6_init_77 (by decide) ?_
  refine lv_imul hx hb dX6_init_78 ?_
  refine lv_topi (fun x_89 e_90 => ?_)
  obtain rfl : x_89 = 20 := e_90.trans (by decide)
  refine lv_iload_n hx hb dX6_init_79 rfl (lv_at hl 0 rfl) ?_
  refine lv_iadd hx hb dX6_init_80 ?_
  refine lv_topi (fun x_91 e_92 => ?_)
  obtain rfl : x_91 = 21 := e_92.trans (by decide)
  refine lv_bipush (v := 16) hx hb dX6_init_81 (by decide) ?_
  refine va_iast hx hb hK hP hD hS 1 0 rfl rfl (by unfold vp_in; decide) dX6_init_83 (fun H_93 locs hP hD hS => ?_)
  have h9 := z_s_1 hP hD
  clear hP hD
  obtain ⟨hP, hD⟩ := h9
  generalize (upd f_83 (21 : Int32).toNatClampNeg 16) = f_94 at hP hD
  refine lv_iinc (v := 2) (lv' := [(2, .int 2), (1, .int 1), (0, .ref h0)]) hx hb dX6_init_84 hl (k := 0) rfl (by decide) (by decide) rfl (fun ls hl => ?_)
  refine lv_goto (tgt := 63) hx hb dX6_init_87 (by decide) ?_
  refine lv_iload_n hx hb dX6_init_63 rfl (lv_at hl 0 rfl) ?_
  refine lv_iconst (v := 4) hx hb dX6_init_64 (by decide) ?_
  refine lv_icmp_ge (tgt := 90) hx hb dX6_init_65 (by decide) (fun c_95 => absurd c_95 (by decide)) (fun _ => ?_)
  refine lv_aload_n hx hb dX6_init_68 rfl (lv_at hl 2 rfl) ?_
  refine va_get (D := (dC, dI)) (ci := 6) (v := .ref q_1) (C := RX6) (T := TX6) (N := 7) hx hb hts hiX6 hown hK hP 0 rfl rfl 0 (by decide) w__fieldLink_RX6_11_ShellHeap_Readers_rows_I_ (fun _ h9 => h9) rfl dX6_init_69 ?_
  refine lv_iload_n hx hb dX6_init_72 rfl (lv_at hl 1 rfl) ?_
  refine lv_iconst (v := 4) hx hb dX6_init_73 (by decide) ?_
  refine lv_imul hx hb dX6_init_74 ?_
  refine lv_topi (fun x_96 e_97 => ?_)
  obtain rfl : x_96 = 4 := e_97.trans (by decide)
  refine lv_iload_n hx hb dX6_init_75 rfl (lv_at hl 0 rfl) ?_
  refine lv_iadd hx hb dX6_init_76 ?_
  refine lv_topi (fun x_98 e_99 => ?_)
  obtain rfl : x_98 = 6 := e_99.trans (by decide)
  refine lv_iconst (v := 4) hx hb dX6_init_77 (by decide) ?_
  refine lv_imul hx hb dX6_init_78 ?_
  refine lv_topi (fun x_100 e_101 => ?_)
  obtain rfl : x_100 = 24 := e_101.trans (by decide)
  refine lv_iload_n hx hb dX6_init_79 rfl (lv_at hl 0 rfl) ?_
  refine lv_iadd hx hb dX6_init_80 ?_
  refine lv_topi (fun x_102 e_103 => ?_)
  obtain rfl : x_102 = 26 := e_103.trans (by decide)
  refine lv_bipush (v := 16) hx hb dX6_init_81 (by decide) ?_
  refine va_iast hx hb hK hP hD hS 1 0 rfl rfl (by unfold vp_in; decide) dX6_init_83 (fun H_104 locs hP hD hS => ?_)
  have h9 := z_s_1 hP hD
  clear hP hD
  obtain ⟨hP, hD⟩ := h9
  generalize (upd f_94 (26 : Int32).toNatClampNeg 16) = f_105 at hP hD
  refine lv_iinc (v := 3) (lv' := [(2, .int 3), (1, .int 1), (0, .ref h0)]) hx hb dX6_init_84 hl (k := 0) rfl (by decide) (by decide) rfl (fun ls hl => ?_)
  refine lv_goto (tgt := 63) hx hb dX6_init_87 (by decide) ?_
  refine lv_iload_n hx hb dX6_init_63 rfl (lv_at hl 0 rfl) ?_
  refine lv_iconst (v := 4) hx hb dX6_init_64 (by decide) ?_
  refine lv_icmp_ge (tgt := 90) hx hb dX6_init_65 (by decide) (fun c_106 => absurd c_106 (by decide)) (fun _ => ?_)
  refine lv_aload_n hx hb dX6_init_68 rfl (lv_at hl 2 rfl) ?_
  refine va_get (D := (dC, dI)) (ci := 6) (v := .ref q_1) (C := RX6) (T := TX6) (N := 7) hx hb hts hiX6 hown hK hP 0 rfl rfl 0 (by decide) w__fieldLink_RX6_11_ShellHeap_Readers_rows_I_ (fun _ h9 => h9) rfl dX6_init_69 ?_
  refine lv_iload_n hx hb dX6_init_72 rfl (lv_at hl 1 rfl) ?_
  refine lv_iconst (v := 4) hx hb dX6_init_73 (by decide) ?_
  refine lv_imul hx hb dX6_init_74 ?_
  refine lv_topi (fun x_107 e_108 => ?_)
  obtain rfl : x_107 = 4 := e_108.trans (by decide)
  refine lv_iload_n hx hb dX6_init_75 rfl (lv_at hl 0 rfl) ?_
  refine lv_iadd hx hb dX6_init_76 ?_
  refine lv_topi (fun x_109 e_110 => ?_)
  obtain rfl : x_109 = 7 := e_110.trans (by decide)
  refine lv_iconst (v := 4) hx hb dX6_init_77 (by decide) ?_
  refine lv_imul hx hb dX6_init_78 ?_
  refine lv_topi (fun x_111 e_112 => ?_)
  obtain rfl : x_111 = 28 := e_112.trans (by decide)
  refine lv_iload_n hx hb dX6_init_79 rfl (lv_at hl 0 rfl) ?_
  refine lv_iadd hx hb dX6_init_80 ?_
  refine lv_topi (fun x_113 e_114 => ?_)
  obtain rfl : x_113 = 31 := e_114.trans (by decide)
  refine lv_bipush (v := 16) hx hb dX6_init_81 (by decide) ?_
  refine va_iast hx hb hK hP hD hS 1 0 rfl rfl (by unfold vp_in; decide) dX6_init_83 (fun H_115 locs hP hD hS => ?_)
  have h9 := z_s_1 hP hD
  clear hP hD
  obtain ⟨hP, hD⟩ := h9
  generalize (upd f_105 (31 : Int32).toNatClampNeg 16) = f_116 at hP hD
  refine lv_iinc (v := 4) (lv' := [(2, .int 4), (1, .int 1), (0, .ref h0)]) hx hb dX6_init_84 hl (k := 0) rfl (by decide) (by decide) rfl (fun ls hl => ?_)
  refine lv_goto (tgt := 63) hx hb dX6_init_87 (by decide) ?_
  refine lv_iload_n hx hb dX6_init_63 rfl (lv_at hl 0 rfl) ?_
  refine lv_iconst (v := 4) hx hb dX6_init_64 (by decide) ?_
  refine lv_icmp_ge (tgt := 90) hx hb dX6_init_65 (by decide) (fun _ => ?_) (fun c_117 => absurd (by decide) c_117)
  refine lv_iinc (v := 2) (lv' := [(1, .int 2), (2, .int 4), (0, .ref h0)]) hx hb dX6_init_90 hl (k := 1) rfl (by decide) (by decide) rfl (fun ls hl => ?_)
  refine lv_goto (tgt := 56) hx hb dX6_init_93 (by decide) ?_
  refine lv_iload_n hx hb dX6_init_56 rfl (lv_at hl 0 rfl) ?_
  refine lv_iconst (v := 3) hx hb dX6_init_57 (by decide) ?_
  refine lv_icmp_ge (tgt := 96) hx hb dX6_init_58 (by decide) (fun c_118 => absurd c_118 (by decide)) (fun _ => ?_)
  refine lv_iconst (v := 0) hx hb dX6_init_61 (by decide) ?_
  refine lv_istore_n (lv' := [(2, .int 0), (1, .int 2), (0, .ref h0)]) hx hb dX6_init_62 rfl hl (by decide) rfl (fun ls hl => ?_)
  refine lv_iload_n hx hb dX6_init_63 rfl (lv_at hl 0 rfl) ?_
  refine lv_iconst (v := 4) hx hb dX6_init_64 (by decide) ?_
  refine lv_icmp_ge (tgt := 90) hx hb dX6_init_65 (by decide) (fun c_119 => absurd c_119 (by decide)) (fun _ => ?_)
  refine lv_aload_n hx hb dX6_init_68 rfl (lv_at hl 2 rfl) ?_
  refine va_get (D := (dC, dI)) (ci := 6) (v := .ref q_1) (C := RX6) (T := TX6) (N := 7) hx hb hts hiX6 hown hK hP 0 rfl rfl 0 (by decide) w__fieldLink_RX6_11_ShellHeap_Readers_rows_I_ (fun _ h9 => h9) rfl dX6_init_69 ?_
  refine lv_iload_n hx hb dX6_init_72 rfl (lv_at hl 1 rfl) ?_
  refine lv_iconst (v := 4) hx hb dX6_init_73 (by decide) ?_
  refine lv_imul hx hb dX6_init_74 ?_
  refine lv_topi (fun x_120 e_121 => ?_)
  obtain rfl : x_120 = 8 := e_121.trans (by decide)
  refine lv_iload_n hx hb dX6_init_75 rfl (lv_at hl 0 rfl) ?_
  refine lv_iadd hx hb dX6_init_76 ?_
  refine lv_topi (fun x_122 e_123 => ?_)
  obtain rfl : x_122 = 8 := e_123.trans (by decide)
  refine lv_iconst (v := 4) hx hb dX6_init_77 (by decide) ?_
  refine lv_imul hx hb dX6_init_78 ?_
  refine lv_topi (fun x_124 e_125 => ?_)
  obtain rfl : x_124 = 32 := e_125.trans (by decide)
  refine lv_iload_n hx hb dX6_init_79 rfl (lv_at hl 0 rfl) ?_
  refine lv_iadd hx hb dX6_init_80 ?_
  refine lv_topi (fun x_126 e_127 => ?_)
  obtain rfl : x_126 = 32 := e_127.trans (by decide)
  refine lv_bipush (v := 16) hx hb dX6_init_81 (by decide) ?_
  refine va_iast hx hb hK hP hD hS 1 0 rfl rfl (by unfold vp_in; decide) dX6_init_83 (fun H_128 locs hP hD hS => ?_)
  have h9 := z_s_1 hP hD
  clear hP hD
  obtain ⟨hP, hD⟩ := h9
  generalize (upd f_116 (32 : Int32).toNatClampNeg 16) = f_129 at hP hD
  refine lv_iinc (v := 1) (lv' := [(2, .int 1), (1, .int 2), (0, .ref h0)]) hx hb dX6_init_84 hl (k := 0) rfl (by decide) (by decide) rfl (fun ls hl => ?_)
  refine lv_goto (tgt := 63) hx hb dX6_init_87 (by decide) ?_
  refine lv_iload_n hx hb dX6_init_63 rfl (lv_at hl 0 rfl) ?_
  refine lv_iconst (v := 4) hx hb dX6_init_64 (by decide) ?_
  refine lv_icmp_ge (tgt := 90) hx hb dX6_init_65 (by decide) (fun c_130 => absurd c_130 (by decide)) (fun _ => ?_)
  refine lv_aload_n hx hb dX6_init_68 rfl (lv_at hl 2 rfl) ?_
  refine va_get (D := (dC, dI)) (ci := 6) (v := .ref q_1) (C := RX6) (T := TX6) (N := 7) hx hb hts hiX6 hown hK hP 0 rfl rfl 0 (by decide) w__fieldLink_RX6_11_ShellHeap_Readers_rows_I_ (fun _ h9 => h9) rfl dX6_init_69 ?_
  refine lv_iload_n hx hb dX6_init_72 rfl (lv_at hl 1 rfl) ?_
  refine lv_iconst (v := 4) hx hb dX6_init_73 (by decide) ?_
  refine lv_imul hx hb dX6_init_74 ?_
  refine lv_topi (fun x_131 e_132 => ?_)
  obtain rfl : x_131 = 8 := e_132.trans (by decide)
  refine lv_iload_n hx hb dX6_init_75 rfl (lv_at hl 0 rfl) ?_
  refine lv_iadd hx hb dX6_init_76 ?_
  refine lv_topi (fun x_133 e_134 => ?_)
  obtain rfl : x_133 = 9 := e_134.trans (by decide)
  refine lv_iconst (v := 4) hx hb dX6_init_77 (by decide) ?_
  refine lv_imul hx hb dX6_init_78 ?_
  refine lv_topi (fun x_135 e_136 => ?_)
  obtain rfl : x_135 = 36 := e_136.trans (by decide)
  refine lv_iload_n hx hb dX6_init_79 rfl (lv_at hl 0 rfl) ?_
  refine lv_iadd hx hb dX6_init_80 ?_
  refine lv_topi (fun x_137 e_138 => ?_)
  obtain rfl : x_137 = 37 := e_138.trans (by decide)
  refine lv_bipush (v := 16) hx hb dX6_init_81 (by decide) ?_
  refine va_iast hx hb hK hP hD hS 1 0 rfl rfl (by unfold vp_in; decide) dX6_init_83 (fun H_139 locs hP hD hS => ?_)
  have h9 := z_s_1 hP hD
  clear hP hD
  obtain ⟨hP, hD⟩ := h9
  generalize (upd f_129 (37 : Int32).toNatClampNeg 16) = f_140 at hP hD
  refine lv_iinc (v := 2) (lv' := [(2, .int 2), (1, .int 2), (0, .ref h0)]) hx hb dX6_init_84 hl (k := 0) rfl (by decide) (by decide) rfl (fun ls hl => ?_)
  refine lv_goto (tgt := 63) hx hb dX6_init_87 (by decide) ?_
  refine lv_iload_n hx hb dX6_init_63 rfl (lv_at hl 0 rfl) ?_
  refine lv_iconst (v := 4) hx hb dX6_init_64 (by decide) ?_
  refine lv_icmp_ge (tgt := 90) hx hb dX6_init_65 (by decide) (fun c_141 => absurd c_141 (by decide)) (fun _ => ?_)
  refine lv_aload_n hx hb dX6_init_68 rfl (lv_at hl 2 rfl) ?_
  refine va_get (D := (dC, dI)) (ci := 6) (v := .ref q_1) (C := RX6) (T := TX6) (N := 7) hx hb hts hiX6 hown hK hP 0 rfl rfl 0 (by decide) w__fieldLink_RX6_11_ShellHeap_Readers_rows_I_ (fun _ h9 => h9) rfl dX6_init_69 ?_
  refine lv_iload_n hx hb dX6_init_72 rfl (lv_at hl 1 rfl) ?_
  refine lv_iconst (v := 4) hx hb dX6_init_73 (by decide) ?_
  refine lv_imul hx hb dX6_init_74 ?_
  refine lv_topi (fun x_142 e_143 => ?_)
  obtain rfl : x_142 = 8 := e_143.trans (by decide)
  refine lv_iload_n hx hb dX6_init_75 rfl (lv_at hl 0 rfl) ?_
  refine lv_iadd hx hb dX6_init_76 ?_
  refine lv_topi (fun x_144 e_145 => ?_)
  obtain rfl : x_144 = 10 := e_145.trans (by decide)
  refine lv_iconst (v := 4) hx hb dX6_init_77 (by decide) ?_
  refine lv_imul hx hb dX6_init_78 ?_
  refine lv_topi (fun x_146 e_147 => ?_)
  obtain rfl : x_146 = 40 := e_147.trans (by decide)
  refine lv_iload_n hx hb dX6_init_79 rfl (lv_at hl 0 rfl) ?_
  refine lv_iadd hx hb dX6_init_80 ?_
  refine lv_topi (fun x_148 e_149 => ?_)
  obtain rfl : x_148 = 42 := e_149.trans (by decide)
  refine lv_bipush (v := 16) hx hb dX6_init_81 (by decide) ?_
  refine va_iast hx hb hK hP hD hS 1 0 rfl rfl (by unfold vp_in; decide) dX6_init_83 (fun H_150 locs hP hD hS => ?_)
  have h9 := z_s_1 hP hD
  clear hP hD
  obtain ⟨hP, hD⟩ := h9
  generalize (upd f_140 (42 : Int32).toNatClampNeg 16) = f_151 at hP hD
  refine lv_iinc (v := 3) (lv' := [(2, .int 3), (1, .int 2), (0, .ref h0)]) hx hb dX6_init_84 hl (k := 0) rfl (by decide) (by decide) rfl (fun ls hl => ?_)
  refine lv_goto (tgt := 63) hx hb dX6_init_87 (by decide) ?_
  refine lv_iload_n hx hb dX6_init_63 rfl (lv_at hl 0 rfl) ?_
  refine lv_iconst (v := 4) hx hb dX6_init_64 (by decide) ?_
  refine lv_icmp_ge (tgt := 90) hx hb dX6_init_65 (by decide) (fun c_152 => absurd c_152 (by decide)) (fun _ => ?_)
  refine lv_aload_n hx hb dX6_init_68 rfl (lv_at hl 2 rfl) ?_
  refine va_get (D := (dC, dI)) (ci := 6) (v := .ref q_1) (C := RX6) (T := TX6) (N := 7) hx hb hts hiX6 hown hK hP 0 rfl rfl 0 (by decide) w__fieldLink_RX6_11_ShellHeap_Readers_rows_I_ (fun _ h9 => h9) rfl dX6_init_69 ?_
  refine lv_iload_n hx hb dX6_init_72 rfl (lv_at hl 1 rfl) ?_
  refine lv_iconst (v := 4) hx hb dX6_init_73 (by decide) ?_
  refine lv_imul hx hb dX6_init_74 ?_
  refine lv_topi (fun x_153 e_154 => ?_)
  obtain rfl : x_153 = 8 := e_154.trans (by decide)
  refine lv_iload_n hx hb dX6_init_75 rfl (lv_at hl 0 rfl) ?_
  refine lv_iadd hx hb dX6_init_76 ?_
  refine lv_topi (fun x_155 e_156 => ?_)
  obtain rfl : x_155 = 11 := e_156.trans (by decide)
  refine lv_iconst (v := 4) hx hb dX6_init_77 (by decide) ?_
  refine lv_imul hx hb dX6_init_78 ?_
  refine lv_topi (fun x_157 e_158 => ?_)
  obtain rfl : x_157 = 44 := e_158.trans (by decide)
  refine lv_iload_n hx hb dX6_init_79 rfl (lv_at hl 0 rfl) ?_
  refine lv_iadd hx hb dX6_init_80 ?_
  refine lv_topi (fun x_159 e_160 => ?_)
  obtain rfl : x_159 = 47 := e_160.trans (by decide)
  refine lv_bipush (v := 16) hx hb dX6_init_81 (by decide) ?_
  refine va_iast hx hb hK hP hD hS 1 0 rfl rfl (by unfold vp_in; decide) dX6_init_83 (fun H_161 locs hP hD hS => ?_)
  have h9 := z_s_1 hP hD
  clear hP hD
  obtain ⟨hP, hD⟩ := h9
  generalize (upd f_151 (47 : Int32).toNatClampNeg 16) = f_162 at hP hD
  refine lv_iinc (v := 4) (lv' := [(2, .int 4), (1, .int 2), (0, .ref h0)]) hx hb dX6_init_84 hl (k := 0) rfl (by decide) (by decide) rfl (fun ls hl => ?_)
  refine lv_goto (tgt := 63) hx hb dX6_init_87 (by decide) ?_
  refine lv_iload_n hx hb dX6_init_63 rfl (lv_at hl 0 rfl) ?_
  refine lv_iconst (v := 4) hx hb dX6_init_64 (by decide) ?_
  refine lv_icmp_ge (tgt := 90) hx hb dX6_init_65 (by decide) (fun _ => ?_) (fun c_163 => absurd (by decide) c_163)
  refine lv_iinc (v := 3) (lv' := [(1, .int 3), (2, .int 4), (0, .ref h0)]) hx hb dX6_init_90 hl (k := 1) rfl (by decide) (by decide) rfl (fun ls hl => ?_)
  refine lv_goto (tgt := 56) hx hb dX6_init_93 (by decide) ?_
  refine lv_iload_n hx hb dX6_init_56 rfl (lv_at hl 0 rfl) ?_
  refine lv_iconst (v := 3) hx hb dX6_init_57 (by decide) ?_
  refine lv_icmp_ge (tgt := 96) hx hb dX6_init_58 (by decide) (fun _ => ?_) (fun c_164 => absurd (by decide) c_164)
  have hP9 := hP.sub (ws' := [(h0, .inr (6, [.ref q_1, .ref q_5, .ref q_9, .ref q_13, .ref q_17, .ref q_21, .int (-1)])), (q_1, .inl (cA_2, 48, .inl f_162)), (q_5, .inl (cA_6, 144, .inl (fun _ => 0))), (q_9, .inl (cA_10, 4, .inl (fun _ => 0))), (q_13, .inl (cA_14, 4, .inl (fun _ => 0))), (q_17, .inl (cA_18, 4, .inl (fun _ => 0))), (q_21, .inl (cA_22, 4, .inl (fun _ => 0)))]) [0, 1, 2, 3, 4, 5, 6] rfl
  have hD9 := hD.sub (ws' := [(h0, .inr (6, [.ref q_1, .ref q_5, .ref q_9, .ref q_13, .ref q_17, .ref q_21, .int (-1)])), (q_1, .inl (cA_2, 48, .inl f_162)), (q_5, .inl (cA_6, 144, .inl (fun _ => 0))), (q_9, .inl (cA_10, 4, .inl (fun _ => 0))), (q_13, .inl (cA_14, 4, .inl (fun _ => 0))), (q_17, .inl (cA_18, 4, .inl (fun _ => 0))), (q_21, .inl (cA_22, 4, .inl (fun _ => 0)))]) [0, 1, 2, 3, 4, 5, 6] (by decide) rfl
  have hK9 := hK.sub (tys' := [(cA_2, .int), (cA_6, .int), (cA_10, .int), (cA_14, .int), (cA_18, .int), (cA_22, .int)]) [0, 1, 2, 3, 4, 5] rfl
  refine W.widen (k := 6) (n := 208) (Nat.le_of_ble_eq_true rfl) (Nat.le_of_ble_eq_true rfl) ?_
  exact W.vret hx hb hr (fun t ht hW => ⟨⟨(), rfl, trivial, ⟨q_1, cA_2, f_162, q_5, cA_6, q_9, cA_10, q_13, cA_14, q_17, cA_18, q_21, cA_22, by rw [ht]; exact hP9, va_K.moved hW.alike hK9, hD9⟩⟩, hS.F ht⟩) hS.2.2 dX6_init_96
