def u_c_X4_make : List Cond := .code yX4_init cX4_init 2 none :: ([.methodLink RX4 3 objectInit, .instanceMethod objectInit, .code objectInit ⟨#[0xb1]⟩ 1 none, .fieldLink RX4 9 "ShellHeap$Known" "notesSeen" "I", .fieldLink RX4 15 "ShellHeap$Known" "layersSeen" "I", .arrayClass .boolean, .fieldLink RX4 18 "ShellHeap$Known" "struck" "[Z", .arrayClass .int, .fieldLink RX4 22 "ShellHeap$Known" "later" "[I", .fieldLink RX4 26 "ShellHeap$Known" "ranks" "[I", .fieldLink RX4 29 "ShellHeap$Known" "bedOf" "[I", .fieldLink RX4 32 "ShellHeap$Known" "least" "[I", .fieldLink RX4 35 "ShellHeap$Known" "greatest" "[I", .fieldLink RX4 38 "ShellHeap$Known" "clash" "I", .fieldLink RX4 41 "ShellHeap$Known" "book" "LShellHeap$Book;"] ++ wsX40)
set_option maxHeartbeats 4000000 in
set_option maxRecDepth 100000 in
theorem c_X4_make (l : Launch) (dC : Nat → ClassId) (dI : Nat → Nat → Nat) (sz : Nat) (h0 : Nat) (h1 : Nat) : Met l yX4_init u_c_X4_make ({ frames := 1, cells := 6, slots := 140, locals := 12 }) (va_Pc [.ref h0, .ref h1] (z_C (dC, dI) vwCl [(h0, .inr (4, [.null, .int 0, .int 0, .null, .null, .null, .null, .null, .null, .int 0]))] [] sz)) (va_Qv (fun (_ : Unit) => True) (fun (_ : Unit) (t : State) => ∃ (qa3 : Nat), ∃ (qc3 : ClassId), ∃ (qa4 : Nat), ∃ (qc4 : ClassId), ∃ (qa5 : Nat), ∃ (qc5 : ClassId), ∃ (qa6 : Nat), ∃ (qc6 : ClassId), ∃ (qa7 : Nat), ∃ (qc7 : ClassId), ∃ (qa8 : Nat), ∃ (qc8 : ClassId), va_P (dC, dI) vwCl [(h0, .inr (4, [.ref h1, .int (-1), .int (-1), .ref qa3, .ref qa4, .ref qa5, .ref qa6, .ref qa7, .ref qa8, .int 0])), (qa3, .inl (qc3, 80, .inl (fun _ => 0))), (qa4, .inl (qc4, 12, .inl (fun _ => 0))), (qa5, .inl (qc5, 12, .inl (fun _ => 0))), (qa6, .inl (qc6, 12, .inl (fun _ => 0))), (qa7, .inl (qc7, 12, .inl (fun _ => 0))), (qa8, .inl (qc8, 12, .inl (fun _ => 0)))] t.heap ∧ va_K (dC, dI) vwCl [(qc3, .boolean), (qc4, .int), (qc5, .int), (qc6, .int), (qc7, .int), (qc8, .int)] t ∧ va_D (va_A [(h0, .inr (4, [.null, .int 0, .int 0, .null, .null, .null, .null, .null, .null, .int 0]))] sz) [(h0, .inr (4, [.ref h1, .int (-1), .int (-1), .ref qa3, .ref qa4, .ref qa5, .ref qa6, .ref qa7, .ref qa8, .int 0])), (qa3, .inl (qc3, 80, .inl (fun _ => 0))), (qa4, .inl (qc4, 12, .inl (fun _ => 0))), (qa5, .inl (qc5, 12, .inl (fun _ => 0))), (qa6, .inl (qc6, 12, .inl (fun _ => 0))), (qa7, .inl (qc7, 12, .inl (fun _ => 0))), (qa8, .inl (qc8, 12, .inl (fun _ => 0)))]) (va_A [(h0, .inr (4, [.null, .int 0, .int 0, .null, .null, .null, .null, .null, .null, .int 0]))] sz)) 6 140 (va_A [(h0, .inr (4, [.null, .int 0, .int 0, .null, .null, .null, .null, .null, .null, .int 0]))] sz) := by
  refine Met.ofW (cc := cX4_init) (maxL := 2) (ret := none) (by decide) rfl ?_
  intro p e s m args below meth c s₁ B hml hv
  obtain ⟨rfl, hsz, hP, hK, hD0⟩ := hv
  have hx := B.exec
  have hb := B.bytes
  have hr := B.returns
  have hts := atoms_spec (ws := u_c_X4_make) B.pre
  have hown : s.vm.findClass RX4 = some m.cls := findClass_of_methodNamed B.named
  have hlocks := B.notSynchronized
  have hin : meth.name = "<init>" := (name_of_methodNamed B.named B.method).1
  subst hsz
  have hD := hD0.self (sz := s.heap.size)
  generalize hAe : va_A [(h0, .inr (4, [.null, .int 0, .int 0, .null, .null, .null, .null, .null, .null, .int 0]))] s.heap.size = A at hD ⊢
  have hA : ∀ q : Nat, s.heap.size ≤ q → A q := fun q h => by rw [← hAe]; exact Or.inr h
  have hS : va_S A s.heap s.heap [] := va_S.rf
  have hP : va_P (dC, dI) vwCl [(h0, .inr (4, [.null, .int 0, .int 0, .null, .null, .null, .null, .null, .null, .int 0]))] s.heap := hP
  have w__methodLink_RX4_3_objectInit := hts (.methodLink RX4 3 objectInit) (by decide +kernel)
  have w__instanceMethod_objectInit := hts (.instanceMethod objectInit) (by decide +kernel)
  have w__code_objectInit_0xb1_1_none := hts (.code objectInit ⟨#[0xb1]⟩ 1 none) (by decide +kernel)
  have w__fieldLink_RX4_9_ShellHeap_Known_notesSeen_I_ := hts (.fieldLink RX4 9 "ShellHeap$Known" "notesSeen" "I") (by decide +kernel)
  have hiX4 := show ∀ w ∈ u_ws RX4 TX4 10, w ∈ u_c_X4_make by decide +kernel
  have w__fieldLink_RX4_15_ShellHeap_Known_layersSeen_I_ := hts (.fieldLink RX4 15 "ShellHeap$Known" "layersSeen" "I") (by decide +kernel)
  have w__arrayClass_boolean := hts (.arrayClass .boolean) (by decide +kernel)
  have w__fieldLink_RX4_18_ShellHeap_Known_struck_Z_ := hts (.fieldLink RX4 18 "ShellHeap$Known" "struck" "[Z") (by decide +kernel)
  have w__arrayClass_int := hts (.arrayClass .int) (by decide +kernel)
  have w__fieldLink_RX4_22_ShellHeap_Known_later_I_ := hts (.fieldLink RX4 22 "ShellHeap$Known" "later" "[I") (by decide +kernel)
  have w__fieldLink_RX4_26_ShellHeap_Known_ranks_I_ := hts (.fieldLink RX4 26 "ShellHeap$Known" "ranks" "[I") (by decide +kernel)
  have w__fieldLink_RX4_29_ShellHeap_Known_bedOf_I_ := hts (.fieldLink RX4 29 "ShellHeap$Known" "bedOf" "[I") (by decide +kernel)
  have w__fieldLink_RX4_32_ShellHeap_Known_least_I_ := hts (.fieldLink RX4 32 "ShellHeap$Known" "least" "[I") (by decide +kernel)
  have w__fieldLink_RX4_35_ShellHeap_Known_greatest_I_ := hts (.fieldLink RX4 35 "ShellHeap$Known" "greatest" "[I") (by decide +kernel)
  have w__fieldLink_RX4_38_ShellHeap_Known_clash_I_ := hts (.fieldLink RX4 38 "ShellHeap$Known" "clash" "I") (by decide +kernel)
  have w__fieldLink_RX4_41_ShellHeap_Known_book_LShellHeap_Book_ := hts (.fieldLink RX4 41 "ShellHeap$Known" "book" "LShellHeap$Book;") (by decide +kernel)
  have hl := lv_entry ([.ref h0, .ref h1]) (n := 2) (Nat.le_of_ble_eq_true rfl)
  rw [lg_entry_eq]
  generalize (lg_sl ([.ref h0, .ref h1]) ++ List.replicate (2 - (lg_sl ([.ref h0, .ref h1])).length) Slot.unset).toArray = ls at hl ⊢
  have hl : lv_has ls 2 [(0, .ref h0), (1, .ref h1)] := hl
  refine lv_aload_n hx hb dX4_init_0 rfl (lv_at hl 0 rfl) ?_
  refine W.objInit hx hb hown w__methodLink_RX4_3_objectInit w__instanceMethod_objectInit w__code_objectInit_0xb1_1_none rfl (by rw [hml]; exact hl.1) rfl dX4_init_1 (Nat.le_of_ble_eq_true rfl) (Nat.le_of_ble_eq_true rfl) ?_
  refine W.eq (g2 := F0 m 4 ls []) rfl ?_
  refine lv_aload_n hx hb dX4_init_4 rfl (lv_at hl 0 rfl) ?_
  refine lv_iconst (v := (-1)) hx hb dX4_init_5 (by decide) ?_
  refine va_put (D := (dC, dI)) (ci := 4) (v := .int (-1)) (ty := .int) (C := RX4) (T := TX4) (N := 10) hx hb hts hiX4 tyX4 tyX4_ok nmX4 hown hK hP hD hS 0 rfl rfl 1 (by decide) w__fieldLink_RX4_9_ShellHeap_Known_notesSeen_I_ (fun _ h9 => h9) rfl (by decide +kernel) rfl rfl (Nat.le_of_ble_eq_true rfl) dX4_init_6 ?_
  clear hP hD hS
  intro H_1 locs hP hD hS
  have h9 := z_s_0_1 hP hD
  clear hP hD
  obtain ⟨hP, hD⟩ := h9
  refine lv_aload_n hx hb dX4_init_9 rfl (lv_at hl 0 rfl) ?_
  refine lv_iconst (v := (-1)) hx hb dX4_init_10 (by decide) ?_
  refine va_put (D := (dC, dI)) (ci := 4) (v := .int (-1)) (ty := .int) (C := RX4) (T := TX4) (N := 10) hx hb hts hiX4 tyX4 tyX4_ok nmX4 hown hK hP hD hS 0 rfl rfl 2 (by decide) w__fieldLink_RX4_15_ShellHeap_Known_layersSeen_I_ (fun _ h9 => h9) rfl (by decide +kernel) rfl rfl (Nat.le_of_ble_eq_true rfl) dX4_init_11 ?_
  clear hP hD hS
  intro H_2 locs hP hD hS
  have h9 := z_s_0_2 hP hD
  clear hP hD
  obtain ⟨hP, hD⟩ := h9
  refine lv_aload_n hx hb dX4_init_14 rfl (lv_at hl 0 rfl) ?_
  refine lv_bipush (v := 80) hx hb dX4_init_15 (by decide) ?_
  refine va_newa (atype := .boolean) (ty := .boolean) (N' := 80) (a0 := (80, .inl (fun _ => 0))) hx hb w__arrayClass_boolean rfl hK hP hD hS hA (z_newZ 80) (by decide) (by decide) (by decide) (Nat.le_of_ble_eq_true rfl) (Nat.le_of_ble_eq_true rfl) dX4_init_17 ?_
  clear hK hP hD hS
  intro q_3 cA_4 H_5 hK hP hD hS
  replace hK : va_K (dC, dI) vwCl [(cA_4, .boolean)] s := hK
  replace hP : va_P (dC, dI) vwCl [(h0, .inr (4, [.null, .int (-1), .int (-1), .null, .null, .null, .null, .null, .null, .int 0])), (q_3, .inl (cA_4, 80, .inl (fun _ => 0)))] H_5 := hP
  replace hD : va_D A [(h0, .inr (4, [.null, .int (-1), .int (-1), .null, .null, .null, .null, .null, .null, .int 0])), (q_3, .inl (cA_4, 80, .inl (fun _ => 0)))] := hD
  refine va_putF (D := (dC, dI)) (ci := 4) (v := .ref q_3) (ty := .array .boolean) (C := RX4) (T := TX4) (N := 10) hx hb hts hiX4 tyX4 tyX4_ok nmX4 hown hK hP hD hS 0 rfl rfl 3 (by decide) w__fieldLink_RX4_18_ShellHeap_Known_struck_Z_ (fun _ h9 => h9) rfl hin rfl (by decide +kernel) rfl rfl (Nat.le_of_ble_eq_true rfl) dX4_init_19 ?_
  clear hP hD hS
  intro H_6 locs hP hD hS
  have h9 := z_s_0_3 hP hD
  clear hP hD
  obtain ⟨hP, hD⟩ := h9
  refine lv_aload_n hx hb dX4_init_22 rfl (lv_at hl 0 rfl) ?_
  refine lv_bipush (v := 12) hx hb dX4_init_23 (by decide) ?_
  refine va_newa (atype := .int) (ty := .int) (N' := 12) (a0 := (12, .inl (fun _ => 0))) hx hb w__arrayClass_int rfl hK hP hD hS hA (z_newI 12) (by decide) (by decide) (by decide) (Nat.le_of_ble_eq_true rfl) (Nat.le_of_ble_eq_true rfl) dX4_init_25 ?_
  clear hK hP hD hS
  intro q_7 cA_8 H_9 hK hP hD hS
  replace hK : va_K (dC, dI) vwCl [(cA_4, .boolean), (cA_8, .int)] s := hK
  replace hP : va_P (dC, dI) vwCl [(h0, .inr (4, [.null, .int (-1), .int (-1), .ref q_3, .null, .null, .null, .null, .null, .int 0])), (q_3, .inl (cA_4, 80, .inl (fun _ => 0))), (q_7, .inl (cA_8, 12, .inl (fun _ => 0)))] H_9 := hP
  replace hD : va_D A [(h0, .inr (4, [.null, .int (-1), .int (-1), .ref q_3, .null, .null, .null, .null, .null, .int 0])), (q_3, .inl (cA_4, 80, .inl (fun _ => 0))), (q_7, .inl (cA_8, 12, .inl (fun _ => 0)))] := hD
  refine va_putF (D := (dC, dI)) (ci := 4) (v := .ref q_7) (ty := .array .int) (C := RX4) (T := TX4) (N := 10) hx hb hts hiX4 tyX4 tyX4_ok nmX4 hown hK hP hD hS 0 rfl rfl 4 (by decide) w__fieldLink_RX4_22_ShellHeap_Known_later_I_ (fun _ h9 => h9) rfl hin rfl (by decide +kernel) rfl rfl (Nat.le_of_ble_eq_true rfl) dX4_init_27 ?_
  clear hP hD hS
  intro H_10 locs hP hD hS
  have h9 := z_s_0_4 hP hD
  clear hP hD
  obtain ⟨hP, hD⟩ := h9
  refine lv_aload_n hx hb dX4_init_30 rfl (lv_at hl 0 rfl) ?_
  refine lv_bipush (v := 12) hx hb dX4_init_31 (by decide) ?_
  refine va_newa (atype := .int) (ty := .int) (N' := 12) (a0 := (12, .inl (fun _ => 0))) hx hb w__arrayClass_int rfl hK hP hD hS hA (z_newI 12) (by decide) (by decide) (by decide) (Nat.le_of_ble_eq_true rfl) (Nat.le_of_ble_eq_true rfl) dX4_init_33 ?_
  clear hK hP hD hS
  intro q_11 cA_12 H_13 hK hP hD hS
  replace hK : va_K (dC, dI) vwCl [(cA_4, .boolean), (cA_8, .int), (cA_12, .int)] s := hK
  replace hP : va_P (dC, dI) vwCl [(h0, .inr (4, [.null, .int (-1), .int (-1), .ref q_3, .ref q_7, .null, .null, .null, .null, .int 0])), (q_3, .inl (cA_4, 80, .inl (fun _ => 0))), (q_7, .inl (cA_8, 12, .inl (fun _ => 0))), (q_11, .inl (cA_12, 12, .inl (fun _ => 0)))] H_13 := hP
  replace hD : va_D A [(h0, .inr (4, [.null, .int (-1), .int (-1), .ref q_3, .ref q_7, .null, .null, .null, .null, .int 0])), (q_3, .inl (cA_4, 80, .inl (fun _ => 0))), (q_7, .inl (cA_8, 12, .inl (fun _ => 0))), (q_11, .inl (cA_12, 12, .inl (fun _ => 0)))] := hD
  refine va_putF (D := (dC, dI)) (ci := 4) (v := .ref q_11) (ty := .array .int) (C := RX4) (T := TX4) (N := 10) hx hb hts hiX4 tyX4 tyX4_ok nmX4 hown hK hP hD hS 0 rfl rfl 5 (by decide) w__fieldLink_RX4_26_ShellHeap_Known_ranks_I_ (fun _ h9 => h9) rfl hin rfl (by decide +kernel) rfl rfl (Nat.le_of_ble_eq_true rfl) dX4_init_35 ?_
  clear hP hD hS
  intro H_14 locs hP hD hS
  have h9 := z_s_0_5 hP hD
  clear hP hD
  obtain ⟨hP, hD⟩ := h9
  refine lv_aload_n hx hb dX4_init_38 rfl (lv_at hl 0 rfl) ?_
  refine lv_bipush (v := 12) hx hb dX4_init_39 (by decide) ?_
  refine va_newa (atype := .int) (ty := .int) (N' := 12) (a0 := (12, .inl (fun _ => 0))) hx hb w__arrayClass_int rfl hK hP hD hS hA (z_newI 12) (by decide) (by decide) (by decide) (Nat.le_of_ble_eq_true rfl) (Nat.le_of_ble_eq_true rfl) dX4_init_41 ?_
  clear hK hP hD hS
  intro q_15 cA_16 H_17 hK hP hD hS
  replace hK : va_K (dC, dI) vwCl [(cA_4, .boolean), (cA_8, .int), (cA_12, .int), (cA_16, .int)] s := hK
  replace hP : va_P (dC, dI) vwCl [(h0, .inr (4, [.null, .int (-1), .int (-1), .ref q_3, .ref q_7, .ref q_11, .null, .null, .null, .int 0])), (q_3, .inl (cA_4, 80, .inl (fun _ => 0))), (q_7, .inl (cA_8, 12, .inl (fun _ => 0))), (q_11, .inl (cA_12, 12, .inl (fun _ => 0))), (q_15, .inl (cA_16, 12, .inl (fun _ => 0)))] H_17 := hP
  replace hD : va_D A [(h0, .inr (4, [.null, .int (-1), .int (-1), .ref q_3, .ref q_7, .ref q_11, .null, .null, .null, .int 0])), (q_3, .inl (cA_4, 80, .inl (fun _ => 0))), (q_7, .inl (cA_8, 12, .inl (fun _ => 0))), (q_11, .inl (cA_12, 12, .inl (fun _ => 0))), (q_15, .inl (cA_16, 12, .inl (fun _ => 0)))] := hD
  refine va_putF (D := (dC, dI)) (ci := 4) (v := .ref q_15) (ty := .array .int) (C := RX4) (T := TX4) (N := 10) hx hb hts hiX4 tyX4 tyX4_ok nmX4 hown hK hP hD hS 0 rfl rfl 6 (by decide) w__fieldLink_RX4_29_ShellHeap_Known_bedOf_I_ (fun _ h9 => h9) rfl hin rfl (by decide +kernel) rfl rfl (Nat.le_of_ble_eq_true rfl) dX4_init_43 ?_
  clear hP hD hS
  intro H_18 locs hP hD hS
  have h9 := z_s_0_6 hP hD
  clear hP hD
  obtain ⟨hP, hD⟩ := h9
  refine lv_aload_n hx hb dX4_init_46 rfl (lv_at hl 0 rfl) ?_
  refine lv_bipush (v := 12) hx hb dX4_init_47 (by decide) ?_
  refine va_newa (atype := .int) (ty := .int) (N' := 12) (a0 := (12, .inl (fun _ => 0))) hx hb w__arrayClass_int rfl hK hP hD hS hA (z_newI 12) (by decide) (by decide) (by decide) (Nat.le_of_ble_eq_true rfl) (Nat.le_of_ble_eq_true rfl) dX4_init_49 ?_
  clear hK hP hD hS
  intro q_19 cA_20 H_21 hK hP hD hS
  replace hK : va_K (dC, dI) vwCl [(cA_4, .boolean), (cA_8, .int), (cA_12, .int), (cA_16, .int), (cA_20, .int)] s := hK
  replace hP : va_P (dC, dI) vwCl [(h0, .inr (4, [.null, .int (-1), .int (-1), .ref q_3, .ref q_7, .ref q_11, .ref q_15, .null, .null, .int 0])), (q_3, .inl (cA_4, 80, .inl (fun _ => 0))), (q_7, .inl (cA_8, 12, .inl (fun _ => 0))), (q_11, .inl (cA_12, 12, .inl (fun _ => 0))), (q_15, .inl (cA_16, 12, .inl (fun _ => 0))), (q_19, .inl (cA_20, 12, .inl (fun _ => 0)))] H_21 := hP
  replace hD : va_D A [(h0, .inr (4, [.null, .int (-1), .int (-1), .ref q_3, .ref q_7, .ref q_11, .ref q_15, .null, .null, .int 0])), (q_3, .inl (cA_4, 80, .inl (fun _ => 0))), (q_7, .inl (cA_8, 12, .inl (fun _ => 0))), (q_11, .inl (cA_12, 12, .inl (fun _ => 0))), (q_15, .inl (cA_16, 12, .inl (fun _ => 0))), (q_19, .inl (cA_20, 12, .inl (fun _ => 0)))] := hD
  refine va_putF (D := (dC, dI)) (ci := 4) (v := .ref q_19) (ty := .array .int) (C := RX4) (T := TX4) (N := 10) hx hb hts hiX4 tyX4 tyX4_ok nmX4 hown hK hP hD hS 0 rfl rfl 7 (by decide) w__fieldLink_RX4_32_ShellHeap_Known_least_I_ (fun _ h9 => h9) rfl hin rfl (by decide +kernel) rfl rfl (Nat.le_of_ble_eq_true rfl) dX4_init_51 ?_
  clear hP hD hS
  intro H_22 locs hP hD hS
  have h9 := z_s_0_7 hP hD
  clear hP hD
  obtain ⟨hP, hD⟩ := h9
  refine lv_aload_n hx hb dX4_init_54 rfl (lv_at hl 0 rfl) ?_
  refine lv_bipush (v := 12) hx hb dX4_init_55 (by decide) ?_
  refine va_newa (atype := .int) (ty := .int) (N' := 12) (a0 := (12, .inl (fun _ => 0))) hx hb w__arrayClass_int rfl hK hP hD hS hA (z_newI 12) (by decide) (by decide) (by decide) (Nat.le_of_ble_eq_true rfl) (Nat.le_of_ble_eq_true rfl) dX4_init_57 ?_
  clear hK hP hD hS
  intro q_23 cA_24 H_25 hK hP hD hS
  replace hK : va_K (dC, dI) vwCl [(cA_4, .boolean), (cA_8, .int), (cA_12, .int), (cA_16, .int), (cA_20, .int), (cA_24, .int)] s := hK
  replace hP : va_P (dC, dI) vwCl [(h0, .inr (4, [.null, .int (-1), .int (-1), .ref q_3, .ref q_7, .ref q_11, .ref q_15, .ref q_19, .null, .int 0])), (q_3, .inl (cA_4, 80, .inl (fun _ => 0))), (q_7, .inl (cA_8, 12, .inl (fun _ => 0))), (q_11, .inl (cA_12, 12, .inl (fun _ => 0))), (q_15, .inl (cA_16, 12, .inl (fun _ => 0))), (q_19, .inl (cA_20, 12, .inl (fun _ => 0))), (q_23, .inl (cA_24, 12, .inl (fun _ => 0)))] H_25 := hP
  replace hD : va_D A [(h0, .inr (4, [.null, .int (-1), .int (-1), .ref q_3, .ref q_7, .ref q_11, .ref q_15, .ref q_19, .null, .int 0])), (q_3, .inl (cA_4, 80, .inl (fun _ => 0))), (q_7, .inl (cA_8, 12, .inl (fun _ => 0))), (q_11, .inl (cA_12, 12, .inl (fun _ => 0))), (q_15, .inl (cA_16, 12, .inl (fun _ => 0))), (q_19, .inl (cA_20, 12, .inl (fun _ => 0))), (q_23, .inl (cA_24, 12, .inl (fun _ => 0)))] := hD
  refine va_putF (D := (dC, dI)) (ci := 4) (v := .ref q_23) (ty := .array .int) (C := RX4) (T := TX4) (N := 10) hx hb hts hiX4 tyX4 tyX4_ok nmX4 hown hK hP hD hS 0 rfl rfl 8 (by decide) w__fieldLink_RX4_35_ShellHeap_Known_greatest_I_ (fun _ h9 => h9) rfl hin rfl (by decide +kernel) rfl rfl (Nat.le_of_ble_eq_true rfl) dX4_init_59 ?_
  clear hP hD hS
  intro H_26 locs hP hD hS
  have h9 := z_s_0_8 hP hD
  clear hP hD
  obtain ⟨hP, hD⟩ := h9
  refine lv_aload_n hx hb dX4_init_62 rfl (lv_at hl 0 rfl) ?_
  refine lv_iconst (v := 0) hx hb dX4_init_63 (by decide) ?_
  refine va_put (D := (dC, dI)) (ci := 4) (v := .int 0) (ty := .int) (C := RX4) (T := TX4) (N := 10) hx hb hts hiX4 tyX4 tyX4_ok nmX4 hown hK hP hD hS 0 rfl rfl 9 (by decide) w__fieldLink_RX4_38_ShellHeap_Known_clash_I_ (fun _ h9 => h9) rfl (by decide +kernel) rfl rfl (Nat.le_of_ble_eq_true rfl) dX4_init_64 ?_
  clear hP hD hS
  intro H_27 locs hP hD hS
  have h9 := z_s_0_9 hP hD
  clear hP hD
  obtain ⟨hP, hD⟩ := h9
  refine lv_aload_n hx hb dX4_init_67 rfl (lv_at hl 0 rfl) ?_
  refine lv_aload_n hx hb dX4_init_68 rfl (lv_at hl 1 rfl) ?_
  refine va_putF (D := (dC, dI)) (ci := 4) (v := .ref h1) (ty := .object "ShellHeap$Book") (C := RX4) (T := TX4) (N := 10) hx hb hts hiX4 tyX4 tyX4_ok nmX4 hown hK hP hD hS 0 rfl rfl 0 (by decide) w__fieldLink_RX4_41_ShellHeap_Known_book_LShellHeap_Book_ (fun _ h9 => h9) rfl hin rfl (by decide +kernel) rfl rfl (Nat.le_of_ble_eq_true rfl) dX4_init_69 ?_
  clear hP hD hS
  intro H_28 locs hP hD hS
  have h9 := z_s_0_0 hP hD
  clear hP hD
  obtain ⟨hP, hD⟩ := h9
  have hP9 := hP.sub (ws' := [(h0, .inr (4, [.ref h1, .int (-1), .int (-1), .ref q_3, .ref q_7, .ref q_11, .ref q_15, .ref q_19, .ref q_23, .int 0])), (q_3, .inl (cA_4, 80, .inl (fun _ => 0))), (q_7, .inl (cA_8, 12, .inl (fun _ => 0))), (q_11, .inl (cA_12, 12, .inl (fun _ => 0))), (q_15, .inl (cA_16, 12, .inl (fun _ => 0))), (q_19, .inl (cA_20, 12, .inl (fun _ => 0))), (q_23, .inl (cA_24, 12, .inl (fun _ => 0)))]) [0, 1, 2, 3, 4, 5, 6] rfl
  have hD9 := hD.sub (ws' := [(h0, .inr (4, [.ref h1, .int (-1), .int (-1), .ref q_3, .ref q_7, .ref q_11, .ref q_15, .ref q_19, .ref q_23, .int 0])), (q_3, .inl (cA_4, 80, .inl (fun _ => 0))), (q_7, .inl (cA_8, 12, .inl (fun _ => 0))), (q_11, .inl (cA_12, 12, .inl (fun _ => 0))), (q_15, .inl (cA_16, 12, .inl (fun _ => 0))), (q_19, .inl (cA_20, 12, .inl (fun _ => 0))), (q_23, .inl (cA_24, 12, .inl (fun _ => 0)))]) [0, 1, 2, 3, 4, 5, 6] (by decide) rfl
  have hK9 := hK.sub (tys' := [(cA_4, .boolean), (cA_8, .int), (cA_12, .int), (cA_16, .int), (cA_20, .int), (cA_24, .int)]) [0, 1, 2, 3, 4, 5] rfl
  refine W.widen (k := 6) (n := 140) (Nat.le_of_ble_eq_true rfl) (Nat.le_of_ble_eq_true rfl) ?_
  exact W.vret hx hb hr (fun t ht hW => ⟨⟨(), rfl, trivial, ⟨q_3, cA_4, q_7, cA_8, q_11, cA_12, q_15, cA_16, q_19, cA_20, q_23, cA_24, by rw [ht]; exact hP9, va_K.moved hW.alike hK9, hD9⟩⟩, hS.F ht⟩) hS.2.2 dX4_init_72
