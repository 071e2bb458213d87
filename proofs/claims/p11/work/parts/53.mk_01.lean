def u_c_X0_make : List Cond := .code yX0_init cX0_init 1 none :: ([.methodLink RX0 3 objectInit, .instanceMethod objectInit, .code objectInit ⟨#[0xb1]⟩ 1 none, .arrayClass .int, .fieldLink RX0 9 "ShellHeap$Book" "sort" "[I", .fieldLink RX0 15 "ShellHeap$Book" "a" "[I", .fieldLink RX0 18 "ShellHeap$Book" "b" "[I", .fieldLink RX0 21 "ShellHeap$Book" "c" "[I", .fieldLink RX0 24 "ShellHeap$Book" "notes" "I", .fieldLink RX0 28 "ShellHeap$Book" "layers" "I"] ++ wsX00)
set_option maxHeartbeats 4000000 in
set_option maxRecDepth 100000 in
theorem c_X0_make (l : Launch) (dC : Nat → ClassId) (dI : Nat → Nat → Nat) (sz : Nat) (h0 : Nat) : Met l yX0_init u_c_X0_make ({ frames := 1, cells := 4, slots := 320, locals := 12 }) (va_Pc [.ref h0] (z_C (dC, dI) vwCl [(h0, .inr (0, [.null, .null, .null, .null, .int 0, .int 0]))] [] sz)) (va_Qv (fun (_ : Unit) => True) (fun (_ : Unit) (t : State) => ∃ (qa0 : Nat), ∃ (qc0 : ClassId), ∃ (qa1 : Nat), ∃ (qc1 : ClassId), ∃ (qa2 : Nat), ∃ (qc2 : ClassId), ∃ (qa3 : Nat), ∃ (qc3 : ClassId), va_P (dC, dI) vwCl [(h0, .inr (0, [.ref qa0, .ref qa1, .ref qa2, .ref qa3, .int 0, .int 0])), (qa0, .inl (qc0, 80, .inl (fun _ => 0))), (qa1, .inl (qc1, 80, .inl (fun _ => 0))), (qa2, .inl (qc2, 80, .inl (fun _ => 0))), (qa3, .inl (qc3, 80, .inl (fun _ => 0)))] t.heap ∧ va_K (dC, dI) vwCl [(qc0, .int), (qc1, .int), (qc2, .int), (qc3, .int)] t ∧ va_D (va_A [(h0, .inr (0, [.null, .null, .null, .null, .int 0, .int 0]))] sz) [(h0, .inr (0, [.ref qa0, .ref qa1, .ref qa2, .ref qa3, .int 0, .int 0])), (qa0, .inl (qc0, 80, .inl (fun _ => 0))), (qa1, .inl (qc1, 80, .inl (fun _ => 0))), (qa2, .inl (qc2, 80, .inl (fun _ => 0))), (qa3, .inl (qc3, 80, .inl (fun _ => 0)))]) (va_A [(h0, .inr (0, [.null, .null, .null, .null, .int 0, .int 0]))] sz)) 4 320 (va_A [(h0, .inr (0, [.null, .null, .null, .null, .int 0, .int 0]))] sz) := by
  refine Met.ofW (cc := cX0_init) (maxL := 1) (ret := none) (by decide) rfl ?_
  intro p e s m args below meth c s₁ B hml hv
  obtain ⟨rfl, hsz, hP, hK, hD0⟩ := hv
  have hx := B.exec
  have hb := B.bytes
  have hr := B.returns
  have hts := atoms_spec (ws := u_c_X0_make) B.pre
  have hown : s.vm.findClass RX0 = some m.cls := findClass_of_methodNamed B.named
  have hlocks := B.notSynchronized
  have hin : meth.name = "<init>" := (name_of_methodNamed B.named B.method).1
  subst hsz
  have hD := hD0.self (sz := s.heap.size)
  generalize hAe : va_A [(h0, .inr (0, [.null, .null, .null, .null, .int 0, .int 0]))] s.heap.size = A at hD ⊢
  have hA : ∀ q : Nat, s.heap.size ≤ q → A q := fun q h => by rw [← hAe]; exact Or.inr h
  have hS : va_S A s.heap s.heap [] := va_S.rf
  have hP : va_P (dC, dI) vwCl [(h0, .inr (0, [.null, .null, .null, .null, .int 0, .int 0]))] s.heap := hP
  have w__methodLink_RX0_3_objectInit := hts (.methodLink RX0 3 objectInit) (by decide +kernel)
  have w__instanceMethod_objectInit := hts (.instanceMethod objectInit) (by decide +kernel)
  have w__code_objectInit_0xb1_1_none := hts (.code objectInit ⟨#[0xb1]⟩ 1 none) (by decide +kernel)
  have w__arrayClass_int := hts (.arrayClass .int) (by decide +kernel)
  have w__fieldLink_RX0_9_ShellHeap_Book_sort_I_ := hts (.fieldLink RX0 9 "ShellHeap$Book" "sort" "[I") (by decide +kernel)
  have hiX0 := show ∀ w ∈ u_ws RX0 TX0 6, w ∈ u_c_X0_make by decide +kernel
  have w__fieldLink_RX0_15_ShellHeap_Book_a_I_ := hts (.fieldLink RX0 15 "ShellHeap$Book" "a" "[I") (by decide +kernel)
  have w__fieldLink_RX0_18_ShellHeap_Book_b_I_ := hts (.fieldLink RX0 18 "ShellHeap$Book" "b" "[I") (by decide +kernel)
  have w__fieldLink_RX0_21_ShellHeap_Book_c_I_ := hts (.fieldLink RX0 21 "ShellHeap$Book" "c" "[I") (by decide +kernel)
  have w__fieldLink_RX0_24_ShellHeap_Book_notes_I_ := hts (.fieldLink RX0 24 "ShellHeap$Book" "notes" "I") (by decide +kernel)
  have w__fieldLink_RX0_28_ShellHeap_Book_layers_I_ := hts (.fieldLink RX0 28 "ShellHeap$Book" "layers" "I") (by decide +kernel)
  have hl := lv_entry ([.ref h0]) (n := 1) (Nat.le_of_ble_eq_true rfl)
  rw [lg_entry_eq]
  generalize (lg_sl ([.ref h0]) ++ List.replicate (1 - (lg_sl ([.ref h0])).length) Slot.unset).toArray = ls at hl ⊢
  have hl : lv_has ls 1 [(0, .ref h0)] := hl
  refine lv_aload_n hx hb dX0_init_0 rfl (lv_at hl 0 rfl) ?_
  refine W.objInit hx hb hown w__methodLink_RX0_3_objectInit w__instanceMethod_objectInit w__code_objectInit_0xb1_1_none rfl (by rw [hml]; exact hl.1) rfl dX0_init_1 (Nat.le_of_ble_eq_true rfl) (Nat.le_of_ble_eq_true rfl) ?_
  refine W.eq (g2 := F0 m 4 ls []) rfl ?_
  refine lv_aload_n hx hb dX0_init_4 rfl (lv_at hl 0 rfl) ?_
  refine lv_bipush (v := 80) hx hb dX0_init_5 (by decide) ?_
  refine va_newa (atype := .int) (ty := .int) (N' := 80) (a0 := (80, .inl (fun _ => 0))) hx hb w__arrayClass_int rfl hK hP hD hS hA (z_newI 80) (by decide) (by decide) (by decide) (Nat.le_of_ble_eq_true rfl) (Nat.le_of_ble_eq_true rfl) dX0_init_7 ?_
  clear hK hP hD hS
  intro q_1 cA_2 H_3 hK hP hD hS
  replace hK : va_K (dC, dI) vwCl [(cA_2, .int)] s := hK
  replace hP : va_P (dC, dI) vwCl [(h0, .inr (0, [.null, .null, .null, .null, .int 0, .int 0])), (q_1, .inl (cA_2, 80, .inl (fun _ => 0)))] H_3 := hP
  replace hD : va_D A [(h0, .inr (0, [.null, .null, .null, .null, .int 0, .int 0])), (q_1, .inl (cA_2, 80, .inl (fun _ => 0)))] := hD
  refine va_putF (D := (dC, dI)) (ci := 0) (v := .ref q_1) (ty := .array .int) (C := RX0) (T := TX0) (N := 6) hx hb hts hiX0 tyX0 tyX0_ok nmX0 hown hK hP hD hS 0 rfl rfl 0 (by decide) w__fieldLink_RX0_9_ShellHeap_Book_sort_I_ (fun _ h9 => h9) rfl hin rfl (by decide +kernel) rfl rfl (Nat.le_of_ble_eq_true rfl) dX0_init_9 ?_
  clear hP hD hS
  intro H_4 locs hP hD hS
  have h9 := z_s_0_0 hP hD
  clear hP hD
  obtain ⟨hP, hD⟩ := h9
  refine lv_aload_n hx hb dX0_init_12 rfl (lv_at hl 0 rfl) ?_
  refine lv_bipush (v := 80) hx hb dX0_init_13 (by decide) ?_
  refine va_newa (atype := .int) (ty := .int) (N' := 80) (a0 := (80, .inl (fun _ => 0))) hx hb w__arrayClass_int rfl hK hP hD hS hA (z_newI 80) (by decide) (by decide) (by decide) (Nat.le_of_ble_eq_true rfl) (Nat.le_of_ble_eq_true rfl) dX0_init_15 ?_
  clear hK hP hD hS
  intro q_5 cA_6 H_7 hK hP hD hS
  replace hK : va_K (dC, dI) vwCl [(cA_2, .int), (cA_6, .int)] s := hK
  replace hP : va_P (dC, dI) vwCl [(h0, .inr (0, [.ref q_1, .null, .null, .null, .int 0, .int 0])), (q_1, .inl (cA_2, 80, .inl (fun _ => 0))), (q_5, .inl (cA_6, 80, .inl (fun _ => 0)))] H_7 := hP
  replace hD : va_D A [(h0, .inr (0, [.ref q_1, .null, .null, .null, .int 0, .int 0])), (q_1, .inl (cA_2, 80, .inl (fun _ => 0))), (q_5, .inl (cA_6, 80, .inl (fun _ => 0)))] := hD
  refine va_putF (D := (dC, dI)) (ci := 0) (v := .ref q_5) (ty := .array .int) (C := RX0) (T := TX0) (N := 6) hx hb hts hiX0 tyX0 tyX0_ok nmX0 hown hK hP hD hS 0 rfl rfl 1 (by decide) w__fieldLink_RX0_15_ShellHeap_Book_a_I_ (fun _ h9 => h9) rfl hin rfl (by decide +kernel) rfl rfl (Nat.le_of_ble_eq_true rfl) dX0_init_17 ?_
  clear hP hD hS
  intro H_8 locs hP hD hS
  have h9 := z_s_0_1 hP hD
  clear hP hD
  obtain ⟨hP, hD⟩ := h9
  refine lv_aload_n hx hb dX0_init_20 rfl (lv_at hl 0 rfl) ?_
  refine lv_bipush (v := 80) hx hb dX0_init_21 (by decide) ?_
  refine va_newa (atype := .int) (ty := .int) (N' := 80) (a0 := (80, .inl (fun _ => 0))) hx hb w__arrayClass_int rfl hK hP hD hS hA (z_newI 80) (by decide) (by decide) (by decide) (Nat.le_of_ble_eq_true rfl) (Nat.le_of_ble_eq_true rfl) dX0_init_23 ?_
  clear hK hP hD hS
  intro q_9 cA_10 H_11 hK hP hD hS
  replace hK : va_K (dC, dI) vwCl [(cA_2, .int), (cA_6, .int), (cA_10, .int)] s := hK
  replace hP : va_P (dC, dI) vwCl [(h0, .inr (0, [.ref q_1, .ref q_5, .null, .null, .int 0, .int 0])), (q_1, .inl (cA_2, 80, .inl (fun _ => 0))), (q_5, .inl (cA_6, 80, .inl (fun _ => 0))), (q_9, .inl (cA_10, 80, .inl (fun _ => 0)))] H_11 := hP
  replace hD : va_D A [(h0, .inr (0, [.ref q_1, .ref q_5, .null, .null, .int 0, .int 0])), (q_1, .inl (cA_2, 80, .inl (fun _ => 0))), (q_5, .inl (cA_6, 80, .inl (fun _ => 0))), (q_9, .inl (cA_10, 80, .inl (fun _ => 0)))] := hD
  refine va_putF (D := (dC, dI)) (ci := 0) (v := .ref q_9) (ty := .array .int) (C := RX0) (T := TX0) (N := 6) hx hb hts hiX0 tyX0 tyX0_ok nmX0 hown hK hP hD hS 0 rfl rfl 2 (by decide) w__fieldLink_RX0_18_ShellHeap_Book_b_I_ (fun _ h9 => h9) rfl hin rfl (by decide +kernel) rfl rfl (Nat.le_of_ble_eq_true rfl) dX0_init_25 ?_
  clear hP hD hS
  intro H_12 locs hP hD hS
  have h9 := z_s_0_2 hP hD
  clear hP hD
  obtain ⟨hP, hD⟩ := h9
  refine lv_aload_n hx hb dX0_init_28 rfl (lv_at hl 0 rfl) ?_
  refine lv_bipush (v := 80) hx hb dX0_init_29 (by decide) ?_
  refine va_newa (atype := .int) (ty := .int) (N' := 80) (a0 := (80, .inl (fun _ => 0))) hx hb w__arrayClass_int rfl hK hP hD hS hA (z_newI 80) (by decide) (by decide) (by decide) (Nat.le_of_ble_eq_true rfl) (Nat.le_of_ble_eq_true rfl) dX0_init_31 ?_
  clear hK hP hD hS
  intro q_13 cA_14 H_15 hK hP hD hS
  replace hK : va_K (dC, dI) vwCl [(cA_2, .int), (cA_6, .int), (cA_10, .int), (cA_14, .int)] s := hK
  replace hP : va_P (dC, dI) vwCl [(h0, .inr (0, [.ref q_1, .ref q_5, .ref q_9, .null, .int 0, .int 0])), (q_1, .inl (cA_2, 80, .inl (fun _ => 0))), (q_5, .inl (cA_6, 80, .inl (fun _ => 0))), (q_9, .inl (cA_10, 80, .inl (fun _ => 0))), (q_13, .inl (cA_14, 80, .inl (fun _ => 0)))] H_15 := hP
  replace hD : va_D A [(h0, .inr (0, [.ref q_1, .ref q_5, .ref q_9, .null, .int 0, .int 0])), (q_1, .inl (cA_2, 80, .inl (fun _ => 0))), (q_5, .inl (cA_6, 80, .inl (fun _ => 0))), (q_9, .inl (cA_10, 80, .inl (fun _ => 0))), (q_13, .inl (cA_14, 80, .inl (fun _ => 0)))] := hD
  refine va_putF (D := (dC, dI)) (ci := 0) (v := .ref q_13) (ty := .array .int) (C := RX0) (T := TX0) (N := 6) hx hb hts hiX0 tyX0 tyX0_ok nmX0 hown hK hP hD hS 0 rfl rfl 3 (by decide) w__fieldLink_RX0_21_ShellHeap_Book_c_I_ (fun _ h9 => h9) rfl hin rfl (by decide +kernel) rfl rfl (Nat.le_of_ble_eq_true rfl) dX0_init_33 ?_
  clear hP hD hS
  intro H_16 locs hP hD hS
  have h9 := z_s_0_3 hP hD
  clear hP hD
  obtain ⟨hP, hD⟩ := h9
  refine lv_aload_n hx hb dX0_init_36 rfl (lv_at hl 0 rfl) ?_
  refine lv_iconst (v := 0) hx hb dX0_init_37 (by decide) ?_
  refine va_put (D := (dC, dI)) (ci := 0) (v := .int 0) (ty := .int) (C := RX0) (T := TX0) (N := 6) hx hb hts hiX0 tyX0 tyX0_ok nmX0 hown hK hP hD hS 0 rfl rfl 4 (by decide) w__fieldLink_RX0_24_ShellHeap_Book_notes_I_ (fun _ h9 => h9) rfl (by decide +kernel) rfl rfl (Nat.le_of_ble_eq_true rfl) dX0_init_38 ?_
  clear hP hD hS
  intro H_17 locs hP hD hS
  have h9 := z_s_0_4 hP hD
  clear hP hD
  obtain ⟨hP, hD⟩ := h9
  refine lv_aload_n hx hb dX0_init_41 rfl (lv_at hl 0 rfl) ?_
  refine lv_iconst (v := 0) hx hb dX0_init_42 (by decide) ?_
  refine va_put (D := (dC, dI)) (ci := 0) (v := .int 0) (ty := .int) (C := RX0) (T := TX0) (N := 6) hx hb hts hiX0 tyX0 tyX0_ok nmX0 hown hK hP hD hS 0 rfl rfl 5 (by decide) w__fieldLink_RX0_28_ShellHeap_Book_layers_I_ (fun _ h9 => h9) rfl (by decide +kernel) rfl rfl (Nat.le_of_ble_eq_true rfl) dX0_init_43 ?_
  clear hP hD hS
  intro H_18 locs hP hD hS
  have h9 := z_s_0_5 hP hD
  clear hP hD
  obtain ⟨hP, hD⟩ := h9
  have hP9 := hP.sub (ws' := [(h0, .inr (0, [.ref q_1, .ref q_5, .ref q_9, .ref q_13, .int 0, .int 0])), (q_1, .inl (cA_2, 80, .inl (fun _ => 0))), (q_5, .inl (cA_6, 80, .inl (fun _ => 0))), (q_9, .inl (cA_10, 80, .inl (fun _ => 0))), (q_13, .inl (cA_14, 80, .inl (fun _ => 0)))]) [0, 1, 2, 3, 4] rfl
  have hD9 := hD.sub (ws' := [(h0, .inr (0, [.ref q_1, .ref q_5, .ref q_9, .ref q_13, .int 0, .int 0])), (q_1, .inl (cA_2, 80, .inl (fun _ => 0))), (q_5, .inl (cA_6, 80, .inl (fun _ => 0))), (q_9, .inl (cA_10, 80, .inl (fun _ => 0))), (q_13, .inl (cA_14, 80, .inl (fun _ => 0)))]) [0, 1, 2, 3, 4] (by decide) rfl
  have hK9 := hK.sub (tys' := [(cA_2, .int), (cA_6, .int), (cA_10, .int), (cA_14, .int)]) [0, 1, 2, 3] rfl
  refine W.widen (k := 4) (n := 320) (Nat.le_of_ble_eq_true rfl) (Nat.le_of_ble_eq_true rfl) ?_
  exact W.vret hx hb hr (fun t ht hW => ⟨⟨(), rfl, trivial, ⟨q_1, cA_2, q_5, cA_6, q_9, cA_10, q_13, cA_14, by rw [ht]; exact hP9, va_K.moved hW.alike hK9, hD9⟩⟩, hS.F ht⟩) hS.2.2 dX0_init_46
