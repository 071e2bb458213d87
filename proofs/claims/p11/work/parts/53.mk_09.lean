def u_c_X3_make : List Cond := .code yX3_init cX3_init 6 none :: ([.methodLink RX3 3 objectInit, .instanceMethod objectInit, .code objectInit ⟨#[0xb1]⟩ 1 none, .arrayClass .long, .fieldLink RX3 11 "ShellHeap$Judge" "values" "[J", .arrayClass .boolean, .fieldLink RX3 15 "ShellHeap$Judge" "isWorked" "[Z", .fieldLink RX3 21 "ShellHeap$Judge" "stack" "[J", .fieldLink RX3 24 "ShellHeap$Judge" "own" "I", .fieldLink RX3 28 "ShellHeap$Judge" "ahead" "I", .fieldLink RX3 31 "ShellHeap$Judge" "known" "LShellHeap$Known;", .fieldLink RX3 35 "ShellHeap$Judge" "ground" "LShellHeap$Ground;", .fieldLink RX3 39 "ShellHeap$Judge" "pantry" "LShellHeap$Pantry;", .fieldLink RX3 43 "ShellHeap$Judge" "readers" "LShellHeap$Readers;", .fieldLink RX3 47 "ShellHeap$Judge" "sizes" "LShellHeap$Sizes;"] ++ wsX30)
set_option maxHeartbeats 4000000 in
set_option maxRecDepth 100000 in
theorem c_X3_make (l : Launch) (dC : Nat → ClassId) (dI : Nat → Nat → Nat) (sz : Nat) (h0 : Nat) (h1 : Nat) (h2 : Nat) (h3 : Nat) (h4 : Nat) (h5 : Nat) : Met l yX3_init u_c_X3_make ({ frames := 1, cells := 3, slots := 136, locals := 12 }) (va_Pc [.ref h0, .ref h1, .ref h2, .ref h3, .ref h4, .ref h5] (z_C (dC, dI) vwCl [(h0, .inr (3, [.null, .null, .null, .null, .null, .null, .null, .null, .int 0, .int 0]))] [] sz)) (va_Qv (fun (_ : Unit) => True) (fun (_ : Unit) (t : State) => ∃ (qa5 : Nat), ∃ (qc5 : ClassId), ∃ (qa6 : Nat), ∃ (qc6 : ClassId), ∃ (qa7 : Nat), ∃ (qc7 : ClassId), va_P (dC, dI) vwCl [(h0, .inr (3, [.ref h1, .ref h2, .ref h3, .ref h4, .ref h5, .ref qa5, .ref qa6, .ref qa7, .int (-1), .int (-1)])), (qa5, .inl (qc5, 20, .inr (.inl (fun _ => 0)))), (qa6, .inl (qc6, 20, .inl (fun _ => 0))), (qa7, .inl (qc7, 96, .inr (.inl (fun _ => 0))))] t.heap ∧ va_K (dC, dI) vwCl [(qc5, .long), (qc6, .boolean), (qc7, .long)] t ∧ va_D (va_A [(h0, .inr (3, [.null, .null, .null, .null, .null, .null, .null, .null, .int 0, .int 0]))] sz) [(h0, .inr (3, [.ref h1, .ref h2, .ref h3, .ref h4, .ref h5, .ref qa5, .ref qa6, .ref qa7, .int (-1), .int (-1)])), (qa5, .inl (qc5, 20, .inr (.inl (fun _ => 0)))), (qa6, .inl (qc6, 20, .inl (fun _ => 0))), (qa7, .inl (qc7, 96, .inr (.inl (fun _ => 0))))]) (va_A [(h0, .inr (3, [.null, .null, .null, .null, .null, .null, .null, .null, .int 0, .int 0]))] sz)) 3 136 (va_A [(h0, .inr (3, [.null, .null, .null, .null, .null, .null, .null, .null, .int 0, .int 0]))] sz) := by
  refine Met.ofW (cc := cX3_init) (maxL := 6) (ret := none) (by decide) rfl ?_
  intro p e s m args below meth c s₁ B hml hv
  obtain ⟨rfl, hsz, hP, hK, hD0⟩ := hv
  have hx := B.exec
  have hb := B.bytes
  have hr := B.returns
  have hts := atoms_spec (ws := u_c_X3_make) B.pre
  have hown : s.vm.findClass RX3 = some m.cls := findClass_of_methodNamed B.named
  have hlocks := B.notSynchronized
  have hin : meth.name = "<init>" := (name_of_methodNamed B.named B.method).1
  subst hsz
  have hD := hD0.self (sz := s.heap.size)
  generalize hAe : va_A [(h0, .inr (3, [.null, .null, .null, .null, .null, .null, .null, .null, .int 0, .int 0]))] s.heap.size = A at hD ⊢
  have hA : ∀ q : Nat, s.heap.size ≤ q → A q := fun q h => by rw [← hAe]; exact Or.inr h
  have hS : va_S A s.heap s.heap [] := va_S.rf
  have hP : va_P (dC, dI) vwCl [(h0, .inr (3, [.null, .null, .null, .null, .null, .null, .null, .null, .int 0, .int 0]))] s.heap := hP
  have w__methodLink_RX3_3_objectInit := hts (.methodLink RX3 3 objectInit) (by decide +kernel)
  have w__instanceMethod_objectInit := hts (.instanceMethod objectInit) (by decide +kernel)
  have w__code_objectInit_0xb1_1_none := hts (.code objectInit ⟨#[0xb1]⟩ 1 none) (by decide +kernel)
  have w__arrayClass_long := hts (.arrayClass .long) (by decide +kernel)
  have w__fieldLink_RX3_11_ShellHeap_Judge_values_J_ := hts (.fieldLink RX3 11 "ShellHeap$Judge" "values" "[J") (by decide +kernel)
  have hiX3 := show ∀ w ∈ u_ws RX3 TX3 10, w ∈ u_c_X3_make by decide +kernel
  have w__arrayClass_boolean := hts (.arrayClass .boolean) (by decide +kernel)
  have w__fieldLink_RX3_15_ShellHeap_Judge_isWorked_Z_ := hts (.fieldLink RX3 15 "ShellHeap$Judge" "isWorked" "[Z") (by decide +kernel)
  have w__fieldLink_RX3_21_ShellHeap_Judge_stack_J_ := hts (.fieldLink RX3 21 "ShellHeap$Judge" "stack" "[J") (by decide +kernel)
  have w__fieldLink_RX3_24_ShellHeap_Judge_own_I_ := hts (.fieldLink RX3 24 "ShellHeap$Judge" "own" "I") (by decide +kernel)
  have w__fieldLink_RX3_28_ShellHeap_Judge_ahead_I_ := hts (.fieldLink RX3 28 "ShellHeap$Judge" "ahead" "I") (by decide +kernel)
  have w__fieldLink_RX3_31_ShellHeap_Judge_known_LShellHeap_Known_ := hts (.fieldLink RX3 31 "ShellHeap$Judge" "known" "LShellHeap$Known;") (by decide +kernel)
  have w__fieldLink_RX3_35_ShellHeap_Judge_ground_LShellHeap_Ground_ := hts (.fieldLink RX3 35 "ShellHeap$Judge" "ground" "LShellHeap$Ground;") (by decide +kernel)
  have w__fieldLink_RX3_39_ShellHeap_Judge_pantry_LShellHeap_Pantry_ := hts (.fieldLink RX3 39 "ShellHeap$Judge" "pantry" "LShellHeap$Pantry;") (by decide +kernel)
  have w__fieldLink_RX3_43_ShellHeap_Judge_readers_LShellHeap_Readers_ := hts (.fieldLink RX3 43 "ShellHeap$Judge" "readers" "LShellHeap$Readers;") (by decide +kernel)
  have w__fieldLink_RX3_47_ShellHeap_Judge_sizes_LShellHeap_Sizes_ := hts (.fieldLink RX3 47 "ShellHeap$Judge" "sizes" "LShellHeap$Sizes;") (by decide +kernel)
  have hl := lv_entry ([.ref h0, .ref h1, .ref h2, .ref h3, .ref h4, .ref h5]) (n := 6) (Nat.le_of_ble_eq_true rfl)
  rw [lg_entry_eq]
  generalize (lg_sl ([.ref h0, .ref h1, .ref h2, .ref h3, .ref h4, .ref h5]) ++ List.replicate (6 - (lg_sl ([.ref h0, .ref h1, .ref h2, .ref h3, .ref h4, .ref h5])).length) Slot.unset).toArray = ls at hl ⊢
  have hl : lv_has ls 6 [(0, .ref h0), (1, .ref h1), (2, .ref h2), (3, .ref h3), (4, .ref h4), (5, .ref h5)] := hl
  refine lv_aload_n hx hb dX3_init_0 rfl (lv_at hl 0 rfl) ?_
  refine W.objInit hx hb hown w__methodLink_RX3_3_objectInit w__instanceMethod_objectInit w__code_objectInit_0xb1_1_none rfl (by rw [hml]; exact hl.1) rfl dX3_init_1 (Nat.le_of_ble_eq_true rfl) (Nat.le_of_ble_eq_true rfl) ?_
  refine W.eq (g2 := F0 m 4 ls []) rfl ?_
  refine lv_aload_n hx hb dX3_init_4 rfl (lv_at hl 0 rfl) ?_
  refine lv_bipush (v := 20) hx hb dX3_init_5 (by decide) ?_
  refine va_newa (atype := .long) (ty := .long) (N' := 20) (a0 := (20, .inr (.inl (fun _ => 0)))) hx hb w__arrayClass_long rfl hK hP hD hS hA (z_newJ 20) (by decide) (by decide) (by decide) (Nat.le_of_ble_eq_true rfl) (Nat.le_of_ble_eq_true rfl) dX3_init_7 ?_
  clear hK hP hD hS
  intro q_1 cA_2 H_3 hK hP hD hS
  replace hK : va_K (dC, dI) vwCl [(cA_2, .long)] s := hK
  replace hP : va_P (dC, dI) vwCl [(h0, .inr (3, [.null, .null, .null, .null, .null, .null, .null, .null, .int 0, .int 0])), (q_1, .inl (cA_2, 20, .inr (.inl (fun _ => 0))))] H_3 := hP
  replace hD : va_D A [(h0, .inr (3, [.null, .null, .null, .null, .null, .null, .null, .null, .int 0, .int 0])), (q_1, .inl (cA_2, 20, .inr (.inl (fun _ => 0))))] := hD
  refine va_putF (D := (dC, dI)) (ci := 3) (v := .ref q_1) (ty := .array .long) (C := RX3) (T := TX3) (N := 10) hx hb hts hiX3 tyX3 tyX3_ok nmX3 hown hK hP hD hS 0 rfl rfl 5 (by decide) w__fieldLink_RX3_11_ShellHeap_Judge_values_J_ (fun _ h9 => h9) rfl hin rfl (by decide +kernel) rfl rfl (Nat.le_of_ble_eq_true rfl) dX3_init_9 ?_
  clear hP hD hS
  intro H_4 locs hP hD hS
  have h9 := z_s_0_5 hP hD
  clear hP hD
  obtain ⟨hP, hD⟩ := h9
  refine lv_aload_n hx hb dX3_init_12 rfl (lv_at hl 0 rfl) ?_
  refine lv_bipush (v := 20) hx hb dX3_init_13 (by decide) ?_
  refine va_newa (atype := .boolean) (ty := .boolean) (N' := 20) (a0 := (20, .inl (fun _ => 0))) hx hb w__arrayClass_boolean rfl hK hP hD hS hA (z_newZ 20) (by decide) (by decide) (by decide) (Nat.le_of_ble_eq_true rfl) (Nat.le_of_ble_eq_true rfl) dX3_init_15 ?_
  clear hK hP hD hS
  intro q_5 cA_6 H_7 hK hP hD hS
  replace hK : va_K (dC, dI) vwCl [(cA_2, .long), (cA_6, .boolean)] s := hK
  replace hP : va_P (dC, dI) vwCl [(h0, .inr (3, [.null, .null, .null, .null, .null, .ref q_1, .null, .null, .int 0, .int 0])), (q_1, .inl (cA_2, 20, .inr (.inl (fun _ => 0)))), (q_5, .inl (cA_6, 20, .inl (fun _ => 0)))] H_7 := hP
  replace hD : va_D A [(h0, .inr (3, [.null, .null, .null, .null, .null, .ref q_1, .null, .null, .int 0, .int 0])), (q_1, .inl (cA_2, 20, .inr (.inl (fun _ => 0)))), (q_5, .inl (cA_6, 20, .inl (fun _ => 0)))] := hD
  refine va_putF (D := (dC, dI)) (ci := 3) (v := .ref q_5) (ty := .array .boolean) (C := RX3) (T := TX3) (N := 10) hx hb hts hiX3 tyX3 tyX3_ok nmX3 hown hK hP hD hS 0 rfl rfl 6 (by decide) w__fieldLink_RX3_15_ShellHeap_Judge_isWorked_Z_ (fun _ h9 => h9) rfl hin rfl (by decide +kernel) rfl rfl (Nat.le_of_ble_eq_true rfl) dX3_init_17 ?_
  clear hP hD hS
  intro H_8 locs hP hD hS
  have h9 := z_s_0_6 hP hD
  clear hP hD
  obtain ⟨hP, hD⟩ := h9
  refine lv_aload_n hx hb dX3_init_20 rfl (lv_at hl 0 rfl) ?_
  refine lv_bipush (v := 96) hx hb dX3_init_21 (by decide) ?_
  refine va_newa (atype := .long) (ty := .long) (N' := 96) (a0 := (96, .inr (.inl (fun _ => 0)))) hx hb w__arrayClass_long rfl hK hP hD hS hA (z_newJ 96) (by decide) (by decide) (by decide) (Nat.le_of_ble_eq_true rfl) (Nat.le_of_ble_eq_true rfl) dX3_init_23 ?_
  clear hK hP hD hS
  intro q_9 cA_10 H_11 hK hP hD hS
  replace hK : va_K (dC, dI) vwCl [(cA_2, .long), (cA_6, .boolean), (cA_10, .long)] s := hK
  replace hP : va_P (dC, dI) vwCl [(h0, .inr (3, [.null, .null, .null, .null, .null, .ref q_1, .ref q_5, .null, .int 0, .int 0])), (q_1, .inl (cA_2, 20, .inr (.inl (fun _ => 0)))), (q_5, .inl (cA_6, 20, .inl (fun _ => 0))), (q_9, .inl (cA_10, 96, .inr (.inl (fun _ => 0))))] H_11 := hP
  replace hD : va_D A [(h0, .inr (3, [.null, .null, .null, .null, .null, .ref q_1, .ref q_5, .null, .int 0, .int 0])), (q_1, .inl (cA_2, 20, .inr (.inl (fun _ => 0)))), (q_5, .inl (cA_6, 20, .inl (fun _ => 0))), (q_9, .inl (cA_10, 96, .inr (.inl (fun _ => 0))))] := hD
  refine va_putF (D := (dC, dI)) (ci := 3) (v := .ref q_9) (ty := .array .long) (C := RX3) (T := TX3) (N := 10) hx hb hts hiX3 tyX3 tyX3_ok nmX3 hown hK hP hD hS 0 rfl rfl 7 (by decide) w__fieldLink_RX3_21_ShellHeap_Judge_stack_J_ (fun _ h9 => h9) rfl hin rfl (by decide +kernel) rfl rfl (Nat.le_of_ble_eq_true rfl) dX3_init_25 ?_
  clear hP hD hS
  intro H_12 locs hP hD hS
  have h9 := z_s_0_7 hP hD
  clear hP hD
  obtain ⟨hP, hD⟩ := h9
  refine lv_aload_n hx hb dX3_init_28 rfl (lv_at hl 0 rfl) ?_
  refine lv_iconst (v := (-1)) hx hb dX3_init_29 (by decide) ?_
  refine va_put (D := (dC, dI)) (ci := 3) (v := .int (-1)) (ty := .int) (C := RX3) (T := TX3) (N := 10) hx hb hts hiX3 tyX3 tyX3_ok nmX3 hown hK hP hD hS 0 rfl rfl 8 (by decide) w__fieldLink_RX3_24_ShellHeap_Judge_own_I_ (fun _ h9 => h9) rfl (by decide +kernel) rfl rfl (Nat.le_of_ble_eq_true rfl) dX3_init_30 ?_
  clear hP hD hS
  intro H_13 locs hP hD hS
  have h9 := z_s_0_8 hP hD
  clear hP hD
  obtain ⟨hP, hD⟩ := h9
  refine lv_aload_n hx hb dX3_init_33 rfl (lv_at hl 0 rfl) ?_
  refine lv_iconst (v := (-1)) hx hb dX3_init_34 (by decide) ?_
  refine va_put (D := (dC, dI)) (ci := 3) (v := .int (-1)) (ty := .int) (C := RX3) (T := TX3) (N := 10) hx hb hts hiX3 tyX3 tyX3_ok nmX3 hown hK hP hD hS 0 rfl rfl 9 (by decide) w__fieldLink_RX3_28_ShellHeap_Judge_ahead_I_ (fun _ h9 => h9) rfl (by decide +kernel) rfl rfl (Nat.le_of_ble_eq_true rfl) dX3_init_35 ?_
  clear hP hD hS
  intro H_14 locs hP hD hS
  have h9 := z_s_0_9 hP hD
  clear hP hD
  obtain ⟨hP, hD⟩ := h9
  refine lv_aload_n hx hb dX3_init_38 rfl (lv_at hl 0 rfl) ?_
  refine lv_aload_n hx hb dX3_init_39 rfl (lv_at hl 1 rfl) ?_
  refine va_putF (D := (dC, dI)) (ci := 3) (v := .ref h1) (ty := .object "ShellHeap$Known") (C := RX3) (T := TX3) (N := 10) hx hb hts hiX3 tyX3 tyX3_ok nmX3 hown hK hP hD hS 0 rfl rfl 0 (by decide) w__fieldLink_RX3_31_ShellHeap_Judge_known_LShellHeap_Known_ (fun _ h9 => h9) rfl hin rfl (by decide +kernel) rfl rfl (Nat.le_of_ble_eq_true rfl) dX3_init_40 ?_
  clear hP hD hS
  intro H_15 locs hP hD hS
  have h9 := z_s_0_0 hP hD
  clear hP hD
  obtain ⟨hP, hD⟩ := h9
  refine lv_aload_n hx hb dX3_init_43 rfl (lv_at hl 0 rfl) ?_
  refine lv_aload_n hx hb dX3_init_44 rfl (lv_at hl 2 rfl) ?_
  refine va_putF (D := (dC, dI)) (ci := 3) (v := .ref h2) (ty := .object "ShellHeap$Ground") (C := RX3) (T := TX3) (N := 10) hx hb hts hiX3 tyX3 tyX3_ok nmX3 hown hK hP hD hS 0 rfl rfl 1 (by decide) w__fieldLink_RX3_35_ShellHeap_Judge_ground_LShellHeap_Ground_ (fun _ h9 => h9) rfl hin rfl (by decide +kernel) rfl rfl (Nat.le_of_ble_eq_true rfl) dX3_init_45 ?_
  clear hP hD hS
  intro H_16 locs hP hD hS
  have h9 := z_s_0_1 hP hD
  clear hP hD
  obtain ⟨hP, hD⟩ := h9
  refine lv_aload_n hx hb dX3_init_48 rfl (lv_at hl 0 rfl) ?_
  refine lv_aload_n hx hb dX3_init_49 rfl (lv_at hl 3 rfl) ?_
  refine va_putF (D := (dC, dI)) (ci := 3) (v := .ref h3) (ty := .object "ShellHeap$Pantry") (C := RX3) (T := TX3) (N := 10) hx hb hts hiX3 tyX3 tyX3_ok nmX3 hown hK hP hD hS 0 rfl rfl 2 (by decide) w__fieldLink_RX3_39_ShellHeap_Judge_pantry_LShellHeap_Pantry_ (fun _ h9 => h9) rfl hin rfl (by decide +kernel) rfl rfl (Nat.le_of_ble_eq_true rfl) dX3_init_50 ?_
  clear hP hD hS
  intro H_17 locs hP hD hS
  have h9 := z_s_0_2 hP hD
  clear hP hD
  obtain ⟨hP, hD⟩ := h9
  refine lv_aload_n hx hb dX3_init_53 rfl (lv_at hl 0 rfl) ?_
  refine lv_aload hx hb dX3_init_54 (lv_at hl 4 rfl) ?_
  refine va_putF (D := (dC, dI)) (ci := 3) (v := .ref h4) (ty := .object "ShellHeap$Readers") (C := RX3) (T := TX3) (N := 10) hx hb hts hiX3 tyX3 tyX3_ok nmX3 hown hK hP hD hS 0 rfl rfl 3 (by decide) w__fieldLink_RX3_43_ShellHeap_Judge_readers_LShellHeap_Readers_ (fun _ h9 => h9) rfl hin rfl (by decide +kernel) rfl rfl (Nat.le_of_ble_eq_true rfl) dX3_init_56 ?_
  clear hP hD hS
  intro H_18 locs hP hD hS
  have h9 := z_s_0_3 hP hD
  clear hP hD
  obtain ⟨hP, hD⟩ := h9
  refine lv_aload_n hx hb dX3_init_59 rfl (lv_at hl 0 rfl) ?_
  refine lv_aload hx hb dX3_init_60 (lv_at hl 5 rfl) ?_
  refine va_putF (D := (dC, dI)) (ci := 3) (v := .ref h5) (ty := .object "ShellHeap$Sizes") (C := RX3) (T := TX3) (N := 10) hx hb hts hiX3 tyX3 tyX3_ok nmX3 hown hK hP hD hS 0 rfl rfl 4 (by decide) w__fieldLink_RX3_47_ShellHeap_Judge_sizes_LShellHeap_Sizes_ (fun _ h9 => h9) rfl hin rfl (by decide +kernel) rfl rfl (Nat.le_of_ble_eq_true rfl) dX3_init_62 ?_
  clear hP hD hS
  intro H_19 locs hP hD hS
  have h9 := z_s_0_4 hP hD
  clear hP hD
  obtain ⟨hP, hD⟩ := h9
  have hP9 := hP.sub (ws' := [(h0, .inr (3, [.ref h1, .ref h2, .ref h3, .ref h4, .ref h5, .ref q_1, .ref q_5, .ref q_9, .int (-1), .int (-1)])), (q_1, .inl (cA_2, 20, .inr (.inl (fun _ => 0)))), (q_5, .inl (cA_6, 20, .inl (fun _ => 0))), (q_9, .inl (cA_10, 96, .inr (.inl (fun _ => 0))))]) [0, 1, 2, 3] rfl
  have hD9 := hD.sub (ws' := [(h0, .inr (3, [.ref h1, .ref h2, .ref h3, .ref h4, .ref h5, .ref q_1, .ref q_5, .ref q_9, .int (-1), .int (-1)])), (q_1, .inl (cA_2, 20, .inr (.inl (fun _ => 0)))), (q_5, .inl (cA_6, 20, .inl (fun _ => 0))), (q_9, .inl (cA_10, 96, .inr (.inl (fun _ => 0))))]) [0, 1, 2, 3] (by decide) rfl
  have hK9 := hK.sub (tys' := [(cA_2, .long), (cA_6, .boolean), (cA_10, .long)]) [0, 1, 2] rfl
  refine W.widen (k := 3) (n := 136) (Nat.le_of_ble_eq_true rfl) (Nat.le_of_ble_eq_true rfl) ?_
  exact W.vret hx hb hr (fun t ht hW => ⟨⟨(), rfl, trivial, ⟨q_1, cA_2, q_5, cA_6, q_9, cA_10, by rw [ht]; exact hP9, va_K.moved hW.alike hK9, hD9⟩⟩, hS.F ht⟩) hS.2.2 dX3_init_65
