def u_c_X9_make : List Cond := .code yX9_init cX9_init 1 none :: ([.methodLink RX9 3 objectInit, .instanceMethod objectInit, .code objectInit ⟨#[0xb1]⟩ 1 none, .arrayClass .int, .fieldLink RX9 11 "ShellHeap$Sizes" "layerOf" "[I", .fieldLink RX9 15 "ShellHeap$Sizes" "marks" "[I", .fieldLink RX9 18 "ShellHeap$Sizes" "tally" "[I", .fieldLink RX9 21 "ShellHeap$Sizes" "measured" "I"] ++ wsX90)
set_option maxHeartbeats 4000000 in
set_option maxRecDepth 100000 in
theorem c_X9_make (l : Launch) (dC : Nat → ClassId) (dI : Nat → Nat → Nat) (sz : Nat) (h0 : Nat) : Met l yX9_init u_c_X9_make ({ frames := 1, cells := 3, slots := 900, locals := 12 }) (va_Pc [.ref h0] (z_C (dC, dI) vwCl [(h0, .inr (9, [.null, .null, .null, .int 0]))] [] sz)) (va_Qv (fun (_ : Unit) => True) (fun (_ : Unit) (t : State) => ∃ (qa0 : Nat), ∃ (qc0 : ClassId), ∃ (qa1 : Nat), ∃ (qc1 : ClassId), ∃ (qa2 : Nat), ∃ (qc2 : ClassId), va_P (dC, dI) vwCl [(h0, .inr (9, [.ref qa0, .ref qa1, .ref qa2, .int 0])), (qa0, .inl (qc0, 200, .inl (fun _ => 0))), (qa1, .inl (qc1, 600, .inl (fun _ => 0))), (qa2, .inl (qc2, 100, .inl (fun _ => 0)))] t.heap ∧ va_K (dC, dI) vwCl [(qc0, .int), (qc1, .int), (qc2, .int)] t ∧ va_D (va_A [(h0, .inr (9, [.null, .null, .null, .int 0]))] sz) [(h0, .inr (9, [.ref qa0, .ref qa1, .ref qa2, .int 0])), (qa0, .inl (qc0, 200, .inl (fun _ => 0))), (qa1, .inl (qc1, 600, .inl (fun _ => 0))), (qa2, .inl (qc2, 100, .inl (fun _ => 0)))]) (va_A [(h0, .inr (9, [.null, .null, .null, .int 0]))] sz)) 3 900 (va_A [(h0, .inr (9, [.null, .null, .null, .int 0]))] sz) := by
  refine Met.ofW (cc := cX9_init) (maxL := 1) (ret := none) (by decide) rfl ?_
  intro p e s m args below meth c s₁ B hml hv
  obtain ⟨rfl, hsz, hP, hK, hD0⟩ := hv
  have hx := B.exec
  have hb := B.bytes
  have hr := B.returns
  have hts := atoms_spec (ws := u_c_X9_make) B.pre
  have hown : s.vm.findClass RX9 = some m.cls := findClass_of_methodNamed B.named
  have hlocks := B.notSynchronized
  have hin : meth.name = "<init>" := (name_of_methodNamed B.named B.method).1
  subst hsz
  have hD := hD0.self (sz := s.heap.size)
  generalize hAe : va_A [(h0, .inr (9, [.null, .null, .null, .int 0]))] s.heap.size = A at hD ⊢
  have hA : ∀ q : Nat, s.heap.size ≤ q → A q := fun q h => by rw [← hAe]; exact Or.inr h
  have hS : va_S A s.heap s.heap [] := va_S.rf
  have hP : va_P (dC, dI) vwCl [(h0, .inr (9, [.null, .null, .null, .int 0]))] s.heap := hP
  have w__methodLink_RX9_3_objectInit := hts (.methodLink RX9 3 objectInit) (by decide +kernel)
  have w__instanceMethod_objectInit := hts (.instanceMethod objectInit) (by decide +kernel)
  have w__code_objectInit_0xb1_1_none := hts (.code objectInit ⟨#[0xb1]⟩ 1 none) (by decide +kernel)
  have w__arrayClass_int := hts (.arrayClass .int) (by decide +kernel)
  have w__fieldLink_RX9_11_ShellHeap_Sizes_layerOf_I_ := hts (.fieldLink RX9 11 "ShellHeap$Sizes" "layerOf" "[I") (by decide +kernel)
  have hiX9 := show ∀ w ∈ u_ws RX9 TX9 4, w ∈ u_c_X9_make by decide +kernel
  have w__fieldLink_RX9_15_ShellHeap_Sizes_marks_I_ := hts (.fieldLink RX9 15 "ShellHeap$Sizes" "marks" "[I") (by decide +kernel)
  have w__fieldLink_RX9_18_ShellHeap_Sizes_tally_I_ := hts (.fieldLink RX9 18 "ShellHeap$Sizes" "tally" "[I") (by decide +kernel)
  have w__fieldLink_RX9_21_ShellHeap_Sizes_measured_I_ := hts (.fieldLink RX9 21 "ShellHeap$Sizes" "measured" "I") (by decide +kernel)
  have hl := lv_entry ([.ref h0]) (n := 1) (Nat.le_of_ble_eq_true rfl)
  rw [lg_entry_eq]
  generalize (lg_sl ([.ref h0]) ++ List.replicate (1 - (lg_sl ([.ref h0])).length) Slot.unset).toArray = ls at hl ⊢
  have hl : lv_has ls 1 [(0, .ref h0)] := hl
  refine lv_aload_n hx hb dX9_init_0 rfl (lv_at hl 0 rfl) ?_
  refine W.objInit hx hb hown w__methodLink_RX9_3_objectInit w__instanceMethod_objectInit w__code_objectInit_0xb1_1_none rfl (by rw [hml]; exact hl.1) rfl dX9_init_1 (Nat.le_of_ble_eq_true rfl) (Nat.le_of_ble_eq_true rfl) ?_
  refine W.eq (g2 := F0 m 4 ls []) rfl ?_
  refine lv_aload_n hx hb dX9_init_4 rfl (lv_at hl 0 rfl) ?_
  refine lv_sipush (v := 200) hx hb dX9_init_5 (by decide) ?_
  refine va_newa (atype := .int) (ty := .int) (N' := 200) (a0 := (200, .inl (fun _ => 0))) hx hb w__arrayClass_int rfl hK hP hD hS hA (z_newI 200) (by decide) (by decide) (by decide) (Nat.le_of_ble_eq_true rfl) (Nat.le_of_ble_eq_true rfl) dX9_init_8 ?_
  clear hK hP hD hS
  intro q_1 cA_2 H_3 hK hP hD hS
  replace hK : va_K (dC, dI) vwCl [(cA_2, .int)] s := hK
  replace hP : va_P (dC, dI) vwCl [(h0, .inr (9, [.null, .null, .null, .int 0])), (q_1, .inl (cA_2, 200, .inl (fun _ => 0)))] H_3 := hP
  replace hD : va_D A [(h0, .inr (9, [.null, .null, .null, .int 0])), (q_1, .inl (cA_2, 200, .inl (fun _ => 0)))] := hD
  refine va_putF (D := (dC, dI)) (ci := 9) (v := .ref q_1) (ty := .array .int) (C := RX9) (T := TX9) (N := 4) hx hb hts hiX9 tyX9 tyX9_ok nmX9 hown hK hP hD hS 0 rfl rfl 0 (by decide) w__fieldLink_RX9_11_ShellHeap_Sizes_layerOf_I_ (fun _ h9 => h9) rfl hin rfl (by decide +kernel) rfl rfl (Nat.le_of_ble_eq_true rfl) dX9_init_10 ?_
  clear hP hD hS
  intro H_4 locs hP hD hS
  have h9 := z_s_0_0 hP hD
  clear hP hD
  obtain ⟨hP, hD⟩ := h9
  refine lv_aload_n hx hb dX9_init_13 rfl (lv_at hl 0 rfl) ?_
  refine lv_sipush (v := 600) hx hb dX9_init_14 (by decide) ?_
  refine va_newa (atype := .int) (ty := .int) (N' := 600) (a0 := (600, .inl (fun _ => 0))) hx hb w__arrayClass_int rfl hK hP hD hS hA (z_newI 600) (by decide) (by decide) (by decide) (Nat.le_of_ble_eq_true rfl) (Nat.le_of_ble_eq_true rfl) dX9_init_17 ?_
  clear hK hP hD hS
  intro q_5 cA_6 H_7 hK hP hD hS
  replace hK : va_K (dC, dI) vwCl [(cA_2, .int), (cA_6, .int)] s := hK
  replace hP : va_P (dC, dI) vwCl [(h0, .inr (9, [.ref q_1, .null, .null, .int 0])), (q_1, .inl (cA_2, 200, .inl (fun _ => 0))), (q_5, .inl (cA_6, 600, .inl (fun _ => 0)))] H_7 := hP
  replace hD : va_D A [(h0, .inr (9, [.ref q_1, .null, .null, .int 0])), (q_1, .inl (cA_2, 200, .inl (fun _ => 0))), (q_5, .inl (cA_6, 600, .inl (fun _ => 0)))] := hD
  refine va_putF (D := (dC, dI)) (ci := 9) (v := .ref q_5) (ty := .array .int) (C := RX9) (T := TX9) (N := 4) hx hb hts hiX9 tyX9 tyX9_ok nmX9 hown hK hP hD hS 0 rfl rfl 1 (by decide) w__fieldLink_RX9_15_ShellHeap_Sizes_marks_I_ (fun _ h9 => h9) rfl hin rfl (by decide +kernel) rfl rfl (Nat.le_of_ble_eq_true rfl) dX9_init_19 ?_
  clear hP hD hS
  intro H_8 locs hP hD hS
  have h9 := z_s_0_1 hP hD
  clear hP hD
  obtain ⟨hP, hD⟩ := h9
  refine lv_aload_n hx hb dX9_init_22 rfl (lv_at hl 0 rfl) ?_
  refine lv_bipush (v := 100) hx hb dX9_init_23 (by decide) ?_
  refine va_newa (atype := .int) (ty := .int) (N' := 100) (a0 := (100, .inl (fun _ => 0))) hx hb w__arrayClass_int rfl hK hP hD hS hA (z_newI 100) (by decide) (by decide) (by decide) (Nat.le_of_ble_eq_true rfl) (Nat.le_of_ble_eq_true rfl) dX9_init_25 ?_
  clear hK hP hD hS
  intro q_9 cA_10 H_11 hK hP hD hS
  replace hK : va_K (dC, dI) vwCl [(cA_2, .int), (cA_6, .int), (cA_10, .int)] s := hK
  replace hP : va_P (dC, dI) vwCl [(h0, .inr (9, [.ref q_1, .ref q_5, .null, .int 0])), (q_1, .inl (cA_2, 200, .inl (fun _ => 0))), (q_5, .inl (cA_6, 600, .inl (fun _ => 0))), (q_9, .inl (cA_10, 100, .inl (fun _ => 0)))] H_11 := hP
  replace hD : va_D A [(h0, .inr (9, [.ref q_1, .ref q_5, .null, .int 0])), (q_1, .inl (cA_2, 200, .inl (fun _ => 0))), (q_5, .inl (cA_6, 600, .inl (fun _ => 0))), (q_9, .inl (cA_10, 100, .inl (fun _ => 0)))] := hD
  refine va_putF (D := (dC, dI)) (ci := 9) (v := .ref q_9) (ty := .array .int) (C := RX9) (T := TX9) (N := 4) hx hb hts hiX9 tyX9 tyX9_ok nmX9 hown hK hP hD hS 0 rfl rfl 2 (by decide) w__fieldLink_RX9_18_ShellHeap_Sizes_tally_I_ (fun _ h9 => h9) rfl hin rfl (by decide +kernel) rfl rfl (Nat.le_of_ble_eq_true rfl) dX9_init_27 ?_
  clear hP hD hS
  intro H_12 locs hP hD hS
  have h9 := z_s_0_2 hP hD
  clear hP hD
  obtain ⟨hP, hD⟩ := h9
  refine lv_aload_n hx hb dX9_init_30 rfl (lv_at hl 0 rfl) ?_
  refine lv_iconst (v := 0) hx hb dX9_init_31 (by decide) ?_
  refine va_put (D := (dC, dI)) (ci := 9) (v := .int 0) (ty := .int) (C := RX9) (T := TX9) (N := 4) hx hb hts hiX9 tyX9 tyX9_ok nmX9 hown hK hP hD hS 0 rfl rfl 3 (by decide) w__fieldLink_RX9_21_ShellHeap_Sizes_measured_I_ (fun _ h9 => h9) rfl (by decide +kernel) rfl rfl (Nat.le_of_ble_eq_true rfl) dX9_init_32 ?_
  clear hP hD hS
  intro H_13 locs hP hD hS
  have h9 := z_s_0_3 hP hD
  clear hP hD
  obtain ⟨hP, hD⟩ := h9
  have hP9 := hP.sub (ws' := [(h0, .inr (9, [.ref q_1, .ref q_5, .ref q_9, .int 0])), (q_1, .inl (cA_2, 200, .inl (fun _ => 0))), (q_5, .inl (cA_6, 600, .inl (fun _ => 0))), (q_9, .inl (cA_10, 100, .inl (fun _ => 0)))]) [0, 1, 2, 3] rfl
  have hD9 := hD.sub (ws' := [(h0, .inr (9, [.ref q_1, .ref q_5, .ref q_9, .int 0])), (q_1, .inl (cA_2, 200, .inl (fun _ => 0))), (q_5, .inl (cA_6, 600, .inl (fun _ => 0))), (q_9, .inl (cA_10, 100, .inl (fun _ => 0)))]) [0, 1, 2, 3] (by decide) rfl
  have hK9 := hK.sub (tys' := [(cA_2, .int), (cA_6, .int), (cA_10, .int)]) [0, 1, 2] rfl
  refine W.widen (k := 3) (n := 900) (Nat.le_of_ble_eq_true rfl) (Nat.le_of_ble_eq_true rfl) ?_
  exact W.vret hx hb hr (fun t ht hW => ⟨⟨(), rfl, trivial, ⟨q_1, cA_2, q_5, cA_6, q_9, cA_10, by rw [ht]; exact hP9, va_K.moved hW.alike hK9, hD9⟩⟩, hS.F ht⟩) hS.2.2 dX9_init_35
