def u_c_X8_make : List Cond := .code yX8_init cX8_init 2 none :: ([.methodLink RX8 3 objectInit, .instanceMethod objectInit, .code objectInit ⟨#[0xb1]⟩ 1 none, .arrayClass .int, .fieldLink RX8 11 "ShellHeap$RulesReader" "titleStarts" "[I", .fieldLink RX8 17 "ShellHeap$RulesReader" "titleLengths" "[I", .fieldLink RX8 20 "ShellHeap$RulesReader" "waiting" "[I", .fieldLink RX8 23 "ShellHeap$RulesReader" "waits" "I", .fieldLink RX8 27 "ShellHeap$RulesReader" "open" "I", .fieldLink RX8 30 "ShellHeap$RulesReader" "wantsPart" "Z", .classLink RX8 9 RX7, .instantiable RX7 6, .initialized RX7, .code yX7_init cX7_init 1 none, .methodLink RX7 1 objectInit, .fieldLink RX7 9 "ShellHeap$Rules" "steps" "[I", .fieldLink RX7 13 "ShellHeap$Rules" "worths" "[I", .fieldLink RX7 16 "ShellHeap$Rules" "begins" "[I", .fieldLink RX7 19 "ShellHeap$Rules" "length" "I", .fieldLink RX7 23 "ShellHeap$Rules" "causes" "I", .fieldLink RX7 26 "ShellHeap$Rules" "knots" "I", .instanceMethod yX7_init, .fieldLink RX8 35 "ShellHeap$RulesReader" "draft" "LShellHeap$Rules;", .fieldLink RX8 39 "ShellHeap$RulesReader" "standing" "LShellHeap$Rules;", .fieldLink RX8 42 "ShellHeap$RulesReader" "tape" "LShellHeap$Tape;"] ++ wsX80 ++ wsX70)
set_option maxRecDepth 20000 in
theorem gw_c_X8_make_c_X7_make_34 : GoodIn u_c_X8_make u_c_X7_make := goodIn_r _ [14, 15, 2, 3, 4, 16, 17, 18, 19, 20, 21, 35, 36, 37, 38, 39, 40] (by decide +kernel) (by decide +kernel)
set_option maxHeartbeats 4000000 in
set_option maxRecDepth 100000 in
theorem c_X8_make (l : Launch) (dC : Nat → ClassId) (dI : Nat → Nat → Nat) (sz : Nat) (h0 : Nat) (h1 : Nat) : Met l yX8_init u_c_X8_make ({ frames := 2, cells := 11, slots := 526, locals := 32 }) (va_Pc [.ref h0, .ref h1] (z_CN (dC, dI) vwCl [(h0, .inr (8, [.null, .null, .null, .null, .int 0, .int 0, .int 0, .null, .null]))] [] sz [(RX8, 34, yX7_init)])) (va_Qv (fun (_ : Unit) => True) (fun (_ : Unit) (t : State) => ∃ (qa1 : Nat), ∃ (qc1 : ClassId), ∃ (qa2 : Nat), ∃ (qc2 : ClassId), ∃ (qa3 : Nat), ∃ (qc3 : ClassId), ∃ (qa7 : Nat), ∃ (qa8 : Nat), ∃ (da0 : Nat), ∃ (dc0 : ClassId), ∃ (da1 : Nat), ∃ (dc1 : ClassId), ∃ (da2 : Nat), ∃ (dc2 : ClassId), ∃ (ea0 : Nat), ∃ (ec0 : ClassId), ∃ (ea1 : Nat), ∃ (ec1 : ClassId), ∃ (ea2 : Nat), ∃ (ec2 : ClassId), va_P (dC, dI) vwCl [(h0, .inr (8, [.ref h1, .ref qa1, .ref qa2, .ref qa3, .int 0, .int 0, .int 1, .ref qa7, .ref qa8])), (qa1, .inl (qc1, 6, .inl (fun _ => 0))), (qa2, .inl (qc2, 6, .inl (fun _ => 0))), (qa3, .inl (qc3, 104, .inl (fun _ => 0))), (qa7, .inr (7, [.ref da0, .ref da1, .ref da2, .int 0, .int 0, .int 0])), (da0, .inl (dc0, 96, .inl (fun _ => 0))), (da1, .inl (dc1, 96, .inl (fun _ => 0))), (da2, .inl (dc2, 7, .inl (fun _ => 0))), (qa8, .inr (7, [.ref ea0, .ref ea1, .ref ea2, .int 0, .int 0, .int 0])), (ea0, .inl (ec0, 96, .inl (fun _ => 0))), (ea1, .inl (ec1, 96, .inl (fun _ => 0))), (ea2, .inl (ec2, 7, .inl (fun _ => 0)))] t.heap ∧ va_K (dC, dI) vwCl [(qc1, .int), (qc2, .int), (qc3, .int), (dc0, .int), (dc1, .int), (dc2, .int), (ec0, .int), (ec1, .int), (ec2, .int)] t ∧ va_D (va_A [(h0, .inr (8, [.null, .null, .null, .null, .int 0, .int 0, .int 0, .null, .null]))] sz) [(h0, .inr (8, [.ref h1, .ref qa1, .ref qa2, .ref qa3, .int 0, .int 0, .int 1, .ref qa7, .ref qa8])), (qa1, .inl (qc1, 6, .inl (fun _ => 0))), (qa2, .inl (qc2, 6, .inl (fun _ => 0))), (qa3, .inl (qc3, 104, .inl (fun _ => 0))), (qa7, .inr (7, [.ref da0, .ref da1, .ref da2, .int 0, .int 0, .int 0])), (da0, .inl (dc0, 96, .inl (fun _ => 0))), (da1, .inl (dc1, 96, .inl (fun _ => 0))), (da2, .inl (dc2, 7, .inl (fun _ => 0))), (qa8, .inr (7, [.ref ea0, .ref ea1, .ref ea2, .int 0, .int 0, .int 0])), (ea0, .inl (ec0, 96, .inl (fun _ => 0))), (ea1, .inl (ec1, 96, .inl (fun _ => 0))), (ea2, .inl (ec2, 7, .inl (fun _ => 0)))]) (va_A [(h0, .inr (8, [.null, .null, .null, .null, .int 0, .int 0, .int 0, .null, .null]))] sz)) 11 526 (va_A [(h0, .inr (8, [.null, .null, .null, .null, .int 0, .int 0, .int 0, .null, .null]))] sz) := by
  refine Met.ofW (cc := cX8_init) (maxL := 2) (ret := none) (by decide) rfl ?_
  intro p e s m args below meth c s₁ B hml hv
  obtain ⟨rfl, ⟨hsz, hP, hK, hD0⟩, hNW⟩ := hv
  have hx := B.exec
  have hb := B.bytes
  have hr := B.returns
  have hts := atoms_spec (ws := u_c_X8_make) B.pre
  have hown : s.vm.findClass RX8 = some m.cls := findClass_of_methodNamed B.named
  have hlocks := B.notSynchronized
  have hin : meth.name = "<init>" := (name_of_methodNamed B.named B.method).1
  subst hsz
  have hD := hD0.self (sz := s.heap.size)
  generalize hAe : va_A [(h0, .inr (8, [.null, .null, .null, .null, .int 0, .int 0, .int 0, .null, .null]))] s.heap.size = A at hD ⊢
  have hA : ∀ q : Nat, s.heap.size ≤ q → A q := fun q h => by rw [← hAe]; exact Or.inr h
  have hS : va_S A s.heap s.heap [] := va_S.rf
  have hP : va_P (dC, dI) vwCl [(h0, .inr (8, [.null, .null, .null, .null, .int 0, .int 0, .int 0, .null, .null]))] s.heap := hP
  have w__methodLink_RX8_3_objectInit := hts (.methodLink RX8 3 objectInit) (by decide +kernel)
  have w__instanceMethod_objectInit := hts (.instanceMethod objectInit) (by decide +kernel)
  have w__code_objectInit_0xb1_1_none := hts (.code objectInit ⟨#[0xb1]⟩ 1 none) (by decide +kernel)
  have w__arrayClass_int := hts (.arrayClass .int) (by decide +kernel)
  have w__fieldLink_RX8_11_ShellHeap_RulesReader_titleStarts_I_ := hts (.fieldLink RX8 11 "ShellHeap$RulesReader" "titleStarts" "[I") (by decide +kernel)
  have hiX8 := show ∀ w ∈ u_ws RX8 TX8 9, w ∈ u_c_X8_make by decide +kernel
  have w__fieldLink_RX8_17_ShellHeap_RulesReader_titleLengths_I_ := hts (.fieldLink RX8 17 "ShellHeap$RulesReader" "titleLengths" "[I") (by decide +kernel)
  have w__fieldLink_RX8_20_ShellHeap_RulesReader_waiting_I_ := hts (.fieldLink RX8 20 "ShellHeap$RulesReader" "waiting" "[I") (by decide +kernel)
  have w__fieldLink_RX8_23_ShellHeap_RulesReader_waits_I_ := hts (.fieldLink RX8 23 "ShellHeap$RulesReader" "waits" "I") (by decide +kernel)
  have w__fieldLink_RX8_27_ShellHeap_RulesReader_open_I_ := hts (.fieldLink RX8 27 "ShellHeap$RulesReader" "open" "I") (by decide +kernel)
  have w__fieldLink_RX8_30_ShellHeap_RulesReader_wantsPart_Z_ := hts (.fieldLink RX8 30 "ShellHeap$RulesReader" "wantsPart" "Z") (by decide +kernel)
  have w__classLink_RX8_9_RX7 := hts (.classLink RX8 9 RX7) (by decide +kernel)
  have w__instantiable_RX7_6 := hts (.instantiable RX7 6) (by decide +kernel)
  have w__initialized_RX7 := hts (.initialized RX7) (by decide +kernel)
  have hiX7 := show ∀ w ∈ u_ws RX7 TX7 6, w ∈ u_c_X8_make by decide +kernel
  have w__instanceMethod_yX7_init := hts (.instanceMethod yX7_init) (by decide +kernel)
  have w__fieldLink_RX8_35_ShellHeap_RulesReader_draft_LShellHeap_Rules_ := hts (.fieldLink RX8 35 "ShellHeap$RulesReader" "draft" "LShellHeap$Rules;") (by decide +kernel)
  have w__fieldLink_RX8_39_ShellHeap_RulesReader_standing_LShellHeap_Rules_ := hts (.fieldLink RX8 39 "ShellHeap$RulesReader" "standing" "LShellHeap$Rules;") (by decide +kernel)
  have w__fieldLink_RX8_42_ShellHeap_RulesReader_tape_LShellHeap_Tape_ := hts (.fieldLink RX8 42 "ShellHeap$RulesReader" "tape" "LShellHeap$Tape;") (by decide +kernel)
  have hl := lv_entry ([.ref h0, .ref h1]) (n := 2) (Nat.le_of_ble_eq_true rfl)
  rw [lg_entry_eq]
  generalize (lg_sl ([.ref h0, .ref h1]) ++ List.replicate (2 - (lg_sl ([.ref h0, .ref h1])).length) Slot.unset).toArray = ls at hl ⊢
  have hl : lv_has ls 2 [(0, .ref h0), (1, .ref h1)] := hl
  refine lv_aload_n hx hb dX8_init_0 rfl (lv_at hl 0 rfl) ?_
  refine W.objInit hx hb hown w__methodLink_RX8_3_objectInit w__instanceMethod_objectInit w__code_objectInit_0xb1_1_none rfl (by rw [hml]; exact hl.1) rfl dX8_init_1 (Nat.le_of_ble_eq_true rfl) (Nat.le_of_ble_eq_true rfl) ?_
  refine W.eq (g2 := F0 m 4 ls []) rfl ?_
  refine lv_aload_n hx hb dX8_init_4 rfl (lv_at hl 0 rfl) ?_
  refine lv_bipush (v := 6) hx hb dX8_init_5 (by decide) ?_
  refine va_newa (atype := .int) (ty := .int) (N' := 6) (a0 := (6, .inl (fun _ => 0))) hx hb w__arrayClass_int rfl hK hP hD hS hA (z_newI 6) (by decide) (by decide) (by decide) (Nat.le_of_ble_eq_true rfl) (Nat.le_of_ble_eq_true rfl) dX8_init_7 ?_
  clear hK hP hD hS
  intro q_1 cA_2 H_3 hK hP hD hS
  replace hK : va_K (dC, dI) vwCl [(cA_2, .int)] s := hK
  replace hP : va_P (dC, dI) vwCl [(h0, .inr (8, [.null, .null, .null, .null, .int 0, .int 0, .int 0, .null, .null])), (q_1, .inl (cA_2, 6, .inl (fun _ => 0)))] H_3 := hP
  replace hD : va_D A [(h0, .inr (8, [.null, .null, .null, .null, .int 0, .int 0, .int 0, .null, .null])), (q_1, .inl (cA_2, 6, .inl (fun _ => 0)))] := hD
  refine va_putF (D := (dC, dI)) (ci := 8) (v := .ref q_1) (ty := .array .int) (C := RX8) (T := TX8) (N := 9) hx hb hts hiX8 tyX8 tyX8_ok nmX8 hown hK hP hD hS 0 rfl rfl 1 (by decide) w__fieldLink_RX8_11_ShellHeap_RulesReader_titleStarts_I_ (fun _ h9 => h9) rfl hin rfl (by decide +kernel) rfl rfl (Nat.le_of_ble_eq_true rfl) dX8_init_9 ?_
  clear hP hD hS
  intro H_4 locs hP hD hS
  have h9 := z_s_0_1 hP hD
  clear hP hD
  obtain ⟨hP, hD⟩ := h9
  refine lv_aload_n hx hb dX8_init_12 rfl (lv_at hl 0 rfl) ?_
  refine lv_bipush (v := 6) hx hb dX8_init_13 (by decide) ?_
  refine va_newa (atype := .int) (ty := .int) (N' := 6) (a0 := (6, .inl (fun _ => 0))) hx hb w__arrayClass_int rfl hK hP hD hS hA (z_newI 6) (by decide) (by decide) (by decide) (Nat.le_of_ble_eq_true rfl) (Nat.le_of_ble_eq_true rfl) dX8_init_15 ?_
  clear hK hP hD hS
  intro q_5 cA_6 H_7 hK hP hD hS
  replace hK : va_K (dC, dI) vwCl [(cA_2, .int), (cA_6, .int)] s := hK
  replace hP : va_P (dC, dI) vwCl [(h0, .inr (8, [.null, .ref q_1, .null, .null, .int 0, .int 0, .int 0, .null, .null])), (q_1, .inl (cA_2, 6, .inl (fun _ => 0))), (q_5, .inl (cA_6, 6, .inl (fun _ => 0)))] H_7 := hP
  replace hD : va_D A [(h0, .inr (8, [.null, .ref q_1, .null, .null, .int 0, .int 0, .int 0, .null, .null])), (q_1, .inl (cA_2, 6, .inl (fun _ => 0))), (q_5, .inl (cA_6, 6, .inl (fun _ => 0)))] := hD
  refine va_putF (D := (dC, dI)) (ci := 8) (v := .ref q_5) (ty := .array .int) (C := RX8) (T := TX8) (N := 9) hx hb hts hiX8 tyX8 tyX8_ok nmX8 hown hK hP hD hS 0 rfl rfl 2 (by decide) w__fieldLink_RX8_17_ShellHeap_RulesReader_titleLengths_I_ (fun _ h9 => h9) rfl hin rfl (by decide +kernel) rfl rfl (Nat.le_of_ble_eq_true rfl) dX8_init_17 ?_
  clear hP hD hS
  intro H_8 locs hP hD hS
  have h9 := z_s_0_2 hP hD
  clear hP hD
  obtain ⟨hP, hD⟩ := h9
  refine lv_aload_n hx hb dX8_init_20 rfl (lv_at hl 0 rfl) ?_
  refine lv_bipush (v := 104) hx hb dX8_init_21 (by decide) ?_
  refine va_newa (atype := .int) (ty := .int) (N' := 104) (a0 := (104, .inl (fun _ => 0))) hx hb w__arrayClass_int rfl hK hP hD hS hA (z_newI 104) (by decide) (by decide) (by decide) (Nat.le_of_ble_eq_true rfl) (Nat.le_of_ble_eq_true rfl) dX8_init_23 ?_
  clear hK hP hD hS
  intro q_9 cA_10 H_11 hK hP hD hS
  replace hK : va_K (dC, dI) vwCl [(cA_2, .int), (cA_6, .int), (cA_10, .int)] s := hK
  replace hP : va_P (dC, dI) vwCl [(h0, .inr (8, [.null, .ref q_1, .ref q_5, .null, .int 0, .int 0, .int 0, .null, .null])), (q_1, .inl (cA_2, 6, .inl (fun _ => 0))), (q_5, .inl (cA_6, 6, .inl (fun _ => 0))), (q_9, .inl (cA_10, 104, .inl (fun _ => 0)))] H_11 := hP
  replace hD : va_D A [(h0, .inr (8, [.null, .ref q_1, .ref q_5, .null, .int 0, .int 0, .int 0, .null, .null])), (q_1, .inl (cA_2, 6, .inl (fun _ => 0))), (q_5, .inl (cA_6, 6, .inl (fun _ => 0))), (q_9, .inl (cA_10, 104, .inl (fun _ => 0)))] := hD
  refine va_putF (D := (dC, dI)) (ci := 8) (v := .ref q_9) (ty := .array .int) (C := RX8) (T := TX8) (N := 9) hx hb hts hiX8 tyX8 tyX8_ok nmX8 hown hK hP hD hS 0 rfl rfl 3 (by decide) w__fieldLink_RX8_20_ShellHeap_RulesReader_waiting_I_ (fun _ h9 => h9) rfl hin rfl (by decide +kernel) rfl rfl (Nat.le_of_ble_eq_true rfl) dX8_init_25 ?_
  clear hP hD hS
  intro H_12 locs hP hD hS
  have h9 := z_s_0_3 hP hD
  clear hP hD
  obtain ⟨hP, hD⟩ := h9
  refine lv_aload_n hx hb dX8_init_28 rfl (lv_at hl 0 rfl) ?_
  refine lv_iconst (v := 0) hx hb dX8_init_29 (by decide) ?_
  refine va_put (D := (dC, dI)) (ci := 8) (v := .int 0) (ty := .int) (C := RX8) (T := TX8) (N := 9) hx hb hts hiX8 tyX8 tyX8_ok nmX8 hown hK hP hD hS 0 rfl rfl 4 (by decide) w__fieldLink_RX8_23_ShellHeap_RulesReader_waits_I_ (fun _ h9 => h9) rfl (by decide +kernel) rfl rfl (Nat.le_of_ble_eq_true rfl) dX8_init_30 ?_
  clear hP hD hS
  intro H_13 locs hP hD hS
  have h9 := z_s_0_4 hP hD
  clear hP hD
  obtain ⟨hP, hD⟩ := h9
  refine lv_aload_n hx hb dX8_init_33 rfl (lv_at hl 0 rfl) ?_
  refine lv_iconst (v := 0) hx hb dX8_init_34 (by decide) ?_
  refine va_put (D := (dC, dI)) (ci := 8) (v := .int 0) (ty := .int) (C := RX8) (T := TX8) (N := 9) hx hb hts hiX8 tyX8 tyX8_ok nmX8 hown hK hP hD hS 0 rfl rfl 5 (by decide) w__fieldLink_RX8_27_ShellHeap_RulesReader_open_I_ (fun _ h9 => h9) rfl (by decide +kernel) rfl rfl (Nat.le_of_ble_eq_true rfl) dX8_init_35 ?_
  clear hP hD hS
  intro H_14 locs hP hD hS
  have h9 := z_s_0_5 hP hD
  clear hP hD
  obtain ⟨hP, hD⟩ := h9
  refine lv_aload_n hx hb dX8_init_38 rfl (lv_at hl 0 rfl) ?_
  refine lv_iconst (v := 1) hx hb dX8_init_39 (by decide) ?_
  refine va_put (D := (dC, dI)) (ci := 8) (v := .int 1) (ty := .boolean) (C := RX8) (T := TX8) (N := 9) hx hb hts hiX8 tyX8 tyX8_ok nmX8 hown hK hP hD hS 0 rfl rfl 6 (by decide) w__fieldLink_RX8_30_ShellHeap_RulesReader_wantsPart_Z_ (fun _ h9 => h9) rfl (by decide +kernel) rfl rfl (Nat.le_of_ble_eq_true rfl) dX8_init_40 ?_
  clear hP hD hS
  intro H_15 locs hP hD hS
  have h9 := z_s_0_6 hP hD
  clear hP hD
  obtain ⟨hP, hD⟩ := h9
  refine lv_aload_n hx hb dX8_init_43 rfl (lv_at hl 0 rfl) ?_
  refine va_new (ci := 7) (fs := [.null, .null, .null, .int 0, .int 0, .int 0]) (C := RX7) (T := TX7) (N := 6) hx hb hts hiX7 tyX7 tyX7_ok hown w__classLink_RX8_9_RX7 w__instantiable_RX7_6 w__initialized_RX7 hK hP hD hS hA rfl (fun j hj => match j, hj with | 0, _ => rfl | 1, _ => rfl | 2, _ => rfl | 3, _ => rfl | 4, _ => rfl | 5, _ => rfl | k + 6, h => absurd h (by omega)) (Nat.le_of_ble_eq_true rfl) (Nat.le_of_ble_eq_true rfl) dX8_init_44 (fun q_16 H_17 hP hD hS => ?_)
  replace hP : va_P (dC, dI) vwCl [(h0, .inr (8, [.null, .ref q_1, .ref q_5, .ref q_9, .int 0, .int 0, .int 1, .null, .null])), (q_1, .inl (cA_2, 6, .inl (fun _ => 0))), (q_5, .inl (cA_6, 6, .inl (fun _ => 0))), (q_9, .inl (cA_10, 104, .inl (fun _ => 0))), (q_16, .inr (7, [.null, .null, .null, .int 0, .int 0, .int 0]))] H_17 := hP
  replace hD : va_D A [(h0, .inr (8, [.null, .ref q_1, .ref q_5, .ref q_9, .int 0, .int 0, .int 1, .null, .null])), (q_1, .inl (cA_2, 6, .inl (fun _ => 0))), (q_5, .inl (cA_6, 6, .inl (fun _ => 0))), (q_9, .inl (cA_10, 104, .inl (fun _ => 0))), (q_16, .inr (7, [.null, .null, .null, .int 0, .int 0, .int 0]))] := hD
  refine lv_dup hx hb dX8_init_47 rfl ?_
  obtain ⟨hPc, hDc, hFc⟩ := z_sub3 (ws' := [(q_16, .inr (7, [.null, .null, .null, .int 0, .int 0, .int 0]))]) hP hD hS hA [4] (by decide) rfl
  have hKc := hK.sub (tys' := []) [] rfl
  refine va_callv (va_runIN (As := []) (rest := [.ref q_16, .ref h0]) ⟨hx, hb, hml, hown, hts⟩ (c_X7_make l dC dI H_17.size q_16) ⟨va_cnB 0 hts gw_c_X8_make_c_X7_make_34 rfl rfl rfl (hNW (RX8, 34, yX7_init) (by decide +kernel)) w__initialized_RX7 (by decide +kernel) ⟨Nat.le_of_ble_eq_true rfl, Nat.le_of_ble_eq_true rfl⟩, rfl, w__instanceMethod_yX7_init⟩ ⟨z_blind, z_pre hPc hKc hDc⟩ rfl rfl hl.1 rfl (lv_room (Nat.le_of_ble_eq_true rfl)) dX8_init_48 ⟨Nat.le_of_ble_eq_true rfl, Nat.le_of_ble_eq_true rfl⟩) hS (fun q _ h => hFc q h) hFc ?_
  clear hS
  intro u t H_18 locs ht hvm hw_20 hB hz1 hk1 hS
  obtain ⟨qa0_21, qc0_22, qa1_23, qc1_24, qa2_25, qc2_26, hP1, hK1, hD1⟩ := hB
  rw [ht] at hP1
  have hK1 := va_K.moved hvm.symm hK1
  obtain ⟨hP, hD⟩ := va_join (wr := [(h0, .inr (8, [.null, .ref q_1, .ref q_5, .ref q_9, .int 0, .int 0, .int 1, .null, .null])), (q_1, .inl (cA_2, 6, .inl (fun _ => 0))), (q_5, .inl (cA_6, 6, .inl (fun _ => 0))), (q_9, .inl (cA_10, 104, .inl (fun _ => 0)))]) (w1 := [(q_16, .inr (7, [.ref qa0_21, .ref qa1_23, .ref qa2_25, .int 0, .int 0, .int 0])), (qa0_21, .inl (qc0_22, 96, .inl (fun _ => 0))), (qa1_23, .inl (qc1_24, 96, .inl (fun _ => 0))), (qa2_25, .inl (qc2_26, 7, .inl (fun _ => 0)))]) hP hD [4] [0, 1, 2, 3] rfl rfl (by decide) (by decide) hk1 hFc hP1 hD1
  have hK := hK.app hK1
  replace hK : va_K (dC, dI) vwCl [(cA_2, .int), (cA_6, .int), (cA_10, .int), (qc0_22, .int), (qc1_24, .int), (qc2_26, .int)] s := hK
  replace hP : va_P (dC, dI) vwCl [(h0, .inr (8, [.null, .ref q_1, .ref q_5, .ref q_9, .int 0, .int 0, .int 1, .null, .null])), (q_1, .inl (cA_2, 6, .inl (fun _ => 0))), (q_5, .inl (cA_6, 6, .inl (fun _ => 0))), (q_9, .inl (cA_10, 104, .inl (fun _ => 0))), (q_16, .inr (7, [.ref qa0_21, .ref qa1_23, .ref qa2_25, .int 0, .int 0, .int 0])), (qa0_21, .inl (qc0_22, 96, .inl (fun _ => 0))), (qa1_23, .inl (qc1_24, 96, .inl (fun _ => 0))), (qa2_25, .inl (qc2_26, 7, .inl (fun _ => 0)))] H_18 := hP
  replace hD : va_D A [(h0, .inr (8, [.null, .ref q_1, .ref q_5, .ref q_9, .int 0, .int 0, .int 1, .null, .null])), (q_1, .inl (cA_2, 6, .inl (fun _ => 0))), (q_5, .inl (cA_6, 6, .inl (fun _ => 0))), (q_9, .inl (cA_10, 104, .inl (fun _ => 0))), (q_16, .inr (7, [.ref qa0_21, .ref qa1_23, .ref qa2_25, .int 0, .int 0, .int 0])), (qa0_21, .inl (qc0_22, 96, .inl (fun _ => 0))), (qa1_23, .inl (qc1_24, 96, .inl (fun _ => 0))), (qa2_25, .inl (qc2_26, 7, .inl (fun _ => 0)))] := hD
  clear hPc hDc hKc hFc ht hvm hz1 hk1
  refine va_put (D := (dC, dI)) (ci := 8) (v := .ref q_16) (ty := .object "ShellHeap$Rules") (C := RX8) (T := TX8) (N := 9) hx hb hts hiX8 tyX8 tyX8_ok nmX8 hown hK hP hD hS 0 rfl rfl 7 (by decide) w__fieldLink_RX8_35_ShellHeap_RulesReader_draft_LShellHeap_Rules_ (fun _ h9 => h9) rfl (by decide +kernel) rfl rfl (Nat.le_of_ble_eq_true rfl) dX8_init_51 ?_
  clear hP hD hS
  intro H_27 locs hP hD hS
  have h9 := z_s_0_7 hP hD
  clear hP hD
  obtain ⟨hP, hD⟩ := h9
  refine lv_aload_n hx hb dX8_init_54 rfl (lv_at hl 0 rfl) ?_
  refine va_new (ci := 7) (fs := [.null, .null, .null, .int 0, .int 0, .int 0]) (C := RX7) (T := TX7) (N := 6) hx hb hts hiX7 tyX7 tyX7_ok hown w__classLink_RX8_9_RX7 w__instantiable_RX7_6 w__initialized_RX7 hK hP hD hS hA rfl (fun j hj => match j, hj with | 0, _ => rfl | 1, _ => rfl | 2, _ => rfl | 3, _ => rfl | 4, _ => rfl | 5, _ => rfl | k + 6, h => absurd h (by omega)) (Nat.le_of_ble_eq_true rfl) (Nat.le_of_ble_eq_true rfl) dX8_init_55 (fun q_28 H_29 hP hD hS => ?_)
  replace hP : va_P (dC, dI) vwCl [(h0, .inr (8, [.null, .ref q_1, .ref q_5, .ref q_9, .int 0, .int 0, .int 1, .ref q_16, .null])), (q_1, .inl (cA_2, 6, .inl (fun _ => 0))), (q_5, .inl (cA_6, 6, .inl (fun _ => 0))), (q_9, .inl (cA_10, 104, .inl (fun _ => 0))), (q_16, .inr (7, [.ref qa0_21, .ref qa1_23, .ref qa2_25, .int 0, .int 0, .int 0])), (qa0_21, .inl (qc0_22, 96, .inl (fun _ => 0))), (qa1_23, .inl (qc1_24, 96, .inl (fun _ => 0))), (qa2_25, .inl (qc2_26, 7, .inl (fun _ => 0))), (q_28, .inr (7, [.null, .null, .null, .int 0, .int 0, .int 0]))] H_29 := hP
  replace hD : va_D A [(h0, .inr (8, [.null, .ref q_1, .ref q_5, .ref q_9, .int 0, .int 0, .int 1, .ref q_16, .null])), (q_1, .inl (cA_2, 6, .inl (fun _ => 0))), (q_5, .inl (cA_6, 6, .inl (fun _ => 0))), (q_9, .inl (cA_10, 104, .inl (fun _ => 0))), (q_16, .inr (7, [.ref qa0_21, .ref qa1_23, .ref qa2_25, .int 0, .int 0, .int 0])), (qa0_21, .inl (qc0_22, 96, .inl (fun _ => 0))), (qa1_23, .inl (qc1_24, 96, .inl (fun _ => 0))), (qa2_25, .inl (qc2_26, 7, .inl (fun _ => 0))), (q_28, .inr (7, [.null, .null, .null, .int 0, .int 0, .int 0]))] := hD
  refine lv_dup hx hb dX8_init_58 rfl ?_
  obtain ⟨hPc, hDc, hFc⟩ := z_sub3 (ws' := [(q_28, .inr (7, [.null, .null, .null, .int 0, .int 0, .int 0]))]) hP hD hS hA [8] (by decide) rfl
  have hKc := hK.sub (tys' := []) [] rfl
  refine va_callv (va_runIN (As := []) (rest := [.ref q_28, .ref h0]) ⟨hx, hb, hml, hown, hts⟩ (c_X7_make l dC dI H_29.size q_28) ⟨va_cnB 0 hts gw_c_X8_make_c_X7_make_34 rfl rfl rfl (hNW (RX8, 34, yX7_init) (by decide +kernel)) w__initialized_RX7 (by decide +kernel) ⟨Nat.le_of_ble_eq_true rfl, Nat.le_of_ble_eq_true rfl⟩, rfl, w__instanceMethod_yX7_init⟩ ⟨z_blind, z_pre hPc hKc hDc⟩ rfl rfl hl.1 rfl (lv_room (Nat.le_of_ble_eq_true rfl)) dX8_init_59 ⟨Nat.le_of_ble_eq_true rfl, Nat.le_of_ble_eq_true rfl⟩) hS (fun q _ h => hFc q h) hFc ?_
  clear hS
  intro u t H_30 locs ht hvm hw_32 hB hz1 hk1 hS
  obtain ⟨qa0_33, qc0_34, qa1_35, qc1_36, qa2_37, qc2_38, hP1, hK1, hD1⟩ := hB
  rw [ht] at hP1
  have hK1 := va_K.moved hvm.symm hK1
  obtain ⟨hP, hD⟩ := va_join (wr := [(h0, .inr (8, [.null, .ref q_1, .ref q_5, .ref q_9, .int 0, .int 0, .int 1, .ref q_16, .null])), (q_1, .inl (cA_2, 6, .inl (fun _ => 0))), (q_5, .inl (cA_6, 6, .inl (fun _ => 0))), (q_9, .inl (cA_10, 104, .inl (fun _ => 0))), (q_16, .inr (7, [.ref qa0_21, .ref qa1_23, .ref qa2_25, .int 0, .int 0, .int 0])), (qa0_21, .inl (qc0_22, 96, .inl (fun _ => 0))), (qa1_23, .inl (qc1_24, 96, .inl (fun _ => 0))), (qa2_25, .inl (qc2_26, 7, .inl (fun _ => 0)))]) (w1 := [(q_28, .inr (7, [.ref qa0_33, .ref qa1_35, .ref qa2_37, .int 0, .int 0, .int 0])), (qa0_33, .inl (qc0_34, 96, .inl (fun _ => 0))), (qa1_35, .inl (qc1_36, 96, .inl (fun _ => 0))), (qa2_37, .inl (qc2_38, 7, .inl (fun _ => 0)))]) hP hD [8] [0, 1, 2, 3, 4, 5, 6, 7] rfl rfl (by decide) (by decide) hk1 hFc hP1 hD1
  have hK := hK.app hK1
  replace hK : va_K (dC, dI) vwCl [(cA_2, .int), (cA_6, .int), (cA_10, .int), (qc0_22, .int), (qc1_24, .int), (qc2_26, .int), (qc0_34, .int), (qc1_36, .int), (qc2_38, .int)] s := hK
  replace hP : va_P (dC, dI) vwCl [(h0, .inr (8, [.null, .ref q_1, .ref q_5, .ref q_9, .int 0, .int 0, .int 1, .ref q_16, .null])), (q_1, .inl (cA_2, 6, .inl (fun _ => 0))), (q_5, .inl (cA_6, 6, .inl (fun _ => 0))), (q_9, .inl (cA_10, 104, .inl (fun _ => 0))), (q_16, .inr (7, [.ref qa0_21, .ref qa1_23, .ref qa2_25, .int 0, .int 0, .int 0])), (qa0_21, .inl (qc0_22, 96, .inl (fun _ => 0))), (qa1_23, .inl (qc1_24, 96, .inl (fun _ => 0))), (qa2_25, .inl (qc2_26, 7, .inl (fun _ => 0))), (q_28, .inr (7, [.ref qa0_33, .ref qa1_35, .ref qa2_37, .int 0, .int 0, .int 0])), (qa0_33, .inl (qc0_34, 96, .inl (fun _ => 0))), (qa1_35, .inl (qc1_36, 96, .inl (fun _ => 0))), (qa2_37, .inl (qc2_38, 7, .inl (fun _ => 0)))] H_30 := hP
  replace hD : va_D A [(h0, .inr (8, [.null, .ref q_1, .ref q_5, .ref q_9, .int 0, .int 0, .int 1, .ref q_16, .null])), (q_1, .inl (cA_2, 6, .inl (fun _ => 0))), (q_5, .inl (cA_6, 6, .inl (fun _ => 0))), (q_9, .inl (cA_10, 104, .inl (fun _ => 0))), (q_16, .inr (7, [.ref qa0_21, .ref qa1_23, .ref qa2_25, .int 0, .int 0, .int 0])), (qa0_21, .inl (qc0_22, 96, .inl (fun _ => 0))), (qa1_23, .inl (qc1_24, 96, .inl (fun _ => 0))), (qa2_25, .inl (qc2_26, 7, .inl (fun _ => 0))), (q_28, .inr (7, [.ref qa0_33, .ref qa1_35, .ref qa2_37, .int 0, .int 0, .int 0])), (qa0_33, .inl (qc0_34, 96, .inl (fun _ => 0))), (qa1_35, .inl (qc1_36, 96, .inl (fun _ => 0))), (qa2_37, .inl (qc2_38, 7, .inl (fun _ => 0)))] := hD
  clear hPc hDc hKc hFc ht hvm hz1 hk1
  refine va_put (D := (dC, dI)) (ci := 8) (v := .ref q_28) (ty := .object "ShellHeap$Rules") (C := RX8) (T := TX8) (N := 9) hx hb hts hiX8 tyX8 tyX8_ok nmX8 hown hK hP hD hS 0 rfl rfl 8 (by decide) w__fieldLink_RX8_39_ShellHeap_RulesReader_standing_LShellHeap_Rules_ (fun _ h9 => h9) rfl (by decide +kernel) rfl rfl (Nat.le_of_ble_eq_true rfl) dX8_init_62 ?_
  clear hP hD hS
  intro H_39 locs hP hD hS
  have h9 := z_s_0_8 hP hD
  clear hP hD
  obtain ⟨hP, hD⟩ := h9
  refine lv_aload_n hx hb dX8_init_65 rfl (lv_at hl 0 rfl) ?_
  refine lv_aload_n hx hb dX8_init_66 rfl (lv_at hl 1 rfl) ?_
  refine va_putF (D := (dC, dI)) (ci := 8) (v := .ref h1) (ty := .object "ShellHeap$Tape") (C := RX8) (T := TX8) (N := 9) hx hb hts hiX8 tyX8 tyX8_ok nmX8 hown hK hP hD hS 0 rfl rfl 0 (by decide) w__fieldLink_RX8_42_ShellHeap_RulesReader_tape_LShellHeap_Tape_ (fun _ h9 => h9) rfl hin rfl (by decide +kernel) rfl rfl (Nat.le_of_ble_eq_true rfl) dX8_init_67 ?_
  clear hP hD hS
  intro H_40 locs hP hD hS
  have h9 := z_s_0_0 hP hD
  clear hP hD
  obtain ⟨hP, hD⟩ := h9
  have hP9 := hP.sub (ws' := [(h0, .inr (8, [.ref h1, .ref q_1, .ref q_5, .ref q_9, .int 0, .int 0, .int 1, .ref q_16, .ref q_28])), (q_1, .inl (cA_2, 6, .inl (fun _ => 0))), (q_5, .inl (cA_6, 6, .inl (fun _ => 0))), (q_9, .inl (cA_10, 104, .inl (fun _ => 0))), (q_16, .inr (7, [.ref qa0_21, .ref qa1_23, .ref qa2_25, .int 0, .int 0, .int 0])), (qa0_21, .inl (qc0_22, 96, .inl (fun _ => 0))), (qa1_23, .inl (qc1_24, 96, .inl (fun _ => 0))), (qa2_25, .inl (qc2_26, 7, .inl (fun _ => 0))), (q_28, .inr (7, [.ref qa0_33, .ref qa1_35, .ref qa2_37, .int 0, .int 0, .int 0])), (qa0_33, .inl (qc0_34, 96, .inl (fun _ => 0))), (qa1_35, .inl (qc1_36, 96, .inl (fun _ => 0))), (qa2_37, .inl (qc2_38, 7, .inl (fun _ => 0)))]) [0, 1, 2, 3, 4, 5, 6, 7, 8, 9, 10, 11] rfl
  have hD9 := hD.sub (ws' := [(h0, .inr (8, [.ref h1, .ref q_1, .ref q_5, .ref q_9, .int 0, .int 0, .int 1, .ref q_16, .ref q_28])), (q_1, .inl (cA_2, 6, .inl (fun _ => 0))), (q_5, .inl (cA_6, 6, .inl (fun _ => 0))), (q_9, .inl (cA_10, 104, .inl (fun _ => 0))), (q_16, .inr (7, [.ref qa0_21, .ref qa1_23, .ref qa2_25, .int 0, .int 0, .int 0])), (qa0_21, .inl (qc0_22, 96, .inl (fun _ => 0))), (qa1_23, .inl (qc1_24, 96, .inl (fun _ => 0))), (qa2_25, .inl (qc2_26, 7, .inl (fun _ => 0))), (q_28, .inr (7, [.ref qa0_33, .ref qa1_35, .ref qa2_37, .int 0, .int 0, .int 0])), (qa0_33, .inl (qc0_34, 96, .inl (fun _ => 0))), (qa1_35, .inl (qc1_36, 96, .inl (fun _ => 0))), (qa2_37, .inl (qc2_38, 7, .inl (fun _ => 0)))]) [0, 1, 2, 3, 4, 5, 6, 7, 8, 9, 10, 11] (by decide) rfl
  have hK9 := hK.sub (tys' := [(cA_2, .int), (cA_6, .int), (cA_10, .int), (qc0_22, .int), (qc1_24, .int), (qc2_26, .int), (qc0_34, .int), (qc1_36, .int), (qc2_38, .int)]) [0, 1, 2, 3, 4, 5, 6, 7, 8] rfl
  refine W.widen (k := 11) (n := 526) (Nat.le_of_ble_eq_true rfl) (Nat.le_of_ble_eq_true rfl) ?_
  exact W.vret hx hb hr (fun t ht hW => ⟨⟨(), rfl, trivial, ⟨q_1, cA_2, q_5, cA_6, q_9, cA_10, q_16, q_28, qa0_21, qc0_22, qa1_23, qc1_24, qa2_25, qc2_26, qa0_33, qc0_34, qa1_35, qc1_36, qa2_37, qc2_38, by rw [ht]; exact hP9, va_K.moved hW.alike hK9, hD9⟩⟩, hS.F ht⟩) hS.2.2 dX8_init_70
