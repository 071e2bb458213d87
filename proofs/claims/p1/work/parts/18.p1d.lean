def u_c_X10_init : List Cond := .code yX10_init cX10_init 1 none :: ([.methodLink RX10 3 objectInit, .instanceMethod objectInit, .code objectInit ⟨#[0xb1]⟩ 1 none, .arrayClass .int, .fieldLink RX10 11 "ShellHeap$Tape" "bytes" "[I", .fieldLink RX10 15 "ShellHeap$Tape" "text" "I", .fieldLink RX10 19 "ShellHeap$Tape" "at" "I", .fieldLink RX10 22 "ShellHeap$Tape" "digitsJoin" "Z", .fieldLink RX10 26 "ShellHeap$Tape" "fed" "I", .fieldLink RX10 29 "ShellHeap$Tape" "start" "I", .fieldLink RX10 32 "ShellHeap$Tape" "end" "I", .fieldLink RX10 35 "ShellHeap$Tape" "sort" "I", .fieldLink RX10 38 "ShellHeap$Tape" "sign" "I", .fieldLink RX10 41 "ShellHeap$Tape" "faultSort" "I", .fieldLink RX10 44 "ShellHeap$Tape" "faultPlace" "I"] ++ wsX100)
set_option maxHeartbeats 4000000 in
set_option maxRecDepth 100000 in
theorem c_X10_init (l : Launch) (dC : Nat → ClassId) (dI : Nat → Nat → Nat) (sz : Nat) (h0 : Nat) : Met l yX10_init u_c_X10_init ({ frames := 1, cells := 1, slots := 700, locals := 12 }) (va_Pc [.ref h0] (z_C (dC, dI) vwCl [(h0, .inr (10, [.null, .int 0, .int 0, .int 0, .int 0, .int 0, .int 0, .int 0, .int 0, .int 0, .int 0]))] [] sz)) (va_Qv (fun (_ : Unit) => True) (fun (_ : Unit) (t : State) => ∃ (q0 : Nat), ∃ (qc0 : ClassId), va_P (dC, dI) vwCl [(h0, .inr (10, [.ref q0, .int 0, .int 0, .int 0, .int 0, .int 0, .int 0, .int 0, .int (-1), .int 0, .int (-1)])), (q0, .inl (qc0, 700, .inl (fun _ => 0)))] t.heap ∧ va_K (dC, dI) vwCl [(qc0, .int)] t ∧ va_D (va_A [(h0, .inr (10, [.null, .int 0, .int 0, .int 0, .int 0, .int 0, .int 0, .int 0, .int 0, .int 0, .int 0]))] sz) [(h0, .inr (10, [.ref q0, .int 0, .int 0, .int 0, .int 0, .int 0, .int 0, .int 0, .int (-1), .int 0, .int (-1)])), (q0, .inl (qc0, 700, .inl (fun _ => 0)))]) (va_A [(h0, .inr (10, [.null, .int 0, .int 0, .int 0, .int 0, .int 0, .int 0, .int 0, .int 0, .int 0, .int 0]))] sz)) 1 700 (va_A [(h0, .inr (10, [.null, .int 0, .int 0, .int 0, .int 0, .int 0, .int 0, .int 0, .int 0, .int 0, .int 0]))] sz) := by
  refine Met.ofW (cc := cX10_init) (maxL := 1) (ret := none) (by decide) rfl ?_
  intro p e s m args below meth c s₁ B hml hv
  obtain ⟨rfl, hsz, hP, hK, hD0⟩ := hv
  have hx := B.exec
  have hb := B.bytes
  have hr := B.returns
  have hts := atoms_spec (ws := u_c_X10_init) B.pre
  have hown : s.vm.findClass RX10 = some m.cls := findClass_of_methodNamed B.named
  have hlocks := B.notSynchronized
  have hin : meth.name = "<init>" := (name_of_methodNamed B.named B.method).1
  subst hsz
  have hD := hD0.self (sz := s.heap.size)
  generalize hAe : va_A [(h0, .inr (10, [.null, .int 0, .int 0, .int 0, .int 0, .int 0, .int 0, .int 0, .int 0, .int 0, .int 0]))] s.heap.size = A at hD ⊢
  have hA : ∀ q : Nat, s.heap.size ≤ q → A q := fun q h => by rw [← hAe]; exact Or.inr h
  have hS : va_S A s.heap s.heap [] := va_S.rf
  have hP : va_P (dC, dI) vwCl [(h0, .inr (10, [.null, .int 0, .int 0, .int 0, .int 0, .int 0, .int 0, .int 0, .int 0, .int 0, .int 0]))] s.heap := hP
  have w__methodLink_RX10_3_objectInit := hts (.methodLink RX10 3 objectInit) (by decide +kernel)
  have w__instanceMethod_objectInit := hts (.instanceMethod objectInit) (by decide +kernel)
  have w__code_objectInit_0xb1_1_none := hts (.code objectInit ⟨#[0xb1]⟩ 1 none) (by decide +kernel)
  have w__arrayClass_int := hts (.arrayClass .int) (by decide +kernel)
  have w__fieldLink_RX10_11_ShellHeap_Tape_bytes_I_ := hts (.fieldLink RX10 11 "ShellHeap$Tape" "bytes" "[I") (by decide +kernel)
  have hiX10 := show ∀ w ∈ u_ws RX10 TX10 11, w ∈ u_c_X10_init by decide +kernel
  have w__fieldLink_RX10_15_ShellHeap_Tape_text_I_ := hts (.fieldLink RX10 15 "ShellHeap$Tape" "text" "I") (by decide +kernel)
  have w__fieldLink_RX10_19_ShellHeap_Tape_at_I_ := hts (.fieldLink RX10 19 "ShellHeap$Tape" "at" "I") (by decide +kernel)
  have w__fieldLink_RX10_22_ShellHeap_Tape_digitsJoin_Z_ := hts (.fieldLink RX10 22 "ShellHeap$Tape" "digitsJoin" "Z") (by decide +kernel)
  have w__fieldLink_RX10_26_ShellHeap_Tape_fed_I_ := hts (.fieldLink RX10 26 "ShellHeap$Tape" "fed" "I") (by decide +kernel)
  have w__fieldLink_RX10_29_ShellHeap_Tape_start_I_ := hts (.fieldLink RX10 29 "ShellHeap$Tape" "start" "I") (by decide +kernel)
  have w__fieldLink_RX10_32_ShellHeap_Tape_end_I_ := hts (.fieldLink RX10 32 "ShellHeap$Tape" "end" "I") (by decide +kernel)
  have w__fieldLink_RX10_35_ShellHeap_Tape_sort_I_ := hts (.fieldLink RX10 35 "ShellHeap$Tape" "sort" "I") (by decide +kernel)
  have w__fieldLink_RX10_38_ShellHeap_Tape_sign_I_ := hts (.fieldLink RX10 38 "ShellHeap$Tape" "sign" "I") (by decide +kernel)
  have w__fieldLink_RX10_41_ShellHeap_Tape_faultSort_I_ := hts (.fieldLink RX10 41 "ShellHeap$Tape" "faultSort" "I") (by decide +kernel)
  have w__fieldLink_RX10_44_ShellHeap_Tape_faultPlace_I_ := hts (.fieldLink RX10 44 "ShellHeap$Tape" "faultPlace" "I") (by decide +kernel)
  have hl := lv_entry ([.ref h0]) (n := 1) (Nat.le_of_ble_eq_true rfl)
  rw [lg_entry_eq]
  generalize (lg_sl ([.ref h0]) ++ List.replicate (1 - (lg_sl ([.ref h0])).length) Slot.unset).toArray = ls at hl ⊢
  have hl : lv_has ls 1 [(0, .ref h0)] := hl
  refine lv_aload_n hx hb dX10_init_0 rfl (lv_at hl 0 rfl) ?_
  refine W.objInit hx hb hown w__methodLink_RX10_3_objectInit w__instanceMethod_objectInit w__code_objectInit_0xb1_1_none rfl (by rw [hml]; exact hl.1) rfl dX10_init_1 (Nat.le_of_ble_eq_true rfl) (Nat.le_of_ble_eq_true rfl) ?_
  refine W.eq (g2 := F0 m 4 ls []) rfl ?_
  refine lv_aload_n hx hb dX10_init_4 rfl (lv_at hl 0 rfl) ?_
  refine lv_sipush (v := 700) hx hb dX10_init_5 (by decide) ?_
  refine va_newa (ty := .int) (N' := 700) (a0 := (700, .inl (fun _ => 0))) hx hb w__arrayClass_int rfl hK hP hD hS hA (fun _ => rfl) (by decide) (by decide) (by decide) (Nat.le_of_ble_eq_true rfl) (Nat.le_of_ble_eq_true rfl) dX10_init_8 (fun q_1 cA_2 H_3 hK hP hD hS => ?_)
  have hK : va_K (dC, dI) vwCl [(cA_2, .int)] s := hK
  have hP : va_P (dC, dI) vwCl [(h0, .inr (10, [.null, .int 0, .int 0, .int 0, .int 0, .int 0, .int 0, .int 0, .int 0, .int 0, .int 0])), (q_1, .inl (cA_2, 700, .inl (fun _ => 0)))] H_3 := hP
  have hD : va_D A [(h0, .inr (10, [.null, .int 0, .int 0, .int 0, .int 0, .int 0, .int 0, .int 0, .int 0, .int 0, .int 0])), (q_1, .inl (cA_2, 700, .inl (fun _ => 0)))] := hD
  refine va_putF (D := (dC, dI)) (ci := 10) (v := .ref q_1) (ty := .array .int) (C := RX10) (T := TX10) (N := 11) hx hb hts hiX10 tyX10 tyX10_ok nmX10 hown hK hP hD hS 0 rfl rfl 0 (by decide) w__fieldLink_RX10_11_ShellHeap_Tape_bytes_I_ (fun _ h9 => h9) rfl hin rfl (by decide +kernel) rfl rfl (Nat.le_of_ble_eq_true rfl) dX10_init_10 (fun H_4 locs hP hD hS => ?_)
  have hP : va_P (dC, dI) vwCl [(h0, .inr (10, [.ref q_1, .int 0, .int 0, .int 0, .int 0, .int 0, .int 0, .int 0, .int 0, .int 0, .int 0])), (q_1, .inl (cA_2, 700, .inl (fun _ => 0)))] H_4 := hP
  have hD : va_D A [(h0, .inr (10, [.ref q_1, .int 0, .int 0, .int 0, .int 0, .int 0, .int 0, .int 0, .int 0, .int 0, .int 0])), (q_1, .inl (cA_2, 700, .inl (fun _ => 0)))] := hD
  refine lv_aload_n hx hb dX10_init_13 rfl (lv_at hl 0 rfl) ?_
  refine lv_iconst (v := 0) hx hb dX10_init_14 (by decide) ?_
  refine va_put (D := (dC, dI)) (ci := 10) (v := .int 0) (ty := .int) (C := RX10) (T := TX10) (N := 11) hx hb hts hiX10 tyX10 tyX10_ok nmX10 hown hK hP hD hS 0 rfl rfl 1 (by decide) w__fieldLink_RX10_15_ShellHeap_Tape_text_I_ (fun _ h9 => h9) rfl (by decide +kernel) rfl rfl (Nat.le_of_ble_eq_true rfl) dX10_init_15 (fun H_5 locs hP hD hS => ?_)
  have hP : va_P (dC, dI) vwCl [(h0, .inr (10, [.ref q_1, .int 0, .int 0, .int 0, .int 0, .int 0, .int 0, .int 0, .int 0, .int 0, .int 0])), (q_1, .inl (cA_2, 700, .inl (fun _ => 0)))] H_5 := hP
  have hD : va_D A [(h0, .inr (10, [.ref q_1, .int 0, .int 0, .int 0, .int 0, .int 0, .int 0, .int 0, .int 0, .int 0, .int 0])), (q_1, .inl (cA_2, 700, .inl (fun _ => 0)))] := hD
  refine lv_aload_n hx hb dX10_init_18 rfl (lv_at hl 0 rfl) ?_
  refine lv_iconst (v := 0) hx hb dX10_init_19 (by decide) ?_
  refine va_put (D := (dC, dI)) (ci := 10) (v := .int 0) (ty := .int) (C := RX10) (T := TX10) (N := 11) hx hb hts hiX10 tyX10 tyX10_ok nmX10 hown hK hP hD hS 0 rfl rfl 2 (by decide) w__fieldLink_RX10_19_ShellHeap_Tape_at_I_ (fun _ h9 => h9) rfl (by decide +kernel) rfl rfl (Nat.le_of_ble_eq_true rfl) dX10_init_20 (fun H_6 locs hP hD hS => ?_)
  have hP : va_P (dC, dI) vwCl [(h0, .inr (10, [.ref q_1, .int 0, .int 0, .int 0, .int 0, .int 0, .int 0, .int 0, .int 0, .int 0, .int 0])), (q_1, .inl (cA_2, 700, .inl (fun _ => 0)))] H_6 := hP
  have hD : va_D A [(h0, .inr (10, [.ref q_1, .int 0, .int 0, .int 0, .int 0, .int 0, .int 0, .int 0, .int 0, .int 0, .int 0])), (q_1, .inl (cA_2, 700, .inl (fun _ => 0)))] := hD
  refine lv_aload_n hx hb dX10_init_23 rfl (lv_at hl 0 rfl) ?_
  refine lv_iconst (v := 0) hx hb dX10_init_24 (by decide) ?_
  refine va_put (D := (dC, dI)) (ci := 10) (v := .int 0) (ty := .boolean) (C := RX10) (T := TX10) (N := 11) hx hb hts hiX10 tyX10 tyX10_ok nmX10 hown hK hP hD hS 0 rfl rfl 3 (by decide) w__fieldLink_RX10_22_ShellHeap_Tape_digitsJoin_Z_ (fun _ h9 => h9) rfl (by decide +kernel) rfl rfl (Nat.le_of_ble_eq_true rfl) dX10_init_25 (fun H_7 locs hP hD hS => ?_)
  have hP : va_P (dC, dI) vwCl [(h0, .inr (10, [.ref q_1, .int 0, .int 0, .int 0, .int 0, .int 0, .int 0, .int 0, .int 0, .int 0, .int 0])), (q_1, .inl (cA_2, 700, .inl (fun _ => 0)))] H_7 := hP
  have hD : va_D A [(h0, .inr (10, [.ref q_1, .int 0, .int 0, .int 0, .int 0, .int 0, .int 0, .int 0, .int 0, .int 0, .int 0])), (q_1, .inl (cA_2, 700, .inl (fun _ => 0)))] := hD
  refine lv_aload_n hx hb dX10_init_28 rfl (lv_at hl 0 rfl) ?_
  refine lv_iconst (v := 0) hx hb dX10_init_29 (by decide) ?_
  refine va_put (D := (dC, dI)) (ci := 10) (v := .int 0) (ty := .int) (C := RX10) (T := TX10) (N := 11) hx hb hts hiX10 tyX10 tyX10_ok nmX10 hown hK hP hD hS 0 rfl rfl 4 (by decide) w__fieldLink_RX10_26_ShellHeap_Tape_fed_I_ (fun _ h9 => h9) rfl (by decide +kernel) rfl rfl (Nat.le_of_ble_eq_true rfl) dX10_init_30 (fun H_8 locs hP hD hS => ?_)
  have hP : va_P (dC, dI) vwCl [(h0, .inr (10, [.ref q_1, .int 0, .int 0, .int 0, .int 0, .int 0, .int 0, .int 0, .int 0, .int 0, .int 0])), (q_1, .inl (cA_2, 700, .inl (fun _ => 0)))] H_8 := hP
  have hD : va_D A [(h0, .inr (10, [.ref q_1, .int 0, .int 0, .int 0, .int 0, .int 0, .int 0, .int 0, .int 0, .int 0, .int 0])), (q_1, .inl (cA_2, 700, .inl (fun _ => 0)))] := hD
  refine lv_aload_n hx hb dX10_init_33 rfl (lv_at hl 0 rfl) ?_
  refine lv_iconst (v := 0) hx hb dX10_init_34 (by decide) ?_
  refine va_put (D := (dC, dI)) (ci := 10) (v := .int 0) (ty := .int) (C := RX10) (T := TX10) (N := 11) hx hb hts hiX10 tyX10 tyX10_ok nmX10 hown hK hP hD hS 0 rfl rfl 5 (by decide) w__fieldLink_RX10_29_ShellHeap_Tape_start_I_ (fun _ h9 => h9) rfl (by decide +kernel) rfl rfl (Nat.le_of_ble_eq_true rfl) dX10_init_35 (fun H_9 locs hP hD hS => ?_)
  have hP : va_P (dC, dI) vwCl [(h0, .inr (10, [.ref q_1, .int 0, .int 0, .int 0, .int 0, .int 0, .int 0, .int 0, .int 0, .int 0, .int 0])), (q_1, .inl (cA_2, 700, .inl (fun _ => 0)))] H_9 := hP
  have hD : va_D A [(h0, .inr (10, [.ref q_1, .int 0, .int 0, .int 0, .int 0, .int 0, .int 0, .int 0, .int 0, .int 0, .int 0])), (q_1, .inl (cA_2, 700, .inl (fun _ => 0)))] := hD
  refine lv_aload_n hx hb dX10_init_38 rfl (lv_at hl 0 rfl) ?_
  refine lv_iconst (v := 0) hx hb dX10_init_39 (by decide) ?_
  refine va_put (D := (dC, dI)) (ci := 10) (v := .int 0) (ty := .int) (C := RX10) (T := TX10) (N := 11) hx hb hts hiX10 tyX10 tyX10_ok nmX10 hown hK hP hD hS 0 rfl rfl 6 (by decide) w__fieldLink_RX10_32_ShellHeap_Tape_end_I_ (fun _ h9 => h9) rfl (by decide +kernel) rfl rfl (Nat.le_of_ble_eq_true rfl) dX10_init_40 (fun H_10 locs hP hD hS => ?_)
  have hP : va_P (dC, dI) vwCl [(h0, .inr (10, [.ref q_1, .int 0, .int 0, .int 0, .int 0, .int 0, .int 0, .int 0, .int 0, .int 0, .int 0])), (q_1, .inl (cA_2, 700, .inl (fun _ => 0)))] H_10 := hP
  have hD : va_D A [(h0, .inr (10, [.ref q_1, .int 0, .int 0, .int 0, .int 0, .int 0, .int 0, .int 0, .int 0, .int 0, .int 0])), (q_1, .inl (cA_2, 700, .inl (fun _ => 0)))] := hD
  refine lv_aload_n hx hb dX10_init_43 rfl (lv_at hl 0 rfl) ?_
  refine lv_iconst (v := 0) hx hb dX10_init_44 (by decide) ?_
  refine va_put (D := (dC, dI)) (ci := 10) (v := .int 0) (ty := .int) (C := RX10) (T := TX10) (N := 11) hx hb hts hiX10 tyX10 tyX10_ok nmX10 hown hK hP hD hS 0 rfl rfl 7 (by decide) w__fieldLink_RX10_35_ShellHeap_Tape_sort_I_ (fun _ h9 => h9) rfl (by decide +kernel) rfl rfl (Nat.le_of_ble_eq_true rfl) dX10_init_45 (fun H_11 locs hP hD hS => ?_)
  have hP : va_P (dC, dI) vwCl [(h0, .inr (10, [.ref q_1, .int 0, .int 0, .int 0, .int 0, .int 0, .int 0, .int 0, .int 0, .int 0, .int 0])), (q_1, .inl (cA_2, 700, .inl (fun _ => 0)))] H_11 := hP
  have hD : va_D A [(h0, .inr (10, [.ref q_1, .int 0, .int 0, .int 0, .int 0, .int 0, .int 0, .int 0, .int 0, .int 0, .int 0])), (q_1, .inl (cA_2, 700, .inl (fun _ => 0)))] := hD
  refine lv_aload_n hx hb dX10_init_48 rfl (lv_at hl 0 rfl) ?_
  refine lv_iconst (v := (-1)) hx hb dX10_init_49 (by decide) ?_
  refine va_put (D := (dC, dI)) (ci := 10) (v := .int (-1)) (ty := .int) (C := RX10) (T := TX10) (N := 11) hx hb hts hiX10 tyX10 tyX10_ok nmX10 hown hK hP hD hS 0 rfl rfl 8 (by decide) w__fieldLink_RX10_38_ShellHeap_Tape_sign_I_ (fun _ h9 => h9) rfl (by decide +kernel) rfl rfl (Nat.le_of_ble_eq_true rfl) dX10_init_50 (fun H_12 locs hP hD hS => ?_)
  have hP : va_P (dC, dI) vwCl [(h0, .inr (10, [.ref q_1, .int 0, .int 0, .int 0, .int 0, .int 0, .int 0, .int 0, .int (-1), .int 0, .int 0])), (q_1, .inl (cA_2, 700, .inl (fun _ => 0)))] H_12 := hP
  have hD : va_D A [(h0, .inr (10, [.ref q_1, .int 0, .int 0, .int 0, .int 0, .int 0, .int 0, .int 0, .int (-1), .int 0, .int 0])), (q_1, .inl (cA_2, 700, .inl (fun _ => 0)))] := hD
  refine lv_aload_n hx hb dX10_init_53 rfl (lv_at hl 0 rfl) ?_
  refine lv_iconst (v := 0) hx hb dX10_init_54 (by decide) ?_
  refine va_put (D := (dC, dI)) (ci := 10) (v := .int 0) (ty := .int) (C := RX10) (T := TX10) (N := 11) hx hb hts hiX10 tyX10 tyX10_ok nmX10 hown hK hP hD hS 0 rfl rfl 9 (by decide) w__fieldLink_RX10_41_ShellHeap_Tape_faultSort_I_ (fun _ h9 => h9) rfl (by decide +kernel) rfl rfl (Nat.le_of_ble_eq_true rfl) dX10_init_55 (fun H_13 locs hP hD hS => ?_)
  have hP : va_P (dC, dI) vwCl [(h0, .inr (10, [.ref q_1, .int 0, .int 0, .int 0, .int 0, .int 0, .int 0, .int 0, .int (-1), .int 0, .int 0])), (q_1, .inl (cA_2, 700, .inl (fun _ => 0)))] H_13 := hP
  have hD : va_D A [(h0, .inr (10, [.ref q_1, .int 0, .int 0, .int 0, .int 0, .int 0, .int 0, .int 0, .int (-1), .int 0, .int 0])), (q_1, .inl (cA_2, 700, .inl (fun _ => 0)))] := hD
  refine lv_aload_n hx hb dX10_init_58 rfl (lv_at hl 0 rfl) ?_
  refine lv_iconst (v := (-1)) hx hb dX10_init_59 (by decide) ?_
  refine va_put (D := (dC, dI)) (ci := 10) (v := .int (-1)) (ty := .int) (C := RX10) (T := TX10) (N := 11) hx hb hts hiX10 tyX10 tyX10_ok nmX10 hown hK hP hD hS 0 rfl rfl 10 (by decide) w__fieldLink_RX10_44_ShellHeap_Tape_faultPlace_I_ (fun _ h9 => h9) rfl (by decide +kernel) rfl rfl (Nat.le_of_ble_eq_true rfl) dX10_init_60 (fun H_14 locs hP hD hS => ?_)
  have hP : va_P (dC, dI) vwCl [(h0, .inr (10, [.ref q_1, .int 0, .int 0, .int 0, .int 0, .int 0, .int 0, .int 0, .int (-1), .int 0, .int (-1)])), (q_1, .inl (cA_2, 700, .inl (fun _ => 0)))] H_14 := hP
  have hD : va_D A [(h0, .inr (10, [.ref q_1, .int 0, .int 0, .int 0, .int 0, .int 0, .int 0, .int 0, .int (-1), .int 0, .int (-1)])), (q_1, .inl (cA_2, 700, .inl (fun _ => 0)))] := hD
  have hP9 := hP.sub (ws' := [(h0, .inr (10, [.ref q_1, .int 0, .int 0, .int 0, .int 0, .int 0, .int 0, .int 0, .int (-1), .int 0, .int (-1)])), (q_1, .inl (cA_2, 700, .inl (fun _ => 0)))]) [0, 1] rfl
  have hD9 := hD.sub (ws' := [(h0, .inr (10, [.ref q_1, .int 0, .int 0, .int 0, .int 0, .int 0, .int 0, .int 0, .int (-1), .int 0, .int (-1)])), (q_1, .inl (cA_2, 700, .inl (fun _ => 0)))]) [0, 1] (by decide) rfl
  have hK9 := hK.sub (tys' := [(cA_2, .int)]) [0] rfl
  refine W.widen (k := 1) (n := 700) (Nat.le_of_ble_eq_true rfl) (Nat.le_of_ble_eq_true rfl) ?_
  exact W.vret hx hb hr (fun t ht hW => ⟨⟨(), rfl, trivial, ⟨q_1, cA_2, by rw [ht]; exact hP9, va_K.moved hW.alike hK9, hD9⟩⟩, hS.F ht⟩) hS.2.2 dX10_init_63
def u_c_X0_init : List Cond := .code yX0_init cX0_init 1 none :: ([.methodLink RX0 3 objectInit, .instanceMethod objectInit, .code objectInit ⟨#[0xb1]⟩ 1 none, .arrayClass .int, .fieldLink RX0 9 "ShellHeap$Book" "sort" "[I", .fieldLink RX0 15 "ShellHeap$Book" "a" "[I", .fieldLink RX0 18 "ShellHeap$Book" "b" "[I", .fieldLink RX0 21 "ShellHeap$Book" "c" "[I", .fieldLink RX0 24 "ShellHeap$Book" "notes" "I", .fieldLink RX0 28 "ShellHeap$Book" "layers" "I"] ++ wsX00)
set_option maxHeartbeats 4000000 in
set_option maxRecDepth 100000 in
theorem c_X0_init (l : Launch) (dC : Nat → ClassId) (dI : Nat → Nat → Nat) (sz : Nat) (h0 : Nat) : Met l yX0_init u_c_X0_init ({ frames := 1, cells := 4, slots := 320, locals := 12 }) (va_Pc [.ref h0] (z_C (dC, dI) vwCl [(h0, .inr (0, [.null, .null, .null, .null, .int 0, .int 0]))] [] sz)) (va_Qv (fun (_ : Unit) => True) (fun (_ : Unit) (t : State) => ∃ (q0 : Nat), ∃ (q1 : Nat), ∃ (q2 : Nat), ∃ (q3 : Nat), va_P (dC, dI) vwCl [(h0, .inr (0, [.ref q0, .ref q1, .ref q2, .ref q3, .int 0, .int 0]))] t.heap ∧ va_K (dC, dI) vwCl [] t ∧ va_D (va_A [(h0, .inr (0, [.null, .null, .null, .null, .int 0, .int 0]))] sz) [(h0, .inr (0, [.ref q0, .ref q1, .ref q2, .ref q3, .int 0, .int 0]))]) (va_A [(h0, .inr (0, [.null, .null, .null, .null, .int 0, .int 0]))] sz)) 4 320 (va_A [(h0, .inr (0, [.null, .null, .null, .null, .int 0, .int 0]))] sz) := by
  refine Met.ofW (cc := cX0_init) (maxL := 1) (ret := none) (by decide) rfl ?_
  intro p e s m args below meth c s₁ B hml hv
  obtain ⟨rfl, hsz, hP, hK, hD0⟩ := hv
  have hx := B.exec
  have hb := B.bytes
  have hr := B.returns
  have hts := atoms_spec (ws := u_c_X0_init) B.pre
  have hown : s.vm.findClass RX0 = some m.cls := findClass_of_methodNamed B.named
  have hlocks := B.notSynchronized
  have hin : meth.name = "<init>" := (name_of_methodNamed B.named B.method).1
  subst hsz
  have hD := hD0.self (sz := s.heap.size)
  generalize hAe : va_A [(h0, .inr (0, [.null, .null, .null, .null, .int 0, .int 0]))] s.heap.size = A at hD ⊢
  have hA : ∀ q : Nat, s.heap.size ≤ q → A q := fun q h => by rw [← hAe]; exact Or.inr h
  have hS : va_S A s.heap s.heap [] := va_S.rf
  have hP : va_P (dC, dI) vwCl [(h0, .inr (0, [.null, .null, .null, .null, .int 0, .int 0]))] s.heap := hP
  have w__methodLink_RX0_3_objectInit := hts (.methodLink RX0 3 objectInit) (by decide +kernel)
  have w__instanceMethod_objectInit := hts (.instanceMethod objectInit) (by decide +kernel)
  have w__code_objectInit_0xb1_1_none := hts (.code objectInit ⟨#[0xb1]⟩ 1 none) (by decide +kernel)
  have w__arrayClass_int := hts (.arrayClass .int) (by decide +kernel)
  have w__fieldLink_RX0_9_ShellHeap_Book_sort_I_ := hts (.fieldLink RX0 9 "ShellHeap$Book" "sort" "[I") (by decide +kernel)
  have hiX0 := show ∀ w ∈ u_ws RX0 TX0 6, w ∈ u_c_X0_init by decide +kernel
  have w__fieldLink_RX0_15_ShellHeap_Book_a_I_ := hts (.fieldLink RX0 15 "ShellHeap$Book" "a" "[I") (by decide +kernel)
  have w__fieldLink_RX0_18_ShellHeap_Book_b_I_ := hts (.fieldLink RX0 18 "ShellHeap$Book" "b" "[I") (by decide +kernel)
  have w__fieldLink_RX0_21_ShellHeap_Book_c_I_ := hts (.fieldLink RX0 21 "ShellHeap$Book" "c" "[I") (by decide +kernel)
  have w__fieldLink_RX0_24_ShellHeap_Book_notes_I_ := hts (.fieldLink RX0 24 "ShellHeap$Book" "notes" "I") (by decide +kernel)
  have w__fieldLink_RX0_28_ShellHeap_Book_layers_I_ := hts (.fieldLink RX0 28 "ShellHeap$Book" "layers" "I") (by decide +kernel)
  have hl := lv_entry ([.ref h0]) (n := 1) (Nat.le_of_ble_eq_true rfl)
  rw [lg_entry_eq]
  generalize (lg_sl ([.ref h0]) ++ List.replicate (1 - (lg_sl ([.ref h0])).length) Slot.unset).toArray = ls at hl ⊢
  have hl : lv_has ls 1 [(0, .ref h0)] := hl
  refine lv_aload_n hx hb dX0_init_0 rfl (lv_at hl 0 rfl) ?_
  refine W.objInit hx hb hown w__methodLink_RX0_3_objectInit w__instanceMethod_objectInit w__code_objectInit_0xb1_1_none rfl (by rw [hml]; exact hl.1) rfl dX0_init_1 (Nat.le_of_ble_eq_true rfl) (Nat.le_of_ble_eq_true rfl) ?_
  refine W.eq (g2 := F0 m 4 ls []) rfl ?_
  refine lv_aload_n hx hb dX0_init_4 rfl (lv_at hl 0 rfl) ?_
  refine lv_bipush (v := 80) hx hb dX0_init_5 (by decide) ?_
  refine va_newa (ty := .int) (N' := 80) (a0 := (80, .inl (fun _ => 0))) hx hb w__arrayClass_int rfl hK hP hD hS hA (fun _ => rfl) (by decide) (by decide) (by decide) (Nat.le_of_ble_eq_true rfl) (Nat.le_of_ble_eq_true rfl) dX0_init_7 (fun q_1 cA_2 H_3 hK hP hD hS => ?_)
  have hK : va_K (dC, dI) vwCl [(cA_2, .int)] s := hK
  have hP : va_P (dC, dI) vwCl [(h0, .inr (0, [.null, .null, .null, .null, .int 0, .int 0])), (q_1, .inl (cA_2, 80, .inl (fun _ => 0)))] H_3 := hP
  have hD : va_D A [(h0, .inr (0, [.null, .null, .null, .null, .int 0, .int 0])), (q_1, .inl (cA_2, 80, .inl (fun _ => 0)))] := hD
  refine va_putF (D := (dC, dI)) (ci := 0) (v := .ref q_1) (ty := .array .int) (C := RX0) (T := TX0) (N := 6) hx hb hts hiX0 tyX0 tyX0_ok nmX0 hown hK hP hD hS 0 rfl rfl 0 (by decide) w__fieldLink_RX0_9_ShellHeap_Book_sort_I_ (fun _ h9 => h9) rfl hin rfl (by decide +kernel) rfl rfl (Nat.le_of_ble_eq_true rfl) dX0_init_9 (fun H_4 locs hP hD hS => ?_)
  have hP : va_P (dC, dI) vwCl [(h0, .inr (0, [.ref q_1, .null, .null, .null, .int 0, .int 0])), (q_1, .inl (cA_2, 80, .inl (fun _ => 0)))] H_4 := hP
  have hD : va_D A [(h0, .inr (0, [.ref q_1, .null, .null, .null, .int 0, .int 0])), (q_1, .inl (cA_2, 80, .inl (fun _ => 0)))] := hD
  refine lv_aload_n hx hb dX0_init_12 rfl (lv_at hl 0 rfl) ?_
  refine lv_bipush (v := 80) hx hb dX0_init_13 (by decide) ?_
  refine va_newa (ty := .int) (N' := 80) (a0 := (80, .inl (fun _ => 0))) hx hb w__arrayClass_int rfl hK hP hD hS hA (fun _ => rfl) (by decide) (by decide) (by decide) (Nat.le_of_ble_eq_true rfl) (Nat.le_of_ble_eq_true rfl) dX0_init_15 (fun q_5 cA_6 H_7 hK hP hD hS => ?_)
  have hK : va_K (dC, dI) vwCl [(cA_2, .int), (cA_6, .int)] s := hK
  have hP : va_P (dC, dI) vwCl [(h0, .inr (0, [.ref q_1, .null, .null, .null, .int 0, .int 0])), (q_1, .inl (cA_2, 80, .inl (fun _ => 0))), (q_5, .inl (cA_6, 80, .inl (fun _ => 0)))] H_7 := hP
  have hD : va_D A [(h0, .inr (0, [.ref q_1, .null, .null, .null, .int 0, .int 0])), (q_1, .inl (cA_2, 80, .inl (fun _ => 0))), (q_5, .inl (cA_6, 80, .inl (fun _ => 0)))] := hD
  refine va_putF (D := (dC, dI)) (ci := 0) (v := .ref q_5) (ty := .array .int) (C := RX0) (T := TX0) (N := 6) hx hb hts hiX0 tyX0 tyX0_ok nmX0 hown hK hP hD hS 0 rfl rfl 1 (by decide) w__fieldLink_RX0_15_ShellHeap_Book_a_I_ (fun _ h9 => h9) rfl hin rfl (by decide +kernel) rfl rfl (Nat.le_of_ble_eq_true rfl) dX0_init_17 (fun H_8 locs hP hD hS => ?_)
  have hP : va_P (dC, dI) vwCl [(h0, .inr (0, [.ref q_1, .ref q_5, .null, .null, .int 0, .int 0])), (q_1, .inl (cA_2, 80, .inl (fun _ => 0))), (q_5, .inl (cA_6, 80, .inl (fun _ => 0)))] H_8 := hP
  have hD : va_D A [(h0, .inr (0, [.ref q_1, .ref q_5, .null, .null, .int 0, .int 0])), (q_1, .inl (cA_2, 80, .inl (fun _ => 0))), (q_5, .inl (cA_6, 80, .inl (fun _ => 0)))] := hD
  refine lv_aload_n hx hb dX0_init_20 rfl (lv_at hl 0 rfl) ?_
  refine lv_bipush (v := 80) hx hb dX0_init_21 (by decide) ?_
  refine va_newa (ty := .int) (N' := 80) (a0 := (80, .inl (fun _ => 0))) hx hb w__arrayClass_int rfl hK hP hD hS hA (fun _ => rfl) (by decide) (by decide) (by decide) (Nat.le_of_ble_eq_true rfl) (Nat.le_of_ble_eq_true rfl) dX0_init_23 (fun q_9 cA_10 H_11 hK hP hD hS => ?_)
  have hK : va_K (dC, dI) vwCl [(cA_2, .int), (cA_6, .int), (cA_10, .int)] s := hK
  have hP : va_P (dC, dI) vwCl [(h0, .inr (0, [.ref q_1, .ref q_5, .null, .null, .int 0, .int 0])), (q_1, .inl (cA_2, 80, .inl (fun _ => 0))), (q_5, .inl (cA_6, 80, .inl (fun _ => 0))), (q_9, .inl (cA_10, 80, .inl (fun _ => 0)))] H_11 := hP
  have hD : va_D A [(h0, .inr (0, [.ref q_1, .ref q_5, .null, .null, .int 0, .int 0])), (q_1, .inl (cA_2, 80, .inl (fun _ => 0))), (q_5, .inl (cA_6, 80, .inl (fun _ => 0))), (q_9, .inl (cA_10, 80, .inl (fun _ => 0)))] := hD
  refine va_putF (D := (dC, dI)) (ci := 0) (v := .ref q_9) (ty := .array .int) (C := RX0) (T := TX0) (N := 6) hx hb hts hiX0 tyX0 tyX0_ok nmX0 hown hK hP hD hS 0 rfl rfl 2 (by decide) w__fieldLink_RX0_18_ShellHeap_Book_b_I_ (fun _ h9 => h9) rfl hin rfl (by decide +kernel) rfl rfl (Nat.le_of_ble_eq_true rfl) dX0_init_25 (fun H_12 locs hP hD hS => ?_)
  have hP : va_P (dC, dI) vwCl [(h0, .inr (0, [.ref q_1, .ref q_5, .ref q_9, .null, .int 0, .int 0])), (q_1, .inl (cA_2, 80, .inl (fun _ => 0))), (q_5, .inl (cA_6, 80, .inl (fun _ => 0))), (q_9, .inl (cA_10, 80, .inl (fun _ => 0)))] H_12 := hP
  have hD : va_D A [(h0, .inr (0, [.ref q_1, .ref q_5, .ref q_9, .null, .int 0, .int 0])), (q_1, .inl (cA_2, 80, .inl (fun _ => 0))), (q_5, .inl (cA_6, 80, .inl (fun _ => 0))), (q_9, .inl (cA_10, 80, .inl (fun _ => 0)))] := hD
  refine lv_aload_n hx hb dX0_init_28 rfl (lv_at hl 0 rfl) ?_
  refine lv_bipush (v := 80) hx hb dX0_init_29 (by decide) ?_
  refine va_newa (ty := .int) (N' := 80) (a0 := (80, .inl (fun _ => 0))) hx hb w__arrayClass_int rfl hK hP hD hS hA (fun _ => rfl) (by decide) (by decide) (by decide) (Nat.le_of_ble_eq_true rfl) (Nat.le_of_ble_eq_true rfl) dX0_init_31 (fun q_13 cA_14 H_15 hK hP hD hS => ?_)
  have hK : va_K (dC, dI) vwCl [(cA_2, .int), (cA_6, .int), (cA_10, .int), (cA_14, .int)] s := hK
  have hP : va_P (dC, dI) vwCl [(h0, .inr (0, [.ref q_1, .ref q_5, .ref q_9, .null, .int 0, .int 0])), (q_1, .inl (cA_2, 80, .inl (fun _ => 0))), (q_5, .inl (cA_6, 80, .inl (fun _ => 0))), (q_9, .inl (cA_10, 80, .inl (fun _ => 0))), (q_13, .inl (cA_14, 80, .inl (fun _ => 0)))] H_15 := hP
  have hD : va_D A [(h0, .inr (0, [.ref q_1, .ref q_5, .ref q_9, .null, .int 0, .int 0])), (q_1, .inl (cA_2, 80, .inl (fun _ => 0))), (q_5, .inl (cA_6, 80, .inl (fun _ => 0))), (q_9, .inl (cA_10, 80, .inl (fun _ => 0))), (q_13, .inl (cA_14, 80, .inl (fun _ => 0)))] := hD
  refine va_putF (D := (dC, dI)) (ci := 0) (v := .ref q_13) (ty := .array .int) (C := RX0) (T := TX0) (N := 6) hx hb hts hiX0 tyX0 tyX0_ok nmX0 hown hK hP hD hS 0 rfl rfl 3 (by decide) w__fieldLink_RX0_21_ShellHeap_Book_c_I_ (fun _ h9 => h9) rfl hin rfl (by decide +kernel) rfl rfl (Nat.le_of_ble_eq_true rfl) dX0_init_33 (fun H_16 locs hP hD hS => ?_)
  have hP : va_P (dC, dI) vwCl [(h0, .inr (0, [.ref q_1, .ref q_5, .ref q_9, .ref q_13, .int 0, .int 0])), (q_1, .inl (cA_2, 80, .inl (fun _ => 0))), (q_5, .inl (cA_6, 80, .inl (fun _ => 0))), (q_9, .inl (cA_10, 80, .inl (fun _ => 0))), (q_13, .inl (cA_14, 80, .inl (fun _ => 0)))] H_16 := hP
  have hD : va_D A [(h0, .inr (0, [.ref q_1, .ref q_5, .ref q_9, .ref q_13, .int 0, .int 0])), (q_1, .inl (cA_2, 80, .inl (fun _ => 0))), (q_5, .inl (cA_6, 80, .inl (fun _ => 0))), (q_9, .inl (cA_10, 80, .inl (fun _ => 0))), (q_13, .inl (cA_14, 80, .inl (fun _ => 0)))] := hD
  refine lv_aload_n hx hb dX0_init_36 rfl (lv_at hl 0 rfl) ?_
  refine lv_iconst (v := 0) hx hb dX0_init_37 (by decide) ?_
  refine va_put (D := (dC, dI)) (ci := 0) (v := .int 0) (ty := .int) (C := RX0) (T := TX0) (N := 6) hx hb hts hiX0 tyX0 tyX0_ok nmX0 hown hK hP hD hS 0 rfl rfl 4 (by decide) w__fieldLink_RX0_24_ShellHeap_Book_notes_I_ (fun _ h9 => h9) rfl (by decide +kernel) rfl rfl (Nat.le_of_ble_eq_true rfl) dX0_init_38 (fun H_17 locs hP hD hS => ?_)
  have hP : va_P (dC, dI) vwCl [(h0, .inr (0, [.ref q_1, .ref q_5, .ref q_9, .ref q_13, .int 0, .int 0])), (q_1, .inl (cA_2, 80, .inl (fun _ => 0))), (q_5, .inl (cA_6, 80, .inl (fun _ => 0))), (q_9, .inl (cA_10, 80, .inl (fun _ => 0))), (q_13, .inl (cA_14, 80, .inl (fun _ => 0)))] H_17 := hP
  have hD : va_D A [(h0, .inr (0, [.ref q_1, .ref q_5, .ref q_9, .ref q_13, .int 0, .int 0])), (q_1, .inl (cA_2, 80, .inl (fun _ => 0))), (q_5, .inl (cA_6, 80, .inl (fun _ => 0))), (q_9, .inl (cA_10, 80, .inl (fun _ => 0))), (q_13, .inl (cA_14, 80, .inl (fun _ => 0)))] := hD
  refine lv_aload_n hx hb dX0_init_41 rfl (lv_at hl 0 rfl) ?_
  refine lv_iconst (v := 0) hx hb dX0_init_42 (by decide) ?_
  refine va_put (D := (dC, dI)) (ci := 0) (v := .int 0) (ty := .int) (C := RX0) (T := TX0) (N := 6) hx hb hts hiX0 tyX0 tyX0_ok nmX0 hown hK hP hD hS 0 rfl rfl 5 (by decide) w__fieldLink_RX0_28_ShellHeap_Book_layers_I_ (fun _ h9 => h9) rfl (by decide +kernel) rfl rfl (Nat.le_of_ble_eq_true rfl) dX0_init_43 (fun H_18 locs hP hD hS => ?_)
  have hP : va_P (dC, dI) vwCl [(h0, .inr (0, [.ref q_1, .ref q_5, .ref q_9, .ref q_13, .int 0, .int 0])), (q_1, .inl (cA_2, 80, .inl (fun _ => 0))), (q_5, .inl (cA_6, 80, .inl (fun _ => 0))), (q_9, .inl (cA_10, 80, .inl (fun _ => 0))), (q_13, .inl (cA_14, 80, .inl (fun _ => 0)))] H_18 := hP
  have hD : va_D A [(h0, .inr (0, [.ref q_1, .ref q_5, .ref q_9, .ref q_13, .int 0, .int 0])), (q_1, .inl (cA_2, 80, .inl (fun _ => 0))), (q_5, .inl (cA_6, 80, .inl (fun _ => 0))), (q_9, .inl (cA_10, 80, .inl (fun _ => 0))), (q_13, .inl (cA_14, 80, .inl (fun _ => 0)))] := hD
  have hP9 := hP.sub (ws' := [(h0, .inr (0, [.ref q_1, .ref q_5, .ref q_9, .ref q_13, .int 0, .int 0]))]) [0] rfl
  have hD9 := hD.sub (ws' := [(h0, .inr (0, [.ref q_1, .ref q_5, .ref q_9, .ref q_13, .int 0, .int 0]))]) [0] (by decide) rfl
  have hK9 := hK.sub (tys' := []) [] rfl
  refine W.widen (k := 4) (n := 320) (Nat.le_of_ble_eq_true rfl) (Nat.le_of_ble_eq_true rfl) ?_
  exact W.vret hx hb hr (fun t ht hW => ⟨⟨(), rfl, trivial, ⟨q_1, q_5, q_9, q_13, by rw [ht]; exact hP9, va_K.moved hW.alike hK9, hD9⟩⟩, hS.F ht⟩) hS.2.2 dX0_init_46
def u_c_X4_init : List Cond := .code yX4_init cX4_init 2 none :: ([.methodLink RX4 3 objectInit, .instanceMethod objectInit, .code objectInit ⟨#[0xb1]⟩ 1 none, .fieldLink RX4 9 "ShellHeap$Known" "notesSeen" "I", .fieldLink RX4 15 "ShellHeap$Known" "layersSeen" "I", .arrayClass .boolean, .fieldLink RX4 18 "ShellHeap$Known" "struck" "[Z", .arrayClass .int, .fieldLink RX4 22 "ShellHeap$Known" "later" "[I", .fieldLink RX4 26 "ShellHeap$Known" "ranks" "[I", .fieldLink RX4 29 "ShellHeap$Known" "bedOf" "[I", .fieldLink RX4 32 "ShellHeap$Known" "least" "[I", .fieldLink RX4 35 "ShellHeap$Known" "greatest" "[I", .fieldLink RX4 38 "ShellHeap$Known" "clash" "I", .fieldLink RX4 41 "ShellHeap$Known" "book" "LShellHeap$Book;"] ++ wsX40)
set_option maxHeartbeats 4000000 in
set_option maxRecDepth 100000 in
theorem c_X4_init (l : Launch) (dC : Nat → ClassId) (dI : Nat → Nat → Nat) (sz : Nat) (h0 : Nat) (h1 : Nat) : Met l yX4_init u_c_X4_init ({ frames := 1, cells := 6, slots := 140, locals := 12 }) (va_Pc [.ref h0, .ref h1] (z_C (dC, dI) vwCl [(h0, .inr (4, [.null, .int 0, .int 0, .null, .null, .null, .null, .null, .null, .int 0]))] [] sz)) (va_Qv (fun (_ : Unit) => True) (fun (_ : Unit) (t : State) => ∃ (q3 : Nat), ∃ (q4 : Nat), ∃ (q5 : Nat), ∃ (q6 : Nat), ∃ (q7 : Nat), ∃ (q8 : Nat), va_P (dC, dI) vwCl [(h0, .inr (4, [.ref h1, .int (-1), .int (-1), .ref q3, .ref q4, .ref q5, .ref q6, .ref q7, .ref q8, .int 0]))] t.heap ∧ va_K (dC, dI) vwCl [] t ∧ va_D (va_A [(h0, .inr (4, [.null, .int 0, .int 0, .null, .null, .null, .null, .null, .null, .int 0]))] sz) [(h0, .inr (4, [.ref h1, .int (-1), .int (-1), .ref q3, .ref q4, .ref q5, .ref q6, .ref q7, .ref q8, .int 0]))]) (va_A [(h0, .inr (4, [.null, .int 0, .int 0, .null, .null, .null, .null, .null, .null, .int 0]))] sz)) 6 140 (va_A [(h0, .inr (4, [.null, .int 0, .int 0, .null, .null, .null, .null, .null, .null, .int 0]))] sz) := by
  refine Met.ofW (cc := cX4_init) (maxL := 2) (ret := none) (by decide) rfl ?_
  intro p e s m args below meth c s₁ B hml hv
  obtain ⟨rfl, hsz, hP, hK, hD0⟩ := hv
  have hx := B.exec
  have hb := B.bytes
  have hr := B.returns
  have hts := atoms_spec (ws := u_c_X4_init) B.pre
  have hown : s.vm.findClass RX4 = some m.cls := findClass_of_methodNamed B.named
  have hlocks := B.notSynchronized
  have hin : meth.name = "<init>" := (name_of_methodNamed B.named B.method).1
  subst hsz
  have hD := hD0.self (sz := s.heap.size)
  generalize hAe : va_A [(h0, .inr (4, [.null, .int 0, .int 0, .null, .null, .null, .null, .null, .null, .int 0]))] s.heap.size = A at hD ⊢
  have hA : ∀ q : Nat, s.heap.size ≤ q → A q := fun q h => by rw [← hAe]; exact Or.inr h
  have hS : va_S A s.heap s.heap [] := va_S.rf
  have hP : va_P (dC, dI) vwCl [(h0, .inr (4, [.null, .int 0, .int 0, .null, .null, .null, .null, .null, .null, .int 0]))] s.heap := hP
  have w__methodLink_RX4_3_objectInit := hts (.methodLink RX4 3 objectInit) (by decide +kernel)
  have w__instanceMethod_objectInit := hts (.instanceMethod objectInit) (by decide +kernel)
  have w__code_objectInit_0xb1_1_none := hts (.code objectInit ⟨#[0xb1]⟩ 1 none) (by decide +kernel)
  have w__fieldLink_RX4_9_ShellHeap_Known_notesSeen_I_ := hts (.fieldLink RX4 9 "ShellHeap$Known" "notesSeen" "I") (by decide +kernel)
  have hiX4 := show ∀ w ∈ u_ws RX4 TX4 10, w ∈ u_c_X4_init by decide +kernel
  have w__fieldLink_RX4_15_ShellHeap_Known_layersSeen_I_ := hts (.fieldLink RX4 15 "ShellHeap$Known" "layersSeen" "I") (by decide +kernel)
  have w__arrayClass_boolean := hts (.arrayClass .boolean) (by decide +kernel)
  have w__fieldLink_RX4_18_ShellHeap_Known_struck_Z_ := hts (.fieldLink RX4 18 "ShellHeap$Known" "struck" "[Z") (by decide +kernel)
  have w__arrayClass_int := hts (.arrayClass .int) (by decide +kernel)
  have w__fieldLink_RX4_22_ShellHeap_Known_later_I_ := hts (.fieldLink RX4 22 "ShellHeap$Known" "later" "[I") (by decide +kernel)
  have w__fieldLink_RX4_26_ShellHeap_Known_ranks_I_ := hts (.fieldLink RX4 26 "ShellHeap$Known" "ranks" "[I") (by decide +kernel)
  have w__fieldLink_RX4_29_ShellHeap_Known_bedOf_I_ := hts (.fieldLink RX4 29 "ShellHeap$Known" "bedOf" "[I") (by decide +kernel)
  have w__fieldLink_RX4_32_ShellHeap_Known_least_I_ := hts (.fieldLink RX4 32 "ShellHeap$Known" "least" "[I") (by decide +kernel)
  have w__fieldLink_RX4_35_ShellHeap_Known_greatest_I_ := hts (.fieldLink RX4 35 "ShellHeap$Known" "greatest" "[I") (by decide +kernel)
  have w__fieldLink_RX4_38_ShellHeap_Known_clash_I_ := hts (.fieldLink RX4 38 "ShellHeap$Known" "clash" "I") (by decide +kernel)
  have w__fieldLink_RX4_41_ShellHeap_Known_book_LShellHeap_Book_ := hts (.fieldLink RX4 41 "ShellHeap$Known" "book" "LShellHeap$Book;") (by decide +kernel)
  have hl := lv_entry ([.ref h0, .ref h1]) (n := 2) (Nat.le_of_ble_eq_true rfl)
  rw [lg_entry_eq]
  generalize (lg_sl ([.ref h0, .ref h1]) ++ List.replicate (2 - (lg_sl ([.ref h0, .ref h1])).length) Slot.unset).toArray = ls at hl ⊢
  have hl : lv_has ls 2 [(0, .ref h0), (1, .ref h1)] := hl
  refine lv_aload_n hx hb dX4_init_0 rfl (lv_at hl 0 rfl) ?_
  refine W.objInit hx hb hown w__methodLink_RX4_3_objectInit w__instanceMethod_objectInit w__code_objectInit_0xb1_1_none rfl (by rw [hml]; exact hl.1) rfl dX4_init_1 (Nat.le_of_ble_eq_true rfl) (Nat.le_of_ble_eq_true rfl) ?_
  refine W.eq (g2 := F0 m 4 ls []) rfl ?_
  refine lv_aload_n hx hb dX4_init_4 rfl (lv_at hl 0 rfl) ?_
  refine lv_iconst (v := (-1)) hx hb dX4_init_5 (by decide) ?_
  refine va_put (D := (dC, dI)) (ci := 4) (v := .int (-1)) (ty := .int) (C := RX4) (T := TX4) (N := 10) hx hb hts hiX4 tyX4 tyX4_ok nmX4 hown hK hP hD hS 0 rfl rfl 1 (by decide) w__fieldLink_RX4_9_ShellHeap_Known_notesSeen_I_ (fun _ h9 => h9) rfl (by decide +kernel) rfl rfl (Nat.le_of_ble_eq_true rfl) dX4_init_6 (fun H_1 locs hP hD hS => ?_)
  have hP : va_P (dC, dI) vwCl [(h0, .inr (4, [.null, .int (-1), .int 0, .null, .null, .null, .null, .null, .null, .int 0]))] H_1 := hP
  have hD : va_D A [(h0, .inr (4, [.null, .int (-1), .int 0, .null, .null, .null, .null, .null, .null, .int 0]))] := hD
  refine lv_aload_n hx hb dX4_init_9 rfl (lv_at hl 0 rfl) ?_
  refine lv_iconst (v := (-1)) hx hb dX4_init_10 (by decide) ?_
  refine va_put (D := (dC, dI)) (ci := 4) (v := .int (-1)) (ty := .int) (C := RX4) (T := TX4) (N := 10) hx hb hts hiX4 tyX4 tyX4_ok nmX4 hown hK hP hD hS 0 rfl rfl 2 (by decide) w__fieldLink_RX4_15_ShellHeap_Known_layersSeen_I_ (fun _ h9 => h9) rfl (by decide +kernel) rfl rfl (Nat.le_of_ble_eq_true rfl) dX4_init_11 (fun H_2 locs hP hD hS => ?_)
  have hP : va_P (dC, dI) vwCl [(h0, .inr (4, [.null, .int (-1), .int (-1), .null, .null, .null, .null, .null, .null, .int 0]))] H_2 := hP
  have hD : va_D A [(h0, .inr (4, [.null, .int (-1), .int (-1), .null, .null, .null, .null, .null, .null, .int 0]))] := hD
  refine lv_aload_n hx hb dX4_init_14 rfl (lv_at hl 0 rfl) ?_
  refine lv_bipush (v := 80) hx hb dX4_init_15 (by decide) ?_
  refine va_newa (ty := .boolean) (N' := 80) (a0 := (80, .inl (fun _ => 0))) hx hb w__arrayClass_boolean rfl hK hP hD hS hA (fun _ => rfl) (by decide) (by decide) (by decide) (Nat.le_of_ble_eq_true rfl) (Nat.le_of_ble_eq_true rfl) dX4_init_17 (fun q_3 cA_4 H_5 hK hP hD hS => ?_)
  have hK : va_K (dC, dI) vwCl [(cA_4, .boolean)] s := hK
  have hP : va_P (dC, dI) vwCl [(h0, .inr (4, [.null, .int (-1), .int (-1), .null, .null, .null, .null, .null, .null, .int 0])), (q_3, .inl (cA_4, 80, .inl (fun _ => 0)))] H_5 := hP
  have hD : va_D A [(h0, .inr (4, [.null, .int (-1), .int (-1), .null, .null, .null, .null, .null, .null, .int 0])), (q_3, .inl (cA_4, 80, .inl (fun _ => 0)))] := hD
  refine va_putF (D := (dC, dI)) (ci := 4) (v := .ref q_3) (ty := .array .boolean) (C := RX4) (T := TX4) (N := 10) hx hb hts hiX4 tyX4 tyX4_ok nmX4 hown hK hP hD hS 0 rfl rfl 3 (by decide) w__fieldLink_RX4_18_ShellHeap_Known_struck_Z_ (fun _ h9 => h9) rfl hin rfl (by decide +kernel) rfl rfl (Nat.le_of_ble_eq_true rfl) dX4_init_19 (fun H_6 locs hP hD hS => ?_)
  have hP : va_P (dC, dI) vwCl [(h0, .inr (4, [.null, .int (-1), .int (-1), .ref q_3, .null, .null, .null, .null, .null, .int 0])), (q_3, .inl (cA_4, 80, .inl (fun _ => 0)))] H_6 := hP
  have hD : va_D A [(h0, .inr (4, [.null, .int (-1), .int (-1), .ref q_3, .null, .null, .null, .null, .null, .int 0])), (q_3, .inl (cA_4, 80, .inl (fun _ => 0)))] := hD
  refine lv_aload_n hx hb dX4_init_22 rfl (lv_at hl 0 rfl) ?_
  refine lv_bipush (v := 12) hx hb dX4_init_23 (by decide) ?_
  refine va_newa (ty := .int) (N' := 12) (a0 := (12, .inl (fun _ => 0))) hx hb w__arrayClass_int rfl hK hP hD hS hA (fun _ => rfl) (by decide) (by decide) (by decide) (Nat.le_of_ble_eq_true rfl) (Nat.le_of_ble_eq_true rfl) dX4_init_25 (fun q_7 cA_8 H_9 hK hP hD hS => ?_)
  have hK : va_K (dC, dI) vwCl [(cA_4, .boolean), (cA_8, .int)] s := hK
  have hP : va_P (dC, dI) vwCl [(h0, .inr (4, [.null, .int (-1), .int (-1), .ref q_3, .null, .null, .null, .null, .null, .int 0])), (q_3, .inl (cA_4, 80, .inl (fun _ => 0))), (q_7, .inl (cA_8, 12, .inl (fun _ => 0)))] H_9 := hP
  have hD : va_D A [(h0, .inr (4, [.null, .int (-1), .int (-1), .ref q_3, .null, .null, .null, .null, .null, .int 0])), (q_3, .inl (cA_4, 80, .inl (fun _ => 0))), (q_7, .inl (cA_8, 12, .inl (fun _ => 0)))] := hD
  refine va_putF (D := (dC, dI)) (ci := 4) (v := .ref q_7) (ty := .array .int) (C := RX4) (T := TX4) (N := 10) hx hb hts hiX4 tyX4 tyX4_ok nmX4 hown hK hP hD hS 0 rfl rfl 4 (by decide) w__fieldLink_RX4_22_ShellHeap_Known_later_I_ (fun _ h9 => h9) rfl hin rfl (by decide +kernel) rfl rfl (Nat.le_of_ble_eq_true rfl) dX4_init_27 (fun H_10 locs hP hD hS => ?_)
  have hP : va_P (dC, dI) vwCl [(h0, .inr (4, [.null, .int (-1), .int (-1), .ref q_3, .ref q_7, .null, .null, .null, .null, .int 0])), (q_3, .inl (cA_4, 80, .inl (fun _ => 0))), (q_7, .inl (cA_8, 12, .inl (fun _ => 0)))] H_10 := hP
  have hD : va_D A [(h0, .inr (4, [.null, .int (-1), .int (-1), .ref q_3, .ref q_7, .null, .null, .null, .null, .int 0])), (q_3, .inl (cA_4, 80, .inl (fun _ => 0))), (q_7, .inl (cA_8, 12, .inl (fun _ => 0)))] := hD
  refine lv_aload_n hx hb dX4_init_30 rfl (lv_at hl 0 rfl) ?_
  refine lv_bipush (v := 12) hx hb dX4_init_31 (by decide) ?_
  refine va_newa (ty := .int) (N' := 12) (a0 := (12, .inl (fun _ => 0))) hx hb w__arrayClass_int rfl hK hP hD hS hA (fun _ => rfl) (by decide) (by decide) (by decide) (Nat.le_of_ble_eq_true rfl) (Nat.le_of_ble_eq_true rfl) dX4_init_33 (fun q_11 cA_12 H_13 hK hP hD hS => ?_)
  have hK : va_K (dC, dI) vwCl [(cA_4, .boolean), (cA_8, .int), (cA_12, .int)] s := hK
  have hP : va_P (dC, dI) vwCl [(h0, .inr (4, [.null, .int (-1), .int (-1), .ref q_3, .ref q_7, .null, .null, .null, .null, .int 0])), (q_3, .inl (cA_4, 80, .inl (fun _ => 0))), (q_7, .inl (cA_8, 12, .inl (fun _ => 0))), (q_11, .inl (cA_12, 12, .inl (fun _ => 0)))] H_13 := hP
  have hD : va_D A [(h0, .inr (4, [.null, .int (-1), .int (-1), .ref q_3, .ref q_7, .null, .null, .null, .null, .int 0])), (q_3, .inl (cA_4, 80, .inl (fun _ => 0))), (q_7, .inl (cA_8, 12, .inl (fun _ => 0))), (q_11, .inl (cA_12, 12, .inl (fun _ => 0)))] := hD
  refine va_putF (D := (dC, dI)) (ci := 4) (v := .ref q_11) (ty := .array .int) (C := RX4) (T := TX4) (N := 10) hx hb hts hiX4 tyX4 tyX4_ok nmX4 hown hK hP hD hS 0 rfl rfl 5 (by decide) w__fieldLink_RX4_26_ShellHeap_Known_ranks_I_ (fun _ h9 => h9) rfl hin rfl (by decide +kernel) rfl rfl (Nat.le_of_ble_eq_true rfl) dX4_init_35 (fun H_14 locs hP hD hS => ?_)
  have hP : va_P (dC, dI) vwCl [(h0, .inr (4, [.null, .int (-1), .int (-1), .ref q_3, .ref q_7, .ref q_11, .null, .null, .null, .int 0])), (q_3, .inl (cA_4, 80, .inl (fun _ => 0))), (q_7, .inl (cA_8, 12, .inl (fun _ => 0))), (q_11, .inl (cA_12, 12, .inl (fun _ => 0)))] H_14 := hP
  have hD : va_D A [(h0, .inr (4, [.null, .int (-1), .int (-1), .ref q_3, .ref q_7, .ref q_11, .null, .null, .null, .int 0])), (q_3, .inl (cA_4, 80, .inl (fun _ => 0))), (q_7, .inl (cA_8, 12, .inl (fun _ => 0))), (q_11, .inl (cA_12, 12, .inl (fun _ => 0)))] := hD
  refine lv_aload_n hx hb dX4_init_38 rfl (lv_at hl 0 rfl) ?_
  refine lv_bipush (v := 12) hx hb dX4_init_39 (by decide) ?_
  refine va_newa (ty := .int) (N' := 12) (a0 := (12, .inl (fun _ => 0))) hx hb w__arrayClass_int rfl hK hP hD hS hA (fun _ => rfl) (by decide) (by decide) (by decide) (Nat.le_of_ble_eq_true rfl) (Nat.le_of_ble_eq_true rfl) dX4_init_41 (fun q_15 cA_16 H_17 hK hP hD hS => ?_)
  have hK : va_K (dC, dI) vwCl [(cA_4, .boolean), (cA_8, .int), (cA_12, .int), (cA_16, .int)] s := hK
  have hP : va_P (dC, dI) vwCl [(h0, .inr (4, [.null, .int (-1), .int (-1), .ref q_3, .ref q_7, .ref q_11, .null, .null, .null, .int 0])), (q_3, .inl (cA_4, 80, .inl (fun _ => 0))), (q_7, .inl (cA_8, 12, .inl (fun _ => 0))), (q_11, .inl (cA_12, 12, .inl (fun _ => 0))), (q_15, .inl (cA_16, 12, .inl (fun _ => 0)))] H_17 := hP
  have hD : va_D A [(h0, .inr (4, [.null, .int (-1), .int (-1), .ref q_3, .ref q_7, .ref q_11, .null, .null, .null, .int 0])), (q_3, .inl (cA_4, 80, .inl (fun _ => 0))), (q_7, .inl (cA_8, 12, .inl (fun _ => 0))), (q_11, .inl (cA_12, 12, .inl (fun _ => 0))), (q_15, .inl (cA_16, 12, .inl (fun _ => 0)))] := hD
  refine va_putF (D := (dC, dI)) (ci := 4) (v := .ref q_15) (ty := .array .int) (C := RX4) (T := TX4) (N := 10) hx hb hts hiX4 tyX4 tyX4_ok nmX4 hown hK hP hD hS 0 rfl rfl 6 (by decide) w__fieldLink_RX4_29_ShellHeap_Known_bedOf_I_ (fun _ h9 => h9) rfl hin rfl (by decide +kernel) rfl rfl (Nat.le_of_ble_eq_true rfl) dX4_init_43 (fun H_18 locs hP hD hS => ?_)
  have hP : va_P (dC, dI) vwCl [(h0, .inr (4, [.null, .int (-1), .int (-1), .ref q_3, .ref q_7, .ref q_11, .ref q_15, .null, .null, .int 0])), (q_3, .inl (cA_4, 80, .inl (fun _ => 0))), (q_7, .inl (cA_8, 12, .inl (fun _ => 0))), (q_11, .inl (cA_12, 12, .inl (fun _ => 0))), (q_15, .inl (cA_16, 12, .inl (fun _ => 0)))] H_18 := hP
  have hD : va_D A [(h0, .inr (4, [.null, .int (-1), .int (-1), .ref q_3, .ref q_7, .ref q_11, .ref q_15, .null, .null, .int 0])), (q_3, .inl (cA_4, 80, .inl (fun _ => 0))), (q_7, .inl (cA_8, 12, .inl (fun _ => 0))), (q_11, .inl (cA_12, 12, .inl (fun _ => 0))), (q_15, .inl (cA_16, 12, .inl (fun _ => 0)))] := hD
  refine lv_aload_n hx hb dX4_init_46 rfl (lv_at hl 0 rfl) ?_
  refine lv_bipush (v := 12) hx hb dX4_init_47 (by decide) ?_
  refine va_newa (ty := .int) (N' := 12) (a0 := (12, .inl (fun _ => 0))) hx hb w__arrayClass_int rfl hK hP hD hS hA (fun _ => rfl) (by decide) (by decide) (by decide) (Nat.le_of_ble_eq_true rfl) (Nat.le_of_ble_eq_true rfl) dX4_init_49 (fun q_19 cA_20 H_21 hK hP hD hS => ?_)
  have hK : va_K (dC, dI) vwCl [(cA_4, .boolean), (cA_8, .int), (cA_12, .int), (cA_16, .int), (cA_20, .int)] s := hK
  have hP : va_P (dC, dI) vwCl [(h0, .inr (4, [.null, .int (-1), .int (-1), .ref q_3, .ref q_7, .ref q_11, .ref q_15, .null, .null, .int 0])), (q_3, .inl (cA_4, 80, .inl (fun _ => 0))), (q_7, .inl (cA_8, 12, .inl (fun _ => 0))), (q_11, .inl (cA_12, 12, .inl (fun _ => 0))), (q_15, .inl (cA_16, 12, .inl (fun _ => 0))), (q_19, .inl (cA_20, 12, .inl (fun _ => 0)))] H_21 := hP
  have hD : va_D A [(h0, .inr (4, [.null, .int (-1), .int (-1), .ref q_3, .ref q_7, .ref q_11, .ref q_15, .null, .null, .int 0])), (q_3, .inl (cA_4, 80, .inl (fun _ => 0))), (q_7, .inl (cA_8, 12, .inl (fun _ => 0))), (q_11, .inl (cA_12, 12, .inl (fun _ => 0))), (q_15, .inl (cA_16, 12, .inl (fun _ => 0))), (q_19, .inl (cA_20, 12, .inl (fun _ => 0)))] := hD
  refine va_putF (D := (dC, dI)) (ci := 4) (v := .ref q_19) (ty := .array .int) (C := RX4) (T := TX4) (N := 10) hx hb hts hiX4 tyX4 tyX4_ok nmX4 hown hK hP hD hS 0 rfl rfl 7 (by decide) w__fieldLink_RX4_32_ShellHeap_Known_least_I_ (fun _ h9 => h9) rfl hin rfl (by decide +kernel) rfl rfl (Nat.le_of_ble_eq_true rfl) dX4_init_51 (fun H_22 locs hP hD hS => ?_)
  have hP : va_P (dC, dI) vwCl [(h0, .inr (4, [.null, .int (-1), .int (-1), .ref q_3, .ref q_7, .ref q_11, .ref q_15, .ref q_19, .null, .int 0])), (q_3, .inl (cA_4, 80, .inl (fun _ => 0))), (q_7, .inl (cA_8, 12, .inl (fun _ => 0))), (q_11, .inl (cA_12, 12, .inl (fun _ => 0))), (q_15, .inl (cA_16, 12, .inl (fun _ => 0))), (q_19, .inl (cA_20, 12, .inl (fun _ => 0)))] H_22 := hP
  have hD : va_D A [(h0, .inr (4, [.null, .int (-1), .int (-1), .ref q_3, .ref q_7, .ref q_11, .ref q_15, .ref q_19, .null, .int 0])), (q_3, .inl (cA_4, 80, .inl (fun _ => 0))), (q_7, .inl (cA_8, 12, .inl (fun _ => 0))), (q_11, .inl (cA_12, 12, .inl (fun _ => 0))), (q_15, .inl (cA_16, 12, .inl (fun _ => 0))), (q_19, .inl (cA_20, 12, .inl (fun _ => 0)))] := hD
  refine lv_aload_n hx hb dX4_init_54 rfl (lv_at hl 0 rfl) ?_
  refine lv_bipush (v := 12) hx hb dX4_init_55 (by decide) ?_
  refine va_newa (ty := .int) (N' := 12) (a0 := (12, .inl (fun _ => 0))) hx hb w__arrayClass_int rfl hK hP hD hS hA (fun _ => rfl) (by decide) (by decide) (by decide) (Nat.le_of_ble_eq_true rfl) (Nat.le_of_ble_eq_true rfl) dX4_init_57 (fun q_23 cA_24 H_25 hK hP hD hS => ?_)
  have hK : va_K (dC, dI) vwCl [(cA_4, .boolean), (cA_8, .int), (cA_12, .int), (cA_16, .int), (cA_20, .int), (cA_24, .int)] s := hK
  have hP : va_P (dC, dI) vwCl [(h0, .inr (4, [.null, .int (-1), .int (-1), .ref q_3, .ref q_7, .ref q_11, .ref q_15, .ref q_19, .null, .int 0])), (q_3, .inl (cA_4, 80, .inl (fun _ => 0))), (q_7, .inl (cA_8, 12, .inl (fun _ => 0))), (q_11, .inl (cA_12, 12, .inl (fun _ => 0))), (q_15, .inl (cA_16, 12, .inl (fun _ => 0))), (q_19, .inl (cA_20, 12, .inl (fun _ => 0))), (q_23, .inl (cA_24, 12, .inl (fun _ => 0)))] H_25 := hP
  have hD : va_D A [(h0, .inr (4, [.null, .int (-1), .int (-1), .ref q_3, .ref q_7, .ref q_11, .ref q_15, .ref q_19, .null, .int 0])), (q_3, .inl (cA_4, 80, .inl (fun _ => 0))), (q_7, .inl (cA_8, 12, .inl (fun _ => 0))), (q_11, .inl (cA_12, 12, .inl (fun _ => 0))), (q_15, .inl (cA_16, 12, .inl (fun _ => 0))), (q_19, .inl (cA_20, 12, .inl (fun _ => 0))), (q_23, .inl (cA_24, 12, .inl (fun _ => 0)))] := hD
  refine va_putF (D := (dC, dI)) (ci := 4) (v := .ref q_23) (ty := .array .int) (C := RX4) (T := TX4) (N := 10) hx hb hts hiX4 tyX4 tyX4_ok nmX4 hown hK hP hD hS 0 rfl rfl 8 (by decide) w__fieldLink_RX4_35_ShellHeap_Known_greatest_I_ (fun _ h9 => h9) rfl hin rfl (by decide +kernel) rfl rfl (Nat.le_of_ble_eq_true rfl) dX4_init_59 (fun H_26 locs hP hD hS => ?_)
  have hP : va_P (dC, dI) vwCl [(h0, .inr (4, [.null, .int (-1), .int (-1), .ref q_3, .ref q_7, .ref q_11, .ref q_15, .ref q_19, .ref q_23, .int 0])), (q_3, .inl (cA_4, 80, .inl (fun _ => 0))), (q_7, .inl (cA_8, 12, .inl (fun _ => 0))), (q_11, .inl (cA_12, 12, .inl (fun _ => 0))), (q_15, .inl (cA_16, 12, .inl (fun _ => 0))), (q_19, .inl (cA_20, 12, .inl (fun _ => 0))), (q_23, .inl (cA_24, 12, .inl (fun _ => 0)))] H_26 := hP
  have hD : va_D A [(h0, .inr (4, [.null, .int (-1), .int (-1), .ref q_3, .ref q_7, .ref q_11, .ref q_15, .ref q_19, .ref q_23, .int 0])), (q_3, .inl (cA_4, 80, .inl (fun _ => 0))), (q_7, .inl (cA_8, 12, .inl (fun _ => 0))), (q_11, .inl (cA_12, 12, .inl (fun _ => 0))), (q_15, .inl (cA_16, 12, .inl (fun _ => 0))), (q_19, .inl (cA_20, 12, .inl (fun _ => 0))), (q_23, .inl (cA_24, 12, .inl (fun _ => 0)))] := hD
  refine lv_aload_n hx hb dX4_init_62 rfl (lv_at hl 0 rfl) ?_
  refine lv_iconst (v := 0) hx hb dX4_init_63 (by decide) ?_
  refine va_put (D := (dC, dI)) (ci := 4) (v := .int 0) (ty := .int) (C := RX4) (T := TX4) (N := 10) hx hb hts hiX4 tyX4 tyX4_ok nmX4 hown hK hP hD hS 0 rfl rfl 9 (by decide) w__fieldLink_RX4_38_ShellHeap_Known_clash_I_ (fun _ h9 => h9) rfl (by decide +kernel) rfl rfl (Nat.le_of_ble_eq_true rfl) dX4_init_64 (fun H_27 locs hP hD hS => ?_)
  have hP : va_P (dC, dI) vwCl [(h0, .inr (4, [.null, .int (-1), .int (-1), .ref q_3, .ref q_7, .ref q_11, .ref q_15, .ref q_19, .ref q_23, .int 0])), (q_3, .inl (cA_4, 80, .inl (fun _ => 0))), (q_7, .inl (cA_8, 12, .inl (fun _ => 0))), (q_11, .inl (cA_12, 12, .inl (fun _ => 0))), (q_15, .inl (cA_16, 12, .inl (fun _ => 0))), (q_19, .inl (cA_20, 12, .inl (fun _ => 0))), (q_23, .inl (cA_24, 12, .inl (fun _ => 0)))] H_27 := hP
  have hD : va_D A [(h0, .inr (4, [.null, .int (-1), .int (-1), .ref q_3, .ref q_7, .ref q_11, .ref q_15, .ref q_19, .ref q_23, .int 0])), (q_3, .inl (cA_4, 80, .inl (fun _ => 0))), (q_7, .inl (cA_8, 12, .inl (fun _ => 0))), (q_11, .inl (cA_12, 12, .inl (fun _ => 0))), (q_15, .inl (cA_16, 12, .inl (fun _ => 0))), (q_19, .inl (cA_20, 12, .inl (fun _ => 0))), (q_23, .inl (cA_24, 12, .inl (fun _ => 0)))] := hD
  refine lv_aload_n hx hb dX4_init_67 rfl (lv_at hl 0 rfl) ?_
  refine lv_aload_n hx hb dX4_init_68 rfl (lv_at hl 1 rfl) ?_
  refine va_putF (D := (dC, dI)) (ci := 4) (v := .ref h1) (ty := .object "ShellHeap$Book") (C := RX4) (T := TX4) (N := 10) hx hb hts hiX4 tyX4 tyX4_ok nmX4 hown hK hP hD hS 0 rfl rfl 0 (by decide) w__fieldLink_RX4_41_ShellHeap_Known_book_LShellHeap_Book_ (fun _ h9 => h9) rfl hin rfl (by decide +kernel) rfl rfl (Nat.le_of_ble_eq_true rfl) dX4_init_69 (fun H_28 locs hP hD hS => ?_)
  have hP : va_P (dC, dI) vwCl [(h0, .inr (4, [.ref h1, .int (-1), .int (-1), .ref q_3, .ref q_7, .ref q_11, .ref q_15, .ref q_19, .ref q_23, .int 0])), (q_3, .inl (cA_4, 80, .inl (fun _ => 0))), (q_7, .inl (cA_8, 12, .inl (fun _ => 0))), (q_11, .inl (cA_12, 12, .inl (fun _ => 0))), (q_15, .inl (cA_16, 12, .inl (fun _ => 0))), (q_19, .inl (cA_20, 12, .inl (fun _ => 0))), (q_23, .inl (cA_24, 12, .inl (fun _ => 0)))] H_28 := hP
  have hD : va_D A [(h0, .inr (4, [.ref h1, .int (-1), .int (-1), .ref q_3, .ref q_7, .ref q_11, .ref q_15, .ref q_19, .ref q_23, .int 0])), (q_3, .inl (cA_4, 80, .inl (fun _ => 0))), (q_7, .inl (cA_8, 12, .inl (fun _ => 0))), (q_11, .inl (cA_12, 12, .inl (fun _ => 0))), (q_15, .inl (cA_16, 12, .inl (fun _ => 0))), (q_19, .inl (cA_20, 12, .inl (fun _ => 0))), (q_23, .inl (cA_24, 12, .inl (fun _ => 0)))] := hD
  have hP9 := hP.sub (ws' := [(h0, .inr (4, [.ref h1, .int (-1), .int (-1), .ref q_3, .ref q_7, .ref q_11, .ref q_15, .ref q_19, .ref q_23, .int 0]))]) [0] rfl
  have hD9 := hD.sub (ws' := [(h0, .inr (4, [.ref h1, .int (-1), .int (-1), .ref q_3, .ref q_7, .ref q_11, .ref q_15, .ref q_19, .ref q_23, .int 0]))]) [0] (by decide) rfl
  have hK9 := hK.sub (tys' := []) [] rfl
  refine W.widen (k := 6) (n := 140) (Nat.le_of_ble_eq_true rfl) (Nat.le_of_ble_eq_true rfl) ?_
  exact W.vret hx hb hr (fun t ht hW => ⟨⟨(), rfl, trivial, ⟨q_3, q_7, q_11, q_15, q_19, q_23, by rw [ht]; exact hP9, va_K.moved hW.alike hK9, hD9⟩⟩, hS.F ht⟩) hS.2.2 dX4_init_72
def u_c_X2_init : List Cond := .code yX2_init cX2_init 1 none :: ([.methodLink RX2 3 objectInit, .instanceMethod objectInit, .code objectInit ⟨#[0xb1]⟩ 1 none, .fieldLink RX2 9 "ShellHeap$Ground" "w" "I", .fieldLink RX2 15 "ShellHeap$Ground" "h" "I", .arrayClass .int, .fieldLink RX2 18 "ShellHeap$Ground" "xs" "[I", .fieldLink RX2 22 "ShellHeap$Ground" "ys" "[I", .fieldLink RX2 25 "ShellHeap$Ground" "ofBed" "[I", .fieldLink RX2 28 "ShellHeap$Ground" "without" "[I", .fieldLink RX2 31 "ShellHeap$Ground" "thickness" "[I", .fieldLink RX2 34 "ShellHeap$Ground" "columns" "I", .fieldLink RX2 37 "ShellHeap$Ground" "whole" "I", .fieldLink RX2 40 "ShellHeap$Ground" "least" "I", .fieldLink RX2 43 "ShellHeap$Ground" "greatest" "I"] ++ wsX20)
set_option maxHeartbeats 4000000 in
set_option maxRecDepth 100000 in
theorem c_X2_init (l : Launch) (dC : Nat → ClassId) (dI : Nat → Nat → Nat) (sz : Nat) (h0 : Nat) : Met l yX2_init u_c_X2_init ({ frames := 1, cells := 5, slots := 160, locals := 12 }) (va_Pc [.ref h0] (z_C (dC, dI) vwCl [(h0, .inr (2, [.int 0, .int 0, .null, .null, .null, .null, .null, .int 0, .int 0, .int 0, .int 0]))] [] sz)) (va_Qv (fun (_ : Unit) => True) (fun (_ : Unit) (t : State) => ∃ (q2 : Nat), ∃ (q3 : Nat), ∃ (q4 : Nat), ∃ (q5 : Nat), ∃ (q6 : Nat), ∃ (qc2 : ClassId), ∃ (qc3 : ClassId), ∃ (qc6 : ClassId), va_P (dC, dI) vwCl [(h0, .inr (2, [.int 6, .int 6, .ref q2, .ref q3, .ref q4, .ref q5, .ref q6, .int 0, .int 0, .int 0, .int 0])), (q2, .inl (qc2, 10, .inl (fun _ => 0))), (q3, .inl (qc3, 10, .inl (fun _ => 0))), (q6, .inl (qc6, 120, .inl (fun _ => 0)))] t.heap ∧ va_K (dC, dI) vwCl [(qc2, .int), (qc3, .int), (qc6, .int)] t ∧ va_D (va_A [(h0, .inr (2, [.int 0, .int 0, .null, .null, .null, .null, .null, .int 0, .int 0, .int 0, .int 0]))] sz) [(h0, .inr (2, [.int 6, .int 6, .ref q2, .ref q3, .ref q4, .ref q5, .ref q6, .int 0, .int 0, .int 0, .int 0])), (q2, .inl (qc2, 10, .inl (fun _ => 0))), (q3, .inl (qc3, 10, .inl (fun _ => 0))), (q6, .inl (qc6, 120, .inl (fun _ => 0)))]) (va_A [(h0, .inr (2, [.int 0, .int 0, .null, .null, .null, .null, .null, .int 0, .int 0, .int 0, .int 0]))] sz)) 5 160 (va_A [(h0, .inr (2, [.int 0, .int 0, .null, .null, .null, .null, .null, .int 0, .int 0, .int 0, .int 0]))] sz) := by
  refine Met.ofW (cc := cX2_init) (maxL := 1) (ret := none) (by decide) rfl ?_
  intro p e s m args below meth c s₁ B hml hv
  obtain ⟨rfl, hsz, hP, hK, hD0⟩ := hv
  have hx := B.exec
  have hb := B.bytes
  have hr := B.returns
  have hts := atoms_spec (ws := u_c_X2_init) B.pre
  have hown : s.vm.findClass RX2 = some m.cls := findClass_of_methodNamed B.named
  have hlocks := B.notSynchronized
  have hin : meth.name = "<init>" := (name_of_methodNamed B.named B.method).1
  subst hsz
  have hD := hD0.self (sz := s.heap.size)
  generalize hAe : va_A [(h0, .inr (2, [.int 0, .int 0, .null, .null, .null, .null, .null, .int 0, .int 0, .int 0, .int 0]))] s.heap.size = A at hD ⊢
  have hA : ∀ q : Nat, s.heap.size ≤ q → A q := fun q h => by rw [← hAe]; exact Or.inr h
  have hS : va_S A s.heap s.heap [] := va_S.rf
  have hP : va_P (dC, dI) vwCl [(h0, .inr (2, [.int 0, .int 0, .null, .null, .null, .null, .null, .int 0, .int 0, .int 0, .int 0]))] s.heap := hP
  have w__methodLink_RX2_3_objectInit := hts (.methodLink RX2 3 objectInit) (by decide +kernel)
  have w__instanceMethod_objectInit := hts (.instanceMethod objectInit) (by decide +kernel)
  have w__code_objectInit_0xb1_1_none := hts (.code objectInit ⟨#[0xb1]⟩ 1 none) (by decide +kernel)
  have w__fieldLink_RX2_9_ShellHeap_Ground_w_I_ := hts (.fieldLink RX2 9 "ShellHeap$Ground" "w" "I") (by decide +kernel)
  have hiX2 := show ∀ w ∈ u_ws RX2 TX2 11, w ∈ u_c_X2_init by decide +kernel
  have w__fieldLink_RX2_15_ShellHeap_Ground_h_I_ := hts (.fieldLink RX2 15 "ShellHeap$Ground" "h" "I") (by decide +kernel)
  have w__arrayClass_int := hts (.arrayClass .int) (by decide +kernel)
  have w__fieldLink_RX2_18_ShellHeap_Ground_xs_I_ := hts (.fieldLink RX2 18 "ShellHeap$Ground" "xs" "[I") (by decide +kernel)
  have w__fieldLink_RX2_22_ShellHeap_Ground_ys_I_ := hts (.fieldLink RX2 22 "ShellHeap$Ground" "ys" "[I") (by decide +kernel)
  have w__fieldLink_RX2_25_ShellHeap_Ground_ofBed_I_ := hts (.fieldLink RX2 25 "ShellHeap$Ground" "ofBed" "[I") (by decide +kernel)
  have w__fieldLink_RX2_28_ShellHeap_Ground_without_I_ := hts (.fieldLink RX2 28 "ShellHeap$Ground" "without" "[I") (by decide +kernel)
  have w__fieldLink_RX2_31_ShellHeap_Ground_thickness_I_ := hts (.fieldLink RX2 31 "ShellHeap$Ground" "thickness" "[I") (by decide +kernel)
  have w__fieldLink_RX2_34_ShellHeap_Ground_columns_I_ := hts (.fieldLink RX2 34 "ShellHeap$Ground" "columns" "I") (by decide +kernel)
  have w__fieldLink_RX2_37_ShellHeap_Ground_whole_I_ := hts (.fieldLink RX2 37 "ShellHeap$Ground" "whole" "I") (by decide +kernel)
  have w__fieldLink_RX2_40_ShellHeap_Ground_least_I_ := hts (.fieldLink RX2 40 "ShellHeap$Ground" "least" "I") (by decide +kernel)
  have w__fieldLink_RX2_43_ShellHeap_Ground_greatest_I_ := hts (.fieldLink RX2 43 "ShellHeap$Ground" "greatest" "I") (by decide +kernel)
  have hl := lv_entry ([.ref h0]) (n := 1) (Nat.le_of_ble_eq_true rfl)
  rw [lg_entry_eq]
  generalize (lg_sl ([.ref h0]) ++ List.replicate (1 - (lg_sl ([.ref h0])).length) Slot.unset).toArray = ls at hl ⊢
  have hl : lv_has ls 1 [(0, .ref h0)] := hl
  refine lv_aload_n hx hb dX2_init_0 rfl (lv_at hl 0 rfl) ?_
  refine W.objInit hx hb hown w__methodLink_RX2_3_objectInit w__instanceMethod_objectInit w__code_objectInit_0xb1_1_none rfl (by rw [hml]; exact hl.1) rfl dX2_init_1 (Nat.le_of_ble_eq_true rfl) (Nat.le_of_ble_eq_true rfl) ?_
  refine W.eq (g2 := F0 m 4 ls []) rfl ?_
  refine lv_aload_n hx hb dX2_init_4 rfl (lv_at hl 0 rfl) ?_
  refine lv_bipush (v := 6) hx hb dX2_init_5 (by decide) ?_
  refine va_put (D := (dC, dI)) (ci := 2) (v := .int 6) (ty := .int) (C := RX2) (T := TX2) (N := 11) hx hb hts hiX2 tyX2 tyX2_ok nmX2 hown hK hP hD hS 0 rfl rfl 0 (by decide) w__fieldLink_RX2_9_ShellHeap_Ground_w_I_ (fun _ h9 => h9) rfl (by decide +kernel) rfl rfl (Nat.le_of_ble_eq_true rfl) dX2_init_7 (fun H_1 locs hP hD hS => ?_)
  have hP : va_P (dC, dI) vwCl [(h0, .inr (2, [.int 6, .int 0, .null, .null, .null, .null, .null, .int 0, .int 0, .int 0, .int 0]))] H_1 := hP
  have hD : va_D A [(h0, .inr (2, [.int 6, .int 0, .null, .null, .null, .null, .null, .int 0, .int 0, .int 0, .int 0]))] := hD
  refine lv_aload_n hx hb dX2_init_10 rfl (lv_at hl 0 rfl) ?_
  refine lv_bipush (v := 6) hx hb dX2_init_11 (by decide) ?_
  refine va_put (D := (dC, dI)) (ci := 2) (v := .int 6) (ty := .int) (C := RX2) (T := TX2) (N := 11) hx hb hts hiX2 tyX2 tyX2_ok nmX2 hown hK hP hD hS 0 rfl rfl 1 (by decide) w__fieldLink_RX2_15_ShellHeap_Ground_h_I_ (fun _ h9 => h9) rfl (by decide +kernel) rfl rfl (Nat.le_of_ble_eq_true rfl) dX2_init_13 (fun H_2 locs hP hD hS => ?_)
  have hP : va_P (dC, dI) vwCl [(h0, .inr (2, [.int 6, .int 6, .null, .null, .null, .null, .null, .int 0, .int 0, .int 0, .int 0]))] H_2 := hP
  have hD : va_D A [(h0, .inr (2, [.int 6, .int 6, .null, .null, .null, .null, .null, .int 0, .int 0, .int 0, .int 0]))] := hD
  refine lv_aload_n hx hb dX2_init_16 rfl (lv_at hl 0 rfl) ?_
  refine lv_bipush (v := 10) hx hb dX2_init_17 (by decide) ?_
  refine va_newa (ty := .int) (N' := 10) (a0 := (10, .inl (fun _ => 0))) hx hb w__arrayClass_int rfl hK hP hD hS hA (fun _ => rfl) (by decide) (by decide) (by decide) (Nat.le_of_ble_eq_true rfl) (Nat.le_of_ble_eq_true rfl) dX2_init_19 (fun q_3 cA_4 H_5 hK hP hD hS => ?_)
  have hK : va_K (dC, dI) vwCl [(cA_4, .int)] s := hK
  have hP : va_P (dC, dI) vwCl [(h0, .inr (2, [.int 6, .int 6, .null, .null, .null, .null, .null, .int 0, .int 0, .int 0, .int 0])), (q_3, .inl (cA_4, 10, .inl (fun _ => 0)))] H_5 := hP
  have hD : va_D A [(h0, .inr (2, [.int 6, .int 6, .null, .null, .null, .null, .null, .int 0, .int 0, .int 0, .int 0])), (q_3, .inl (cA_4, 10, .inl (fun _ => 0)))] := hD
  refine va_putF (D := (dC, dI)) (ci := 2) (v := .ref q_3) (ty := .array .int) (C := RX2) (T := TX2) (N := 11) hx hb hts hiX2 tyX2 tyX2_ok nmX2 hown hK hP hD hS 0 rfl rfl 2 (by decide) w__fieldLink_RX2_18_ShellHeap_Ground_xs_I_ (fun _ h9 => h9) rfl hin rfl (by decide +kernel) rfl rfl (Nat.le_of_ble_eq_true rfl) dX2_init_21 (fun H_6 locs hP hD hS => ?_)
  have hP : va_P (dC, dI) vwCl [(h0, .inr (2, [.int 6, .int 6, .ref q_3, .null, .null, .null, .null, .int 0, .int 0, .int 0, .int 0])), (q_3, .inl (cA_4, 10, .inl (fun _ => 0)))] H_6 := hP
  have hD : va_D A [(h0, .inr (2, [.int 6, .int 6, .ref q_3, .null, .null, .null, .null, .int 0, .int 0, .int 0, .int 0])), (q_3, .inl (cA_4, 10, .inl (fun _ => 0)))] := hD
  refine lv_aload_n hx hb dX2_init_24 rfl (lv_at hl 0 rfl) ?_
  refine lv_bipush (v := 10) hx hb dX2_init_25 (by decide) ?_
  refine va_newa (ty := .int) (N' := 10) (a0 := (10, .inl (fun _ => 0))) hx hb w__arrayClass_int rfl hK hP hD hS hA (fun _ => rfl) (by decide) (by decide) (by decide) (Nat.le_of_ble_eq_true rfl) (Nat.le_of_ble_eq_true rfl) dX2_init_27 (fun q_7 cA_8 H_9 hK hP hD hS => ?_)
  have hK : va_K (dC, dI) vwCl [(cA_4, .int), (cA_8, .int)] s := hK
  have hP : va_P (dC, dI) vwCl [(h0, .inr (2, [.int 6, .int 6, .ref q_3, .null, .null, .null, .null, .int 0, .int 0, .int 0, .int 0])), (q_3, .inl (cA_4, 10, .inl (fun _ => 0))), (q_7, .inl (cA_8, 10, .inl (fun _ => 0)))] H_9 := hP
  have hD : va_D A [(h0, .inr (2, [.int 6, .int 6, .ref q_3, .null, .null, .null, .null, .int 0, .int 0, .int 0, .int 0])), (q_3, .inl (cA_4, 10, .inl (fun _ => 0))), (q_7, .inl (cA_8, 10, .inl (fun _ => 0)))] := hD
  refine va_putF (D := (dC, dI)) (ci := 2) (v := .ref q_7) (ty := .array .int) (C := RX2) (T := TX2) (N := 11) hx hb hts hiX2 tyX2 tyX2_ok nmX2 hown hK hP hD hS 0 rfl rfl 3 (by decide) w__fieldLink_RX2_22_ShellHeap_Ground_ys_I_ (fun _ h9 => h9) rfl hin rfl (by decide +kernel) rfl rfl (Nat.le_of_ble_eq_true rfl) dX2_init_29 (fun H_10 locs hP hD hS => ?_)
  have hP : va_P (dC, dI) vwCl [(h0, .inr (2, [.int 6, .int 6, .ref q_3, .ref q_7, .null, .null, .null, .int 0, .int 0, .int 0, .int 0])), (q_3, .inl (cA_4, 10, .inl (fun _ => 0))), (q_7, .inl (cA_8, 10, .inl (fun _ => 0)))] H_10 := hP
  have hD : va_D A [(h0, .inr (2, [.int 6, .int 6, .ref q_3, .ref q_7, .null, .null, .null, .int 0, .int 0, .int 0, .int 0])), (q_3, .inl (cA_4, 10, .inl (fun _ => 0))), (q_7, .inl (cA_8, 10, .inl (fun _ => 0)))] := hD
  refine lv_aload_n hx hb dX2_init_32 rfl (lv_at hl 0 rfl) ?_
  refine lv_bipush (v := 10) hx hb dX2_init_33 (by decide) ?_
  refine va_newa (ty := .int) (N' := 10) (a0 := (10, .inl (fun _ => 0))) hx hb w__arrayClass_int rfl hK hP hD hS hA (fun _ => rfl) (by decide) (by decide) (by decide) (Nat.le_of_ble_eq_true rfl) (Nat.le_of_ble_eq_true rfl) dX2_init_35 (fun q_11 cA_12 H_13 hK hP hD hS => ?_)
  have hK : va_K (dC, dI) vwCl [(cA_4, .int), (cA_8, .int), (cA_12, .int)] s := hK
  have hP : va_P (dC, dI) vwCl [(h0, .inr (2, [.int 6, .int 6, .ref q_3, .ref q_7, .null, .null, .null, .int 0, .int 0, .int 0, .int 0])), (q_3, .inl (cA_4, 10, .inl (fun _ => 0))), (q_7, .inl (cA_8, 10, .inl (fun _ => 0))), (q_11, .inl (cA_12, 10, .inl (fun _ => 0)))] H_13 := hP
  have hD : va_D A [(h0, .inr (2, [.int 6, .int 6, .ref q_3, .ref q_7, .null, .null, .null, .int 0, .int 0, .int 0, .int 0])), (q_3, .inl (cA_4, 10, .inl (fun _ => 0))), (q_7, .inl (cA_8, 10, .inl (fun _ => 0))), (q_11, .inl (cA_12, 10, .inl (fun _ => 0)))] := hD
  refine va_putF (D := (dC, dI)) (ci := 2) (v := .ref q_11) (ty := .array .int) (C := RX2) (T := TX2) (N := 11) hx hb hts hiX2 tyX2 tyX2_ok nmX2 hown hK hP hD hS 0 rfl rfl 4 (by decide) w__fieldLink_RX2_25_ShellHeap_Ground_ofBed_I_ (fun _ h9 => h9) rfl hin rfl (by decide +kernel) rfl rfl (Nat.le_of_ble_eq_true rfl) dX2_init_37 (fun H_14 locs hP hD hS => ?_)
  have hP : va_P (dC, dI) vwCl [(h0, .inr (2, [.int 6, .int 6, .ref q_3, .ref q_7, .ref q_11, .null, .null, .int 0, .int 0, .int 0, .int 0])), (q_3, .inl (cA_4, 10, .inl (fun _ => 0))), (q_7, .inl (cA_8, 10, .inl (fun _ => 0))), (q_11, .inl (cA_12, 10, .inl (fun _ => 0)))] H_14 := hP
  have hD : va_D A [(h0, .inr (2, [.int 6, .int 6, .ref q_3, .ref q_7, .ref q_11, .null, .null, .int 0, .int 0, .int 0, .int 0])), (q_3, .inl (cA_4, 10, .inl (fun _ => 0))), (q_7, .inl (cA_8, 10, .inl (fun _ => 0))), (q_11, .inl (cA_12, 10, .inl (fun _ => 0)))] := hD
  refine lv_aload_n hx hb dX2_init_40 rfl (lv_at hl 0 rfl) ?_
  refine lv_bipush (v := 10) hx hb dX2_init_41 (by decide) ?_
  refine va_newa (ty := .int) (N' := 10) (a0 := (10, .inl (fun _ => 0))) hx hb w__arrayClass_int rfl hK hP hD hS hA (fun _ => rfl) (by decide) (by decide) (by decide) (Nat.le_of_ble_eq_true rfl) (Nat.le_of_ble_eq_true rfl) dX2_init_43 (fun q_15 cA_16 H_17 hK hP hD hS => ?_)
  have hK : va_K (dC, dI) vwCl [(cA_4, .int), (cA_8, .int), (cA_12, .int), (cA_16, .int)] s := hK
  have hP : va_P (dC, dI) vwCl [(h0, .inr (2, [.int 6, .int 6, .ref q_3, .ref q_7, .ref q_11, .null, .null, .int 0, .int 0, .int 0, .int 0])), (q_3, .inl (cA_4, 10, .inl (fun _ => 0))), (q_7, .inl (cA_8, 10, .inl (fun _ => 0))), (q_11, .inl (cA_12, 10, .inl (fun _ => 0))), (q_15, .inl (cA_16, 10, .inl (fun _ => 0)))] H_17 := hP
  have hD : va_D A [(h0, .inr (2, [.int 6, .int 6, .ref q_3, .ref q_7, .ref q_11, .null, .null, .int 0, .int 0, .int 0, .int 0])), (q_3, .inl (cA_4, 10, .inl (fun _ => 0))), (q_7, .inl (cA_8, 10, .inl (fun _ => 0))), (q_11, .inl (cA_12, 10, .inl (fun _ => 0))), (q_15, .inl (cA_16, 10, .inl (fun _ => 0)))] := hD
  refine va_putF (D := (dC, dI)) (ci := 2) (v := .ref q_15) (ty := .array .int) (C := RX2) (T := TX2) (N := 11) hx hb hts hiX2 tyX2 tyX2_ok nmX2 hown hK hP hD hS 0 rfl rfl 5 (by decide) w__fieldLink_RX2_28_ShellHeap_Ground_without_I_ (fun _ h9 => h9) rfl hin rfl (by decide +kernel) rfl rfl (Nat.le_of_ble_eq_true rfl) dX2_init_45 (fun H_18 locs hP hD hS => ?_)
  have hP : va_P (dC, dI) vwCl [(h0, .inr (2, [.int 6, .int 6, .ref q_3, .ref q_7, .ref q_11, .ref q_15, .null, .int 0, .int 0, .int 0, .int 0])), (q_3, .inl (cA_4, 10, .inl (fun _ => 0))), (q_7, .inl (cA_8, 10, .inl (fun _ => 0))), (q_11, .inl (cA_12, 10, .inl (fun _ => 0))), (q_15, .inl (cA_16, 10, .inl (fun _ => 0)))] H_18 := hP
  have hD : va_D A [(h0, .inr (2, [.int 6, .int 6, .ref q_3, .ref q_7, .ref q_11, .ref q_15, .null, .int 0, .int 0, .int 0, .int 0])), (q_3, .inl (cA_4, 10, .inl (fun _ => 0))), (q_7, .inl (cA_8, 10, .inl (fun _ => 0))), (q_11, .inl (cA_12, 10, .inl (fun _ => 0))), (q_15, .inl (cA_16, 10, .inl (fun _ => 0)))] := hD
  refine lv_aload_n hx hb dX2_init_48 rfl (lv_at hl 0 rfl) ?_
  refine lv_bipush (v := 120) hx hb dX2_init_49 (by decide) ?_
  refine va_newa (ty := .int) (N' := 120) (a0 := (120, .inl (fun _ => 0))) hx hb w__arrayClass_int rfl hK hP hD hS hA (fun _ => rfl) (by decide) (by decide) (by decide) (Nat.le_of_ble_eq_true rfl) (Nat.le_of_ble_eq_true rfl) dX2_init_51 (fun q_19 cA_20 H_21 hK hP hD hS => ?_)
  have hK : va_K (dC, dI) vwCl [(cA_4, .int), (cA_8, .int), (cA_12, .int), (cA_16, .int), (cA_20, .int)] s := hK
  have hP : va_P (dC, dI) vwCl [(h0, .inr (2, [.int 6, .int 6, .ref q_3, .ref q_7, .ref q_11, .ref q_15, .null, .int 0, .int 0, .int 0, .int 0])), (q_3, .inl (cA_4, 10, .inl (fun _ => 0))), (q_7, .inl (cA_8, 10, .inl (fun _ => 0))), (q_11, .inl (cA_12, 10, .inl (fun _ => 0))), (q_15, .inl (cA_16, 10, .inl (fun _ => 0))), (q_19, .inl (cA_20, 120, .inl (fun _ => 0)))] H_21 := hP
  have hD : va_D A [(h0, .inr (2, [.int 6, .int 6, .ref q_3, .ref q_7, .ref q_11, .ref q_15, .null, .int 0, .int 0, .int 0, .int 0])), (q_3, .inl (cA_4, 10, .inl (fun _ => 0))), (q_7, .inl (cA_8, 10, .inl (fun _ => 0))), (q_11, .inl (cA_12, 10, .inl (fun _ => 0))), (q_15, .inl (cA_16, 10, .inl (fun _ => 0))), (q_19, .inl (cA_20, 120, .inl (fun _ => 0)))] := hD
  refine va_putF (D := (dC, dI)) (ci := 2) (v := .ref q_19) (ty := .array .int) (C := RX2) (T := TX2) (N := 11) hx hb hts hiX2 tyX2 tyX2_ok nmX2 hown hK hP hD hS 0 rfl rfl 6 (by decide) w__fieldLink_RX2_31_ShellHeap_Ground_thickness_I_ (fun _ h9 => h9) rfl hin rfl (by decide +kernel) rfl rfl (Nat.le_of_ble_eq_true rfl) dX2_init_53 (fun H_22 locs hP hD hS => ?_)
  have hP : va_P (dC, dI) vwCl [(h0, .inr (2, [.int 6, .int 6, .ref q_3, .ref q_7, .ref q_11, .ref q_15, .ref q_19, .int 0, .int 0, .int 0, .int 0])), (q_3, .inl (cA_4, 10, .inl (fun _ => 0))), (q_7, .inl (cA_8, 10, .inl (fun _ => 0))), (q_11, .inl (cA_12, 10, .inl (fun _ => 0))), (q_15, .inl (cA_16, 10, .inl (fun _ => 0))), (q_19, .inl (cA_20, 120, .inl (fun _ => 0)))] H_22 := hP
  have hD : va_D A [(h0, .inr (2, [.int 6, .int 6, .ref q_3, .ref q_7, .ref q_11, .ref q_15, .ref q_19, .int 0, .int 0, .int 0, .int 0])), (q_3, .inl (cA_4, 10, .inl (fun _ => 0))), (q_7, .inl (cA_8, 10, .inl (fun _ => 0))), (q_11, .inl (cA_12, 10, .inl (fun _ => 0))), (q_15, .inl (cA_16, 10, .inl (fun _ => 0))), (q_19, .inl (cA_20, 120, .inl (fun _ => 0)))] := hD
  refine lv_aload_n hx hb dX2_init_56 rfl (lv_at hl 0 rfl) ?_
  refine lv_iconst (v := 0) hx hb dX2_init_57 (by decide) ?_
  refine va_put (D := (dC, dI)) (ci := 2) (v := .int 0) (ty := .int) (C := RX2) (T := TX2) (N := 11) hx hb hts hiX2 tyX2 tyX2_ok nmX2 hown hK hP hD hS 0 rfl rfl 7 (by decide) w__fieldLink_RX2_34_ShellHeap_Ground_columns_I_ (fun _ h9 => h9) rfl (by decide +kernel) rfl rfl (Nat.le_of_ble_eq_true rfl) dX2_init_58 (fun H_23 locs hP hD hS => ?_)
  have hP : va_P (dC, dI) vwCl [(h0, .inr (2, [.int 6, .int 6, .ref q_3, .ref q_7, .ref q_11, .ref q_15, .ref q_19, .int 0, .int 0, .int 0, .int 0])), (q_3, .inl (cA_4, 10, .inl (fun _ => 0))), (q_7, .inl (cA_8, 10, .inl (fun _ => 0))), (q_11, .inl (cA_12, 10, .inl (fun _ => 0))), (q_15, .inl (cA_16, 10, .inl (fun _ => 0))), (q_19, .inl (cA_20, 120, .inl (fun _ => 0)))] H_23 := hP
  have hD : va_D A [(h0, .inr (2, [.int 6, .int 6, .ref q_3, .ref q_7, .ref q_11, .ref q_15, .ref q_19, .int 0, .int 0, .int 0, .int 0])), (q_3, .inl (cA_4, 10, .inl (fun _ => 0))), (q_7, .inl (cA_8, 10, .inl (fun _ => 0))), (q_11, .inl (cA_12, 10, .inl (fun _ => 0))), (q_15, .inl (cA_16, 10, .inl (fun _ => 0))), (q_19, .inl (cA_20, 120, .inl (fun _ => 0)))] := hD
  refine lv_aload_n hx hb dX2_init_61 rfl (lv_at hl 0 rfl) ?_
  refine lv_iconst (v := 0) hx hb dX2_init_62 (by decide) ?_
  refine va_put (D := (dC, dI)) (ci := 2) (v := .int 0) (ty := .int) (C := RX2) (T := TX2) (N := 11) hx hb hts hiX2 tyX2 tyX2_ok nmX2 hown hK hP hD hS 0 rfl rfl 8 (by decide) w__fieldLink_RX2_37_ShellHeap_Ground_whole_I_ (fun _ h9 => h9) rfl (by decide +kernel) rfl rfl (Nat.le_of_ble_eq_true rfl) dX2_init_63 (fun H_24 locs hP hD hS => ?_)
  have hP : va_P (dC, dI) vwCl [(h0, .inr (2, [.int 6, .int 6, .ref q_3, .ref q_7, .ref q_11, .ref q_15, .ref q_19, .int 0, .int 0, .int 0, .int 0])), (q_3, .inl (cA_4, 10, .inl (fun _ => 0))), (q_7, .inl (cA_8, 10, .inl (fun _ => 0))), (q_11, .inl (cA_12, 10, .inl (fun _ => 0))), (q_15, .inl (cA_16, 10, .inl (fun _ => 0))), (q_19, .inl (cA_20, 120, .inl (fun _ => 0)))] H_24 := hP
  have hD : va_D A [(h0, .inr (2, [.int 6, .int 6, .ref q_3, .ref q_7, .ref q_11, .ref q_15, .ref q_19, .int 0, .int 0, .int 0, .int 0])), (q_3, .inl (cA_4, 10, .inl (fun _ => 0))), (q_7, .inl (cA_8, 10, .inl (fun _ => 0))), (q_11, .inl (cA_12, 10, .inl (fun _ => 0))), (q_15, .inl (cA_16, 10, .inl (fun _ => 0))), (q_19, .inl (cA_20, 120, .inl (fun _ => 0)))] := hD
  refine lv_aload_n hx hb dX2_init_66 rfl (lv_at hl 0 rfl) ?_
  refine lv_iconst (v := 0) hx hb dX2_init_67 (by decide) ?_
  refine va_put (D := (dC, dI)) (ci := 2) (v := .int 0) (ty := .int) (C := RX2) (T := TX2) (N := 11) hx hb hts hiX2 tyX2 tyX2_ok nmX2 hown hK hP hD hS 0 rfl rfl 9 (by decide) w__fieldLink_RX2_40_ShellHeap_Ground_least_I_ (fun _ h9 => h9) rfl (by decide +kernel) rfl rfl (Nat.le_of_ble_eq_true rfl) dX2_init_68 (fun H_25 locs hP hD hS => ?_)
  have hP : va_P (dC, dI) vwCl [(h0, .inr (2, [.int 6, .int 6, .ref q_3, .ref q_7, .ref q_11, .ref q_15, .ref q_19, .int 0, .int 0, .int 0, .int 0])), (q_3, .inl (cA_4, 10, .inl (fun _ => 0))), (q_7, .inl (cA_8, 10, .inl (fun _ => 0))), (q_11, .inl (cA_12, 10, .inl (fun _ => 0))), (q_15, .inl (cA_16, 10, .inl (fun _ => 0))), (q_19, .inl (cA_20, 120, .inl (fun _ => 0)))] H_25 := hP
  have hD : va_D A [(h0, .inr (2, [.int 6, .int 6, .ref q_3, .ref q_7, .ref q_11, .ref q_15, .ref q_19, .int 0, .int 0, .int 0, .int 0])), (q_3, .inl (cA_4, 10, .inl (fun _ => 0))), (q_7, .inl (cA_8, 10, .inl (fun _ => 0))), (q_11, .inl (cA_12, 10, .inl (fun _ => 0))), (q_15, .inl (cA_16, 10, .inl (fun _ => 0))), (q_19, .inl (cA_20, 120, .inl (fun _ => 0)))] := hD
  refine lv_aload_n hx hb dX2_init_71 rfl (lv_at hl 0 rfl) ?_
  refine lv_iconst (v := 0) hx hb dX2_init_72 (by decide) ?_
  refine va_put (D := (dC, dI)) (ci := 2) (v := .int 0) (ty := .int) (C := RX2) (T := TX2) (N := 11) hx hb hts hiX2 tyX2 tyX2_ok nmX2 hown hK hP hD hS 0 rfl rfl 10 (by decide) w__fieldLink_RX2_43_ShellHeap_Ground_greatest_I_ (fun _ h9 => h9) rfl (by decide +kernel) rfl rfl (Nat.le_of_ble_eq_true rfl) dX2_init_73 (fun H_26 locs hP hD hS => ?_)
  have hP : va_P (dC, dI) vwCl [(h0, .inr (2, [.int 6, .int 6, .ref q_3, .ref q_7, .ref q_11, .ref q_15, .ref q_19, .int 0, .int 0, .int 0, .int 0])), (q_3, .inl (cA_4, 10, .inl (fun _ => 0))), (q_7, .inl (cA_8, 10, .inl (fun _ => 0))), (q_11, .inl (cA_12, 10, .inl (fun _ => 0))), (q_15, .inl (cA_16, 10, .inl (fun _ => 0))), (q_19, .inl (cA_20, 120, .inl (fun _ => 0)))] H_26 := hP
  have hD : va_D A [(h0, .inr (2, [.int 6, .int 6, .ref q_3, .ref q_7, .ref q_11, .ref q_15, .ref q_19, .int 0, .int 0, .int 0, .int 0])), (q_3, .inl (cA_4, 10, .inl (fun _ => 0))), (q_7, .inl (cA_8, 10, .inl (fun _ => 0))), (q_11, .inl (cA_12, 10, .inl (fun _ => 0))), (q_15, .inl (cA_16, 10, .inl (fun _ => 0))), (q_19, .inl (cA_20, 120, .inl (fun _ => 0)))] := hD
  have hP9 := hP.sub (ws' := [(h0, .inr (2, [.int 6, .int 6, .ref q_3, .ref q_7, .ref q_11, .ref q_15, .ref q_19, .int 0, .int 0, .int 0, .int 0])), (q_3, .inl (cA_4, 10, .inl (fun _ => 0))), (q_7, .inl (cA_8, 10, .inl (fun _ => 0))), (q_19, .inl (cA_20, 120, .inl (fun _ => 0)))]) [0, 1, 2, 5] rfl
  have hD9 := hD.sub (ws' := [(h0, .inr (2, [.int 6, .int 6, .ref q_3, .ref q_7, .ref q_11, .ref q_15, .ref q_19, .int 0, .int 0, .int 0, .int 0])), (q_3, .inl (cA_4, 10, .inl (fun _ => 0))), (q_7, .inl (cA_8, 10, .inl (fun _ => 0))), (q_19, .inl (cA_20, 120, .inl (fun _ => 0)))]) [0, 1, 2, 5] (by decide) rfl
  have hK9 := hK.sub (tys' := [(cA_4, .int), (cA_8, .int), (cA_20, .int)]) [0, 1, 4] rfl
  refine W.widen (k := 5) (n := 160) (Nat.le_of_ble_eq_true rfl) (Nat.le_of_ble_eq_true rfl) ?_
  exact W.vret hx hb hr (fun t ht hW => ⟨⟨(), rfl, trivial, ⟨q_3, q_7, q_11, q_15, q_19, cA_4, cA_8, cA_20, by rw [ht]; exact hP9, va_K.moved hW.alike hK9, hD9⟩⟩, hS.F ht⟩) hS.2.2 dX2_init_76
def u_c_X5_init : List Cond := .code yX5_init cX5_init 1 none :: ([.methodLink RX5 5 objectInit, .instanceMethod objectInit, .code objectInit ⟨#[0xb1]⟩ 1 none, .arrayClass .int, .fieldLink RX5 11 "ShellHeap$Pantry" "meats" "[I", .fieldLink RX5 15 "ShellHeap$Pantry" "valvesOf" "[I", .fieldLink RX5 18 "ShellHeap$Pantry" "found" "[I", .arrayClass .long, .fieldLink RX5 21 "ShellHeap$Pantry" "ofBed" "[J", .fieldLink RX5 25 "ShellHeap$Pantry" "keeps" "[I", .fieldLink RX5 28 "ShellHeap$Pantry" "leastNumber" "[J", .fieldLink RX5 31 "ShellHeap$Pantry" "righted" "[J", .fieldLink RX5 34 "ShellHeap$Pantry" "food" "J", .fieldLink RX5 38 "ShellHeap$Pantry" "lost" "J", .fieldLink RX5 41 "ShellHeap$Pantry" "kinds" "I"] ++ wsX50)
set_option maxHeartbeats 4000000 in
set_option maxRecDepth 100000 in
theorem c_X5_init (l : Launch) (dC : Nat → ClassId) (dI : Nat → Nat → Nat) (sz : Nat) (h0 : Nat) : Met l yX5_init u_c_X5_init ({ frames := 1, cells := 7, slots := 11712, locals := 12 }) (va_Pc [.ref h0] (z_C (dC, dI) vwCl [(h0, .inr (5, [.null, .null, .null, .null, .null, .null, .null, .long 0, .long 0, .int 0]))] [] sz)) (va_Qv (fun (_ : Unit) => True) (fun (_ : Unit) (t : State) => ∃ (q0 : Nat), ∃ (q1 : Nat), ∃ (q2 : Nat), ∃ (q3 : Nat), ∃ (q4 : Nat), ∃ (q5 : Nat), ∃ (q6 : Nat), ∃ (qc0 : ClassId), ∃ (qc1 : ClassId), ∃ (qc4 : ClassId), va_P (dC, dI) vwCl [(h0, .inr (5, [.ref q0, .ref q1, .ref q2, .ref q3, .ref q4, .ref q5, .ref q6, .long 0, .long 0, .int 0])), (q0, .inl (qc0, 6, .inl (fun _ => 0))), (q1, .inl (qc1, 6, .inl (fun _ => 0))), (q4, .inl (qc4, 24, .inl (fun _ => 0)))] t.heap ∧ va_K (dC, dI) vwCl [(qc0, .int), (qc1, .int), (qc4, .int)] t ∧ va_D (va_A [(h0, .inr (5, [.null, .null, .null, .null, .null, .null, .null, .long 0, .long 0, .int 0]))] sz) [(h0, .inr (5, [.ref q0, .ref q1, .ref q2, .ref q3, .ref q4, .ref q5, .ref q6, .long 0, .long 0, .int 0])), (q0, .inl (qc0, 6, .inl (fun _ => 0))), (q1, .inl (qc1, 6, .inl (fun _ => 0))), (q4, .inl (qc4, 24, .inl (fun _ => 0)))]) (va_A [(h0, .inr (5, [.null, .null, .null, .null, .null, .null, .null, .long 0, .long 0, .int 0]))] sz)) 7 11712 (va_A [(h0, .inr (5, [.null, .null, .null, .null, .null, .null, .null, .long 0, .long 0, .int 0]))] sz) := by
  refine Met.ofW (cc := cX5_init) (maxL := 1) (ret := none) (by decide) rfl ?_
  intro p e s m args below meth c s₁ B hml hv
  obtain ⟨rfl, hsz, hP, hK, hD0⟩ := hv
  have hx := B.exec
  have hb := B.bytes
  have hr := B.returns
  have hts := atoms_spec (ws := u_c_X5_init) B.pre
  have hown : s.vm.findClass RX5 = some m.cls := findClass_of_methodNamed B.named
  have hlocks := B.notSynchronized
  have hin : meth.name = "<init>" := (name_of_methodNamed B.named B.method).1
  subst hsz
  have hD := hD0.self (sz := s.heap.size)
  generalize hAe : va_A [(h0, .inr (5, [.null, .null, .null, .null, .null, .null, .null, .long 0, .long 0, .int 0]))] s.heap.size = A at hD ⊢
  have hA : ∀ q : Nat, s.heap.size ≤ q → A q := fun q h => by rw [← hAe]; exact Or.inr h
  have hS : va_S A s.heap s.heap [] := va_S.rf
  have hP : va_P (dC, dI) vwCl [(h0, .inr (5, [.null, .null, .null, .null, .null, .null, .null, .long 0, .long 0, .int 0]))] s.heap := hP
  have w__methodLink_RX5_5_objectInit := hts (.methodLink RX5 5 objectInit) (by decide +kernel)
  have w__instanceMethod_objectInit := hts (.instanceMethod objectInit) (by decide +kernel)
  have w__code_objectInit_0xb1_1_none := hts (.code objectInit ⟨#[0xb1]⟩ 1 none) (by decide +kernel)
  have w__arrayClass_int := hts (.arrayClass .int) (by decide +kernel)
  have w__fieldLink_RX5_11_ShellHeap_Pantry_meats_I_ := hts (.fieldLink RX5 11 "ShellHeap$Pantry" "meats" "[I") (by decide +kernel)
  have hiX5 := show ∀ w ∈ u_ws RX5 TX5 10, w ∈ u_c_X5_init by decide +kernel
  have w__fieldLink_RX5_15_ShellHeap_Pantry_valvesOf_I_ := hts (.fieldLink RX5 15 "ShellHeap$Pantry" "valvesOf" "[I") (by decide +kernel)
  have w__fieldLink_RX5_18_ShellHeap_Pantry_found_I_ := hts (.fieldLink RX5 18 "ShellHeap$Pantry" "found" "[I") (by decide +kernel)
  have w__arrayClass_long := hts (.arrayClass .long) (by decide +kernel)
  have w__fieldLink_RX5_21_ShellHeap_Pantry_ofBed_J_ := hts (.fieldLink RX5 21 "ShellHeap$Pantry" "ofBed" "[J") (by decide +kernel)
  have w__fieldLink_RX5_25_ShellHeap_Pantry_keeps_I_ := hts (.fieldLink RX5 25 "ShellHeap$Pantry" "keeps" "[I") (by decide +kernel)
  have w__fieldLink_RX5_28_ShellHeap_Pantry_leastNumber_J_ := hts (.fieldLink RX5 28 "ShellHeap$Pantry" "leastNumber" "[J") (by decide +kernel)
  have w__fieldLink_RX5_31_ShellHeap_Pantry_righted_J_ := hts (.fieldLink RX5 31 "ShellHeap$Pantry" "righted" "[J") (by decide +kernel)
  have w__fieldLink_RX5_34_ShellHeap_Pantry_food_J_ := hts (.fieldLink RX5 34 "ShellHeap$Pantry" "food" "J") (by decide +kernel)
  have w__fieldLink_RX5_38_ShellHeap_Pantry_lost_J_ := hts (.fieldLink RX5 38 "ShellHeap$Pantry" "lost" "J") (by decide +kernel)
  have w__fieldLink_RX5_41_ShellHeap_Pantry_kinds_I_ := hts (.fieldLink RX5 41 "ShellHeap$Pantry" "kinds" "I") (by decide +kernel)
  have hl := lv_entry ([.ref h0]) (n := 1) (Nat.le_of_ble_eq_true rfl)
  rw [lg_entry_eq]
  generalize (lg_sl ([.ref h0]) ++ List.replicate (1 - (lg_sl ([.ref h0])).length) Slot.unset).toArray = ls at hl ⊢
  have hl : lv_has ls 1 [(0, .ref h0)] := hl
  refine lv_aload_n hx hb dX5_init_0 rfl (lv_at hl 0 rfl) ?_
  refine W.objInit hx hb hown w__methodLink_RX5_5_objectInit w__instanceMethod_objectInit w__code_objectInit_0xb1_1_none rfl (by rw [hml]; exact hl.1) rfl dX5_init_1 (Nat.le_of_ble_eq_true rfl) (Nat.le_of_ble_eq_true rfl) ?_
  refine W.eq (g2 := F0 m 4 ls []) rfl ?_
  refine lv_aload_n hx hb dX5_init_4 rfl (lv_at hl 0 rfl) ?_
  refine lv_bipush (v := 6) hx hb dX5_init_5 (by decide) ?_
  refine va_newa (ty := .int) (N' := 6) (a0 := (6, .inl (fun _ => 0))) hx hb w__arrayClass_int rfl hK hP hD hS hA (fun _ => rfl) (by decide) (by decide) (by decide) (Nat.le_of_ble_eq_true rfl) (Nat.le_of_ble_eq_true rfl) dX5_init_7 (fun q_1 cA_2 H_3 hK hP hD hS => ?_)
  have hK : va_K (dC, dI) vwCl [(cA_2, .int)] s := hK
  have hP : va_P (dC, dI) vwCl [(h0, .inr (5, [.null, .null, .null, .null, .null, .null, .null, .long 0, .long 0, .int 0])), (q_1, .inl (cA_2, 6, .inl (fun _ => 0)))] H_3 := hP
  have hD : va_D A [(h0, .inr (5, [.null, .null, .null, .null, .null, .null, .null, .long 0, .long 0, .int 0])), (q_1, .inl (cA_2, 6, .inl (fun _ => 0)))] := hD
  refine va_putF (D := (dC, dI)) (ci := 5) (v := .ref q_1) (ty := .array .int) (C := RX5) (T := TX5) (N := 10) hx hb hts hiX5 tyX5 tyX5_ok nmX5 hown hK hP hD hS 0 rfl rfl 0 (by decide) w__fieldLink_RX5_11_ShellHeap_Pantry_meats_I_ (fun _ h9 => h9) rfl hin rfl (by decide +kernel) rfl rfl (Nat.le_of_ble_eq_true rfl) dX5_init_9 (fun H_4 locs hP hD hS => ?_)
  have hP : va_P (dC, dI) vwCl [(h0, .inr (5, [.ref q_1, .null, .null, .null, .null, .null, .null, .long 0, .long 0, .int 0])), (q_1, .inl (cA_2, 6, .inl (fun _ => 0)))] H_4 := hP
  have hD : va_D A [(h0, .inr (5, [.ref q_1, .null, .null, .null, .null, .null, .null, .long 0, .long 0, .int 0])), (q_1, .inl (cA_2, 6, .inl (fun _ => 0)))] := hD
  refine lv_aload_n hx hb dX5_init_12 rfl (lv_at hl 0 rfl) ?_
  refine lv_bipush (v := 6) hx hb dX5_init_13 (by decide) ?_
  refine va_newa (ty := .int) (N' := 6) (a0 := (6, .inl (fun _ => 0))) hx hb w__arrayClass_int rfl hK hP hD hS hA (fun _ => rfl) (by decide) (by decide) (by decide) (Nat.le_of_ble_eq_true rfl) (Nat.le_of_ble_eq_true rfl) dX5_init_15 (fun q_5 cA_6 H_7 hK hP hD hS => ?_)
  have hK : va_K (dC, dI) vwCl [(cA_2, .int), (cA_6, .int)] s := hK
  have hP : va_P (dC, dI) vwCl [(h0, .inr (5, [.ref q_1, .null, .null, .null, .null, .null, .null, .long 0, .long 0, .int 0])), (q_1, .inl (cA_2, 6, .inl (fun _ => 0))), (q_5, .inl (cA_6, 6, .inl (fun _ => 0)))] H_7 := hP
  have hD : va_D A [(h0, .inr (5, [.ref q_1, .null, .null, .null, .null, .null, .null, .long 0, .long 0, .int 0])), (q_1, .inl (cA_2, 6, .inl (fun _ => 0))), (q_5, .inl (cA_6, 6, .inl (fun _ => 0)))] := hD
  refine va_putF (D := (dC, dI)) (ci := 5) (v := .ref q_5) (ty := .array .int) (C := RX5) (T := TX5) (N := 10) hx hb hts hiX5 tyX5 tyX5_ok nmX5 hown hK hP hD hS 0 rfl rfl 1 (by decide) w__fieldLink_RX5_15_ShellHeap_Pantry_valvesOf_I_ (fun _ h9 => h9) rfl hin rfl (by decide +kernel) rfl rfl (Nat.le_of_ble_eq_true rfl) dX5_init_17 (fun H_8 locs hP hD hS => ?_)
  have hP : va_P (dC, dI) vwCl [(h0, .inr (5, [.ref q_1, .ref q_5, .null, .null, .null, .null, .null, .long 0, .long 0, .int 0])), (q_1, .inl (cA_2, 6, .inl (fun _ => 0))), (q_5, .inl (cA_6, 6, .inl (fun _ => 0)))] H_8 := hP
  have hD : va_D A [(h0, .inr (5, [.ref q_1, .ref q_5, .null, .null, .null, .null, .null, .long 0, .long 0, .int 0])), (q_1, .inl (cA_2, 6, .inl (fun _ => 0))), (q_5, .inl (cA_6, 6, .inl (fun _ => 0)))] := hD
  refine lv_aload_n hx hb dX5_init_20 rfl (lv_at hl 0 rfl) ?_
  refine lv_sipush (v := 11520) hx hb dX5_init_21 (by decide) ?_
  refine va_newa (ty := .int) (N' := 11520) (a0 := (11520, .inl (fun _ => 0))) hx hb w__arrayClass_int rfl hK hP hD hS hA (fun _ => rfl) (by decide) (by decide) (by decide) (Nat.le_of_ble_eq_true rfl) (Nat.le_of_ble_eq_true rfl) dX5_init_24 (fun q_9 cA_10 H_11 hK hP hD hS => ?_)
  have hK : va_K (dC, dI) vwCl [(cA_2, .int), (cA_6, .int), (cA_10, .int)] s := hK
  have hP : va_P (dC, dI) vwCl [(h0, .inr (5, [.ref q_1, .ref q_5, .null, .null, .null, .null, .null, .long 0, .long 0, .int 0])), (q_1, .inl (cA_2, 6, .inl (fun _ => 0))), (q_5, .inl (cA_6, 6, .inl (fun _ => 0))), (q_9, .inl (cA_10, 11520, .inl (fun _ => 0)))] H_11 := hP
  have hD : va_D A [(h0, .inr (5, [.ref q_1, .ref q_5, .null, .null, .null, .null, .null, .long 0, .long 0, .int 0])), (q_1, .inl (cA_2, 6, .inl (fun _ => 0))), (q_5, .inl (cA_6, 6, .inl (fun _ => 0))), (q_9, .inl (cA_10, 11520, .inl (fun _ => 0)))] := hD
  refine va_putF (D := (dC, dI)) (ci := 5) (v := .ref q_9) (ty := .array .int) (C := RX5) (T := TX5) (N := 10) hx hb hts hiX5 tyX5 tyX5_ok nmX5 hown hK hP hD hS 0 rfl rfl 2 (by decide) w__fieldLink_RX5_18_ShellHeap_Pantry_found_I_ (fun _ h9 => h9) rfl hin rfl (by decide +kernel) rfl rfl (Nat.le_of_ble_eq_true rfl) dX5_init_26 (fun H_12 locs hP hD hS => ?_)
  have hP : va_P (dC, dI) vwCl [(h0, .inr (5, [.ref q_1, .ref q_5, .ref q_9, .null, .null, .null, .null, .long 0, .long 0, .int 0])), (q_1, .inl (cA_2, 6, .inl (fun _ => 0))), (q_5, .inl (cA_6, 6, .inl (fun _ => 0))), (q_9, .inl (cA_10, 11520, .inl (fun _ => 0)))] H_12 := hP
  have hD : va_D A [(h0, .inr (5, [.ref q_1, .ref q_5, .ref q_9, .null, .null, .null, .null, .long 0, .long 0, .int 0])), (q_1, .inl (cA_2, 6, .inl (fun _ => 0))), (q_5, .inl (cA_6, 6, .inl (fun _ => 0))), (q_9, .inl (cA_10, 11520, .inl (fun _ => 0)))] := hD
  refine lv_aload_n hx hb dX5_init_29 rfl (lv_at hl 0 rfl) ?_
  refine lv_sipush (v := 144) hx hb dX5_init_30 (by decide) ?_
  refine va_newa (ty := .long) (N' := 144) (a0 := (144, .inr (.inl (fun _ => 0)))) hx hb w__arrayClass_long rfl hK hP hD hS hA (fun _ => rfl) (by decide) (by decide) (by decide) (Nat.le_of_ble_eq_true rfl) (Nat.le_of_ble_eq_true rfl) dX5_init_33 (fun q_13 cA_14 H_15 hK hP hD hS => ?_)
  have hK : va_K (dC, dI) vwCl [(cA_2, .int), (cA_6, .int), (cA_10, .int), (cA_14, .long)] s := hK
  have hP : va_P (dC, dI) vwCl [(h0, .inr (5, [.ref q_1, .ref q_5, .ref q_9, .null, .null, .null, .null, .long 0, .long 0, .int 0])), (q_1, .inl (cA_2, 6, .inl (fun _ => 0))), (q_5, .inl (cA_6, 6, .inl (fun _ => 0))), (q_9, .inl (cA_10, 11520, .inl (fun _ => 0))), (q_13, .inl (cA_14, 144, .inr (.inl (fun _ => 0))))] H_15 := hP
  have hD : va_D A [(h0, .inr (5, [.ref q_1, .ref q_5, .ref q_9, .null, .null, .null, .null, .long 0, .long 0, .int 0])), (q_1, .inl (cA_2, 6, .inl (fun _ => 0))), (q_5, .inl (cA_6, 6, .inl (fun _ => 0))), (q_9, .inl (cA_10, 11520, .inl (fun _ => 0))), (q_13, .inl (cA_14, 144, .inr (.inl (fun _ => 0))))] := hD
  refine va_putF (D := (dC, dI)) (ci := 5) (v := .ref q_13) (ty := .array .long) (C := RX5) (T := TX5) (N := 10) hx hb hts hiX5 tyX5 tyX5_ok nmX5 hown hK hP hD hS 0 rfl rfl 3 (by decide) w__fieldLink_RX5_21_ShellHeap_Pantry_ofBed_J_ (fun _ h9 => h9) rfl hin rfl (by decide +kernel) rfl rfl (Nat.le_of_ble_eq_true rfl) dX5_init_35 (fun H_16 locs hP hD hS => ?_)
  have hP : va_P (dC, dI) vwCl [(h0, .inr (5, [.ref q_1, .ref q_5, .ref q_9, .ref q_13, .null, .null, .null, .long 0, .long 0, .int 0])), (q_1, .inl (cA_2, 6, .inl (fun _ => 0))), (q_5, .inl (cA_6, 6, .inl (fun _ => 0))), (q_9, .inl (cA_10, 11520, .inl (fun _ => 0))), (q_13, .inl (cA_14, 144, .inr (.inl (fun _ => 0))))] H_16 := hP
  have hD : va_D A [(h0, .inr (5, [.ref q_1, .ref q_5, .ref q_9, .ref q_13, .null, .null, .null, .long 0, .long 0, .int 0])), (q_1, .inl (cA_2, 6, .inl (fun _ => 0))), (q_5, .inl (cA_6, 6, .inl (fun _ => 0))), (q_9, .inl (cA_10, 11520, .inl (fun _ => 0))), (q_13, .inl (cA_14, 144, .inr (.inl (fun _ => 0))))] := hD
  refine lv_aload_n hx hb dX5_init_38 rfl (lv_at hl 0 rfl) ?_
  refine lv_bipush (v := 24) hx hb dX5_init_39 (by decide) ?_
  refine va_newa (ty := .int) (N' := 24) (a0 := (24, .inl (fun _ => 0))) hx hb w__arrayClass_int rfl hK hP hD hS hA (fun _ => rfl) (by decide) (by decide) (by decide) (Nat.le_of_ble_eq_true rfl) (Nat.le_of_ble_eq_true rfl) dX5_init_41 (fun q_17 cA_18 H_19 hK hP hD hS => ?_)
  have hK : va_K (dC, dI) vwCl [(cA_2, .int), (cA_6, .int), (cA_10, .int), (cA_14, .long), (cA_18, .int)] s := hK
  have hP : va_P (dC, dI) vwCl [(h0, .inr (5, [.ref q_1, .ref q_5, .ref q_9, .ref q_13, .null, .null, .null, .long 0, .long 0, .int 0])), (q_1, .inl (cA_2, 6, .inl (fun _ => 0))), (q_5, .inl (cA_6, 6, .inl (fun _ => 0))), (q_9, .inl (cA_10, 11520, .inl (fun _ => 0))), (q_13, .inl (cA_14, 144, .inr (.inl (fun _ => 0)))), (q_17, .inl (cA_18, 24, .inl (fun _ => 0)))] H_19 := hP
  have hD : va_D A [(h0, .inr (5, [.ref q_1, .ref q_5, .ref q_9, .ref q_13, .null, .null, .null, .long 0, .long 0, .int 0])), (q_1, .inl (cA_2, 6, .inl (fun _ => 0))), (q_5, .inl (cA_6, 6, .inl (fun _ => 0))), (q_9, .inl (cA_10, 11520, .inl (fun _ => 0))), (q_13, .inl (cA_14, 144, .inr (.inl (fun _ => 0)))), (q_17, .inl (cA_18, 24, .inl (fun _ => 0)))] := hD
  refine va_putF (D := (dC, dI)) (ci := 5) (v := .ref q_17) (ty := .array .int) (C := RX5) (T := TX5) (N := 10) hx hb hts hiX5 tyX5 tyX5_ok nmX5 hown hK hP hD hS 0 rfl rfl 4 (by decide) w__fieldLink_RX5_25_ShellHeap_Pantry_keeps_I_ (fun _ h9 => h9) rfl hin rfl (by decide +kernel) rfl rfl (Nat.le_of_ble_eq_true rfl) dX5_init_43 (fun H_20 locs hP hD hS => ?_)
  have hP : va_P (dC, dI) vwCl [(h0, .inr (5, [.ref q_1, .ref q_5, .ref q_9, .ref q_13, .ref q_17, .null, .null, .long 0, .long 0, .int 0])), (q_1, .inl (cA_2, 6, .inl (fun _ => 0))), (q_5, .inl (cA_6, 6, .inl (fun _ => 0))), (q_9, .inl (cA_10, 11520, .inl (fun _ => 0))), (q_13, .inl (cA_14, 144, .inr (.inl (fun _ => 0)))), (q_17, .inl (cA_18, 24, .inl (fun _ => 0)))] H_20 := hP
  have hD : va_D A [(h0, .inr (5, [.ref q_1, .ref q_5, .ref q_9, .ref q_13, .ref q_17, .null, .null, .long 0, .long 0, .int 0])), (q_1, .inl (cA_2, 6, .inl (fun _ => 0))), (q_5, .inl (cA_6, 6, .inl (fun _ => 0))), (q_9, .inl (cA_10, 11520, .inl (fun _ => 0))), (q_13, .inl (cA_14, 144, .inr (.inl (fun _ => 0)))), (q_17, .inl (cA_18, 24, .inl (fun _ => 0)))] := hD
  refine lv_aload_n hx hb dX5_init_46 rfl (lv_at hl 0 rfl) ?_
  refine lv_bipush (v := 6) hx hb dX5_init_47 (by decide) ?_
  refine va_newa (ty := .long) (N' := 6) (a0 := (6, .inr (.inl (fun _ => 0)))) hx hb w__arrayClass_long rfl hK hP hD hS hA (fun _ => rfl) (by decide) (by decide) (by decide) (Nat.le_of_ble_eq_true rfl) (Nat.le_of_ble_eq_true rfl) dX5_init_49 (fun q_21 cA_22 H_23 hK hP hD hS => ?_)
  have hK : va_K (dC, dI) vwCl [(cA_2, .int), (cA_6, .int), (cA_10, .int), (cA_14, .long), (cA_18, .int), (cA_22, .long)] s := hK
  have hP : va_P (dC, dI) vwCl [(h0, .inr (5, [.ref q_1, .ref q_5, .ref q_9, .ref q_13, .ref q_17, .null, .null, .long 0, .long 0, .int 0])), (q_1, .inl (cA_2, 6, .inl (fun _ => 0))), (q_5, .inl (cA_6, 6, .inl (fun _ => 0))), (q_9, .inl (cA_10, 11520, .inl (fun _ => 0))), (q_13, .inl (cA_14, 144, .inr (.inl (fun _ => 0)))), (q_17, .inl (cA_18, 24, .inl (fun _ => 0))), (q_21, .inl (cA_22, 6, .inr (.inl (fun _ => 0))))] H_23 := hP
  have hD : va_D A [(h0, .inr (5, [.ref q_1, .ref q_5, .ref q_9, .ref q_13, .ref q_17, .null, .null, .long 0, .long 0, .int 0])), (q_1, .inl (cA_2, 6, .inl (fun _ => 0))), (q_5, .inl (cA_6, 6, .inl (fun _ => 0))), (q_9, .inl (cA_10, 11520, .inl (fun _ => 0))), (q_13, .inl (cA_14, 144, .inr (.inl (fun _ => 0)))), (q_17, .inl (cA_18, 24, .inl (fun _ => 0))), (q_21, .inl (cA_22, 6, .inr (.inl (fun _ => 0))))] := hD
  refine va_putF (D := (dC, dI)) (ci := 5) (v := .ref q_21) (ty := .array .long) (C := RX5) (T := TX5) (N := 10) hx hb hts hiX5 tyX5 tyX5_ok nmX5 hown hK hP hD hS 0 rfl rfl 5 (by decide) w__fieldLink_RX5_28_ShellHeap_Pantry_leastNumber_J_ (fun _ h9 => h9) rfl hin rfl (by decide +kernel) rfl rfl (Nat.le_of_ble_eq_true rfl) dX5_init_51 (fun H_24 locs hP hD hS => ?_)
  have hP : va_P (dC, dI) vwCl [(h0, .inr (5, [.ref q_1, .ref q_5, .ref q_9, .ref q_13, .ref q_17, .ref q_21, .null, .long 0, .long 0, .int 0])), (q_1, .inl (cA_2, 6, .inl (fun _ => 0))), (q_5, .inl (cA_6, 6, .inl (fun _ => 0))), (q_9, .inl (cA_10, 11520, .inl (fun _ => 0))), (q_13, .inl (cA_14, 144, .inr (.inl (fun _ => 0)))), (q_17, .inl (cA_18, 24, .inl (fun _ => 0))), (q_21, .inl (cA_22, 6, .inr (.inl (fun _ => 0))))] H_24 := hP
  have hD : va_D A [(h0, .inr (5, [.ref q_1, .ref q_5, .ref q_9, .ref q_13, .ref q_17, .ref q_21, .null, .long 0, .long 0, .int 0])), (q_1, .inl (cA_2, 6, .inl (fun _ => 0))), (q_5, .inl (cA_6, 6, .inl (fun _ => 0))), (q_9, .inl (cA_10, 11520, .inl (fun _ => 0))), (q_13, .inl (cA_14, 144, .inr (.inl (fun _ => 0)))), (q_17, .inl (cA_18, 24, .inl (fun _ => 0))), (q_21, .inl (cA_22, 6, .inr (.inl (fun _ => 0))))] := hD
  refine lv_aload_n hx hb dX5_init_54 rfl (lv_at hl 0 rfl) ?_
  refine lv_bipush (v := 6) hx hb dX5_init_55 (by decide) ?_
  refine va_newa (ty := .long) (N' := 6) (a0 := (6, .inr (.inl (fun _ => 0)))) hx hb w__arrayClass_long rfl hK hP hD hS hA (fun _ => rfl) (by decide) (by decide) (by decide) (Nat.le_of_ble_eq_true rfl) (Nat.le_of_ble_eq_true rfl) dX5_init_57 (fun q_25 cA_26 H_27 hK hP hD hS => ?_)
  have hK : va_K (dC, dI) vwCl [(cA_2, .int), (cA_6, .int), (cA_10, .int), (cA_14, .long), (cA_18, .int), (cA_22, .long), (cA_26, .long)] s := hK
  have hP : va_P (dC, dI) vwCl [(h0, .inr (5, [.ref q_1, .ref q_5, .ref q_9, .ref q_13, .ref q_17, .ref q_21, .null, .long 0, .long 0, .int 0])), (q_1, .inl (cA_2, 6, .inl (fun _ => 0))), (q_5, .inl (cA_6, 6, .inl (fun _ => 0))), (q_9, .inl (cA_10, 11520, .inl (fun _ => 0))), (q_13, .inl (cA_14, 144, .inr (.inl (fun _ => 0)))), (q_17, .inl (cA_18, 24, .inl (fun _ => 0))), (q_21, .inl (cA_22, 6, .inr (.inl (fun _ => 0)))), (q_25, .inl (cA_26, 6, .inr (.inl (fun _ => 0))))] H_27 := hP
  have hD : va_D A [(h0, .inr (5, [.ref q_1, .ref q_5, .ref q_9, .ref q_13, .ref q_17, .ref q_21, .null, .long 0, .long 0, .int 0])), (q_1, .inl (cA_2, 6, .inl (fun _ => 0))), (q_5, .inl (cA_6, 6, .inl (fun _ => 0))), (q_9, .inl (cA_10, 11520, .inl (fun _ => 0))), (q_13, .inl (cA_14, 144, .inr (.inl (fun _ => 0)))), (q_17, .inl (cA_18, 24, .inl (fun _ => 0))), (q_21, .inl (cA_22, 6, .inr (.inl (fun _ => 0)))), (q_25, .inl (cA_26, 6, .inr (.inl (fun _ => 0))))] := hD
  refine va_putF (D := (dC, dI)) (ci := 5) (v := .ref q_25) (ty := .array .long) (C := RX5) (T := TX5) (N := 10) hx hb hts hiX5 tyX5 tyX5_ok nmX5 hown hK hP hD hS 0 rfl rfl 6 (by decide) w__fieldLink_RX5_31_ShellHeap_Pantry_righted_J_ (fun _ h9 => h9) rfl hin rfl (by decide +kernel) rfl rfl (Nat.le_of_ble_eq_true rfl) dX5_init_59 (fun H_28 locs hP hD hS => ?_)
  have hP : va_P (dC, dI) vwCl [(h0, .inr (5, [.ref q_1, .ref q_5, .ref q_9, .ref q_13, .ref q_17, .ref q_21, .ref q_25, .long 0, .long 0, .int 0])), (q_1, .inl (cA_2, 6, .inl (fun _ => 0))), (q_5, .inl (cA_6, 6, .inl (fun _ => 0))), (q_9, .inl (cA_10, 11520, .inl (fun _ => 0))), (q_13, .inl (cA_14, 144, .inr (.inl (fun _ => 0)))), (q_17, .inl (cA_18, 24, .inl (fun _ => 0))), (q_21, .inl (cA_22, 6, .inr (.inl (fun _ => 0)))), (q_25, .inl (cA_26, 6, .inr (.inl (fun _ => 0))))] H_28 := hP
  have hD : va_D A [(h0, .inr (5, [.ref q_1, .ref q_5, .ref q_9, .ref q_13, .ref q_17, .ref q_21, .ref q_25, .long 0, .long 0, .int 0])), (q_1, .inl (cA_2, 6, .inl (fun _ => 0))), (q_5, .inl (cA_6, 6, .inl (fun _ => 0))), (q_9, .inl (cA_10, 11520, .inl (fun _ => 0))), (q_13, .inl (cA_14, 144, .inr (.inl (fun _ => 0)))), (q_17, .inl (cA_18, 24, .inl (fun _ => 0))), (q_21, .inl (cA_22, 6, .inr (.inl (fun _ => 0)))), (q_25, .inl (cA_26, 6, .inr (.inl (fun _ => 0))))] := hD
  refine lv_aload_n hx hb dX5_init_62 rfl (lv_at hl 0 rfl) ?_
  refine lv_lconst (v := 0) hx hb dX5_init_63 (by decide) ?_
  refine va_put (D := (dC, dI)) (ci := 5) (v := .long 0) (ty := .long) (C := RX5) (T := TX5) (N := 10) hx hb hts hiX5 tyX5 tyX5_ok nmX5 hown hK hP hD hS 0 rfl rfl 7 (by decide) w__fieldLink_RX5_34_ShellHeap_Pantry_food_J_ (fun _ h9 => h9) rfl (by decide +kernel) rfl rfl (Nat.le_of_ble_eq_true rfl) dX5_init_64 (fun H_29 locs hP hD hS => ?_)
  have hP : va_P (dC, dI) vwCl [(h0, .inr (5, [.ref q_1, .ref q_5, .ref q_9, .ref q_13, .ref q_17, .ref q_21, .ref q_25, .long 0, .long 0, .int 0])), (q_1, .inl (cA_2, 6, .inl (fun _ => 0))), (q_5, .inl (cA_6, 6, .inl (fun _ => 0))), (q_9, .inl (cA_10, 11520, .inl (fun _ => 0))), (q_13, .inl (cA_14, 144, .inr (.inl (fun _ => 0)))), (q_17, .inl (cA_18, 24, .inl (fun _ => 0))), (q_21, .inl (cA_22, 6, .inr (.inl (fun _ => 0)))), (q_25, .inl (cA_26, 6, .inr (.inl (fun _ => 0))))] H_29 := hP
  have hD : va_D A [(h0, .inr (5, [.ref q_1, .ref q_5, .ref q_9, .ref q_13, .ref q_17, .ref q_21, .ref q_25, .long 0, .long 0, .int 0])), (q_1, .inl (cA_2, 6, .inl (fun _ => 0))), (q_5, .inl (cA_6, 6, .inl (fun _ => 0))), (q_9, .inl (cA_10, 11520, .inl (fun _ => 0))), (q_13, .inl (cA_14, 144, .inr (.inl (fun _ => 0)))), (q_17, .inl (cA_18, 24, .inl (fun _ => 0))), (q_21, .inl (cA_22, 6, .inr (.inl (fun _ => 0)))), (q_25, .inl (cA_26, 6, .inr (.inl (fun _ => 0))))] := hD
  refine lv_aload_n hx hb dX5_init_67 rfl (lv_at hl 0 rfl) ?_
  refine lv_lconst (v := 0) hx hb dX5_init_68 (by decide) ?_
  refine va_put (D := (dC, dI)) (ci := 5) (v := .long 0) (ty := .long) (C := RX5) (T := TX5) (N := 10) hx hb hts hiX5 tyX5 tyX5_ok nmX5 hown hK hP hD hS 0 rfl rfl 8 (by decide) w__fieldLink_RX5_38_ShellHeap_Pantry_lost_J_ (fun _ h9 => h9) rfl (by decide +kernel) rfl rfl (Nat.le_of_ble_eq_true rfl) dX5_init_69 (fun H_30 locs hP hD hS => ?_)
  have hP : va_P (dC, dI) vwCl [(h0, .inr (5, [.ref q_1, .ref q_5, .ref q_9, .ref q_13, .ref q_17, .ref q_21, .ref q_25, .long 0, .long 0, .int 0])), (q_1, .inl (cA_2, 6, .inl (fun _ => 0))), (q_5, .inl (cA_6, 6, .inl (fun _ => 0))), (q_9, .inl (cA_10, 11520, .inl (fun _ => 0))), (q_13, .inl (cA_14, 144, .inr (.inl (fun _ => 0)))), (q_17, .inl (cA_18, 24, .inl (fun _ => 0))), (q_21, .inl (cA_22, 6, .inr (.inl (fun _ => 0)))), (q_25, .inl (cA_26, 6, .inr (.inl (fun _ => 0))))] H_30 := hP
  have hD : va_D A [(h0, .inr (5, [.ref q_1, .ref q_5, .ref q_9, .ref q_13, .ref q_17, .ref q_21, .ref q_25, .long 0, .long 0, .int 0])), (q_1, .inl (cA_2, 6, .inl (fun _ => 0))), (q_5, .inl (cA_6, 6, .inl (fun _ => 0))), (q_9, .inl (cA_10, 11520, .inl (fun _ => 0))), (q_13, .inl (cA_14, 144, .inr (.inl (fun _ => 0)))), (q_17, .inl (cA_18, 24, .inl (fun _ => 0))), (q_21, .inl (cA_22, 6, .inr (.inl (fun _ => 0)))), (q_25, .inl (cA_26, 6, .inr (.inl (fun _ => 0))))] := hD
  refine lv_aload_n hx hb dX5_init_72 rfl (lv_at hl 0 rfl) ?_
  refine lv_iconst (v := 0) hx hb dX5_init_73 (by decide) ?_
  refine va_put (D := (dC, dI)) (ci := 5) (v := .int 0) (ty := .int) (C := RX5) (T := TX5) (N := 10) hx hb hts hiX5 tyX5 tyX5_ok nmX5 hown hK hP hD hS 0 rfl rfl 9 (by decide) w__fieldLink_RX5_41_ShellHeap_Pantry_kinds_I_ (fun _ h9 => h9) rfl (by decide +kernel) rfl rfl (Nat.le_of_ble_eq_true rfl) dX5_init_74 (fun H_31 locs hP hD hS => ?_)
  have hP : va_P (dC, dI) vwCl [(h0, .inr (5, [.ref q_1, .ref q_5, .ref q_9, .ref q_13, .ref q_17, .ref q_21, .ref q_25, .long 0, .long 0, .int 0])), (q_1, .inl (cA_2, 6, .inl (fun _ => 0))), (q_5, .inl (cA_6, 6, .inl (fun _ => 0))), (q_9, .inl (cA_10, 11520, .inl (fun _ => 0))), (q_13, .inl (cA_14, 144, .inr (.inl (fun _ => 0)))), (q_17, .inl (cA_18, 24, .inl (fun _ => 0))), (q_21, .inl (cA_22, 6, .inr (.inl (fun _ => 0)))), (q_25, .inl (cA_26, 6, .inr (.inl (fun _ => 0))))] H_31 := hP
  have hD : va_D A [(h0, .inr (5, [.ref q_1, .ref q_5, .ref q_9, .ref q_13, .ref q_17, .ref q_21, .ref q_25, .long 0, .long 0, .int 0])), (q_1, .inl (cA_2, 6, .inl (fun _ => 0))), (q_5, .inl (cA_6, 6, .inl (fun _ => 0))), (q_9, .inl (cA_10, 11520, .inl (fun _ => 0))), (q_13, .inl (cA_14, 144, .inr (.inl (fun _ => 0)))), (q_17, .inl (cA_18, 24, .inl (fun _ => 0))), (q_21, .inl (cA_22, 6, .inr (.inl (fun _ => 0)))), (q_25, .inl (cA_26, 6, .inr (.inl (fun _ => 0))))] := hD
  have hP9 := hP.sub (ws' := [(h0, .inr (5, [.ref q_1, .ref q_5, .ref q_9, .ref q_13, .ref q_17, .ref q_21, .ref q_25, .long 0, .long 0, .int 0])), (q_1, .inl (cA_2, 6, .inl (fun _ => 0))), (q_5, .inl (cA_6, 6, .inl (fun _ => 0))), (q_17, .inl (cA_18, 24, .inl (fun _ => 0)))]) [0, 1, 2, 5] rfl
  have hD9 := hD.sub (ws' := [(h0, .inr (5, [.ref q_1, .ref q_5, .ref q_9, .ref q_13, .ref q_17, .ref q_21, .ref q_25, .long 0, .long 0, .int 0])), (q_1, .inl (cA_2, 6, .inl (fun _ => 0))), (q_5, .inl (cA_6, 6, .inl (fun _ => 0))), (q_17, .inl (cA_18, 24, .inl (fun _ => 0)))]) [0, 1, 2, 5] (by decide) rfl
  have hK9 := hK.sub (tys' := [(cA_2, .int), (cA_6, .int), (cA_18, .int)]) [0, 1, 4] rfl
  refine W.widen (k := 7) (n := 11712) (Nat.le_of_ble_eq_true rfl) (Nat.le_of_ble_eq_true rfl) ?_
  exact W.vret hx hb hr (fun t ht hW => ⟨⟨(), rfl, trivial, ⟨q_1, q_5, q_9, q_13, q_17, q_21, q_25, cA_2, cA_6, cA_18, by rw [ht]; exact hP9, va_K.moved hW.alike hK9, hD9⟩⟩, hS.F ht⟩) hS.2.2 dX5_init_77
def u_c_X6_init : List Cond := .code yX6_init cX6_init 3 none :: ([.methodLink RX6 3 objectInit, .instanceMethod objectInit, .code objectInit ⟨#[0xb1]⟩ 1 none, .arrayClass .int, .fieldLink RX6 11 "ShellHeap$Readers" "rows" "[I", .fieldLink RX6 15 "ShellHeap$Readers" "told" "[I", .fieldLink RX6 18 "ShellHeap$Readers" "ofBed" "[I", .fieldLink RX6 21 "ShellHeap$Readers" "gaps" "[I", .fieldLink RX6 24 "ShellHeap$Readers" "steps" "[I", .fieldLink RX6 27 "ShellHeap$Readers" "died" "[I", .fieldLink RX6 30 "ShellHeap$Readers" "miss" "I"] ++ wsX60)
set_option maxHeartbeats 4000000 in
set_option maxRecDepth 100000 in
theorem c_X6_init (l : Launch) (dC : Nat → ClassId) (dI : Nat → Nat → Nat) (sz : Nat) (h0 : Nat) : Met l yX6_init u_c_X6_init ({ frames := 1, cells := 6, slots := 208, locals := 12 }) (va_Pc [.ref h0] (z_C (dC, dI) vwCl [(h0, .inr (6, [.null, .null, .null, .null, .null, .null, .int 0]))] [] sz)) (va_Qv (fun (_ : Unit) => True) (fun (_ : Unit) (t : State) => ∃ (q0 : Nat), ∃ (q1 : Nat), ∃ (q2 : Nat), ∃ (q3 : Nat), ∃ (q4 : Nat), ∃ (q5 : Nat), ∃ (qc0 : ClassId), ∃ (g : Nat → Int32), va_P (dC, dI) vwCl [(h0, .inr (6, [.ref q0, .ref q1, .ref q2, .ref q3, .ref q4, .ref q5, .int (-1)])), (q0, .inl (qc0, 48, .inl g))] t.heap ∧ va_K (dC, dI) vwCl [(qc0, .int)] t ∧ va_D (va_A [(h0, .inr (6, [.null, .null, .null, .null, .null, .null, .int 0]))] sz) [(h0, .inr (6, [.ref q0, .ref q1, .ref q2, .ref q3, .ref q4, .ref q5, .int (-1)])), (q0, .inl (qc0, 48, .inl g))]) (va_A [(h0, .inr (6, [.null, .null, .null, .null, .null, .null, .int 0]))] sz)) 6 208 (va_A [(h0, .inr (6, [.null, .null, .null, .null, .null, .null, .int 0]))] sz) := by
  refine Met.ofW (cc := cX6_init) (maxL := 3) (ret := none) (by decide) rfl ?_
  intro p e s m args below meth c s₁ B hml hv
  obtain ⟨rfl, hsz, hP, hK, hD0⟩ := hv
  have hx := B.exec
  have hb := B.bytes
  have hr := B.returns
  have hts := atoms_spec (ws := u_c_X6_init) B.pre
  have hown : s.vm.findClass RX6 = some m.cls := findClass_of_methodNamed B.named
  have hlocks := B.notSynchronized
  have hin : meth.name = "<init>" := (name_of_methodNamed B.named B.method).1
  subst hsz
  have hD := hD0.self (sz := s.heap.size)
  generalize hAe : va_A [(h0, .inr (6, [.null, .null, .null, .null, .null, .null, .int 0]))] s.heap.size = A at hD ⊢
  have hA : ∀ q : Nat, s.heap.size ≤ q → A q := fun q h => by rw [← hAe]; exact Or.inr h
  have hS : va_S A s.heap s.heap [] := va_S.rf
  have hP : va_P (dC, dI) vwCl [(h0, .inr (6, [.null, .null, .null, .null, .null, .null, .int 0]))] s.heap := hP
  have w__methodLink_RX6_3_objectInit := hts (.methodLink RX6 3 objectInit) (by decide +kernel)
  have w__instanceMethod_objectInit := hts (.instanceMethod objectInit) (by decide +kernel)
  have w__code_objectInit_0xb1_1_none := hts (.code objectInit ⟨#[0xb1]⟩ 1 none) (by decide +kernel)
  have w__arrayClass_int := hts (.arrayClass .int) (by decide +kernel)
  have w__fieldLink_RX6_11_ShellHeap_Readers_rows_I_ := hts (.fieldLink RX6 11 "ShellHeap$Readers" "rows" "[I") (by decide +kernel)
  have hiX6 := show ∀ w ∈ u_ws RX6 TX6 7, w ∈ u_c_X6_init by decide +kernel
  have w__fieldLink_RX6_15_ShellHeap_Readers_told_I_ := hts (.fieldLink RX6 15 "ShellHeap$Readers" "told" "[I") (by decide +kernel)
  have w__fieldLink_RX6_18_ShellHeap_Readers_ofBed_I_ := hts (.fieldLink RX6 18 "ShellHeap$Readers" "ofBed" "[I") (by decide +kernel)
  have w__fieldLink_RX6_21_ShellHeap_Readers_gaps_I_ := hts (.fieldLink RX6 21 "ShellHeap$Readers" "gaps" "[I") (by decide +kernel)
  have w__fieldLink_RX6_24_ShellHeap_Readers_steps_I_ := hts (.fieldLink RX6 24 "ShellHeap$Readers" "steps" "[I") (by decide +kernel)
  have w__fieldLink_RX6_27_ShellHeap_Readers_died_I_ := hts (.fieldLink RX6 27 "ShellHeap$Readers" "died" "[I") (by decide +kernel)
  have w__fieldLink_RX6_30_ShellHeap_Readers_miss_I_ := hts (.fieldLink RX6 30 "ShellHeap$Readers" "miss" "I") (by decide +kernel)
  have hl := lv_entry ([.ref h0]) (n := 3) (Nat.le_of_ble_eq_true rfl)
  rw [lg_entry_eq]
  generalize (lg_sl ([.ref h0]) ++ List.replicate (3 - (lg_sl ([.ref h0])).length) Slot.unset).toArray = ls at hl ⊢
  have hl : lv_has ls 3 [(0, .ref h0)] := hl
  refine lv_aload_n hx hb dX6_init_0 rfl (lv_at hl 0 rfl) ?_
  refine W.objInit hx hb hown w__methodLink_RX6_3_objectInit w__instanceMethod_objectInit w__code_objectInit_0xb1_1_none rfl (by rw [hml]; exact hl.1) rfl dX6_init_1 (Nat.le_of_ble_eq_true rfl) (Nat.le_of_ble_eq_true rfl) ?_
  refine W.eq (g2 := F0 m 4 ls []) rfl ?_
  refine lv_aload_n hx hb dX6_init_4 rfl (lv_at hl 0 rfl) ?_
  refine lv_bipush (v := 48) hx hb dX6_init_5 (by decide) ?_
  refine va_newa (ty := .int) (N' := 48) (a0 := (48, .inl (fun _ => 0))) hx hb w__arrayClass_int rfl hK hP hD hS hA (fun _ => rfl) (by decide) (by decide) (by decide) (Nat.le_of_ble_eq_true rfl) (Nat.le_of_ble_eq_true rfl) dX6_init_7 (fun q_1 cA_2 H_3 hK hP hD hS => ?_)
  have hK : va_K (dC, dI) vwCl [(cA_2, .int)] s := hK
  have hP : va_P (dC, dI) vwCl [(h0, .inr (6, [.null, .null, .null, .null, .null, .null, .int 0])), (q_1, .inl (cA_2, 48, .inl (fun _ => 0)))] H_3 := hP
  have hD : va_D A [(h0, .inr (6, [.null, .null, .null, .null, .null, .null, .int 0])), (q_1, .inl (cA_2, 48, .inl (fun _ => 0)))] := hD
  refine va_putF (D := (dC, dI)) (ci := 6) (v := .ref q_1) (ty := .array .int) (C := RX6) (T := TX6) (N := 7) hx hb hts hiX6 tyX6 tyX6_ok nmX6 hown hK hP hD hS 0 rfl rfl 0 (by decide) w__fieldLink_RX6_11_ShellHeap_Readers_rows_I_ (fun _ h9 => h9) rfl hin rfl (by decide +kernel) rfl rfl (Nat.le_of_ble_eq_true rfl) dX6_init_9 (fun H_4 locs hP hD hS => ?_)
  have hP : va_P (dC, dI) vwCl [(h0, .inr (6, [.ref q_1, .null, .null, .null, .null, .null, .int 0])), (q_1, .inl (cA_2, 48, .inl (fun _ => 0)))] H_4 := hP
  have hD : va_D A [(h0, .inr (6, [.ref q_1, .null, .null, .null, .null, .null, .int 0])), (q_1, .inl (cA_2, 48, .inl (fun _ => 0)))] := hD
  refine lv_aload_n hx hb dX6_init_12 rfl (lv_at hl 0 rfl) ?_
  refine lv_sipush (v := 144) hx hb dX6_init_13 (by decide) ?_
  refine va_newa (ty := .int) (N' := 144) (a0 := (144, .inl (fun _ => 0))) hx hb w__arrayClass_int rfl hK hP hD hS hA (fun _ => rfl) (by decide) (by decide) (by decide) (Nat.le_of_ble_eq_true rfl) (Nat.le_of_ble_eq_true rfl) dX6_init_16 (fun q_5 cA_6 H_7 hK hP hD hS => ?_)
  have hK : va_K (dC, dI) vwCl [(cA_2, .int), (cA_6, .int)] s := hK
  have hP : va_P (dC, dI) vwCl [(h0, .inr (6, [.ref q_1, .null, .null, .null, .null, .null, .int 0])), (q_1, .inl (cA_2, 48, .inl (fun _ => 0))), (q_5, .inl (cA_6, 144, .inl (fun _ => 0)))] H_7 := hP
  have hD : va_D A [(h0, .inr (6, [.ref q_1, .null, .null, .null, .null, .null, .int 0])), (q_1, .inl (cA_2, 48, .inl (fun _ => 0))), (q_5, .inl (cA_6, 144, .inl (fun _ => 0)))] := hD
  refine va_putF (D := (dC, dI)) (ci := 6) (v := .ref q_5) (ty := .array .int) (C := RX6) (T := TX6) (N := 7) hx hb hts hiX6 tyX6 tyX6_ok nmX6 hown hK hP hD hS 0 rfl rfl 1 (by decide) w__fieldLink_RX6_15_ShellHeap_Readers_told_I_ (fun _ h9 => h9) rfl hin rfl (by decide +kernel) rfl rfl (Nat.le_of_ble_eq_true rfl) dX6_init_18 (fun H_8 locs hP hD hS => ?_)
  have hP : va_P (dC, dI) vwCl [(h0, .inr (6, [.ref q_1, .ref q_5, .null, .null, .null, .null, .int 0])), (q_1, .inl (cA_2, 48, .inl (fun _ => 0))), (q_5, .inl (cA_6, 144, .inl (fun _ => 0)))] H_8 := hP
  have hD : va_D A [(h0, .inr (6, [.ref q_1, .ref q_5, .null, .null, .null, .null, .int 0])), (q_1, .inl (cA_2, 48, .inl (fun _ => 0))), (q_5, .inl (cA_6, 144, .inl (fun _ => 0)))] := hD
  refine lv_aload_n hx hb dX6_init_21 rfl (lv_at hl 0 rfl) ?_
  refine lv_iconst (v := 4) hx hb dX6_init_22 (by decide) ?_
  refine va_newa (ty := .int) (N' := 4) (a0 := (4, .inl (fun _ => 0))) hx hb w__arrayClass_int rfl hK hP hD hS hA (fun _ => rfl) (by decide) (by decide) (by decide) (Nat.le_of_ble_eq_true rfl) (Nat.le_of_ble_eq_true rfl) dX6_init_23 (fun q_9 cA_10 H_11 hK hP hD hS => ?_)
  have hK : va_K (dC, dI) vwCl [(cA_2, .int), (cA_6, .int), (cA_10, .int)] s := hK
  have hP : va_P (dC, dI) vwCl [(h0, .inr (6, [.ref q_1, .ref q_5, .null, .null, .null, .null, .int 0])), (q_1, .inl (cA_2, 48, .inl (fun _ => 0))), (q_5, .inl (cA_6, 144, .inl (fun _ => 0))), (q_9, .inl (cA_10, 4, .inl (fun _ => 0)))] H_11 := hP
  have hD : va_D A [(h0, .inr (6, [.ref q_1, .ref q_5, .null, .null, .null, .null, .int 0])), (q_1, .inl (cA_2, 48, .inl (fun _ => 0))), (q_5, .inl (cA_6, 144, .inl (fun _ => 0))), (q_9, .inl (cA_10, 4, .inl (fun _ => 0)))] := hD
  refine va_putF (D := (dC, dI)) (ci := 6) (v := .ref q_9) (ty := .array .int) (C := RX6) (T := TX6) (N := 7) hx hb hts hiX6 tyX6 tyX6_ok nmX6 hown hK hP hD hS 0 rfl rfl 2 (by decide) w__fieldLink_RX6_18_ShellHeap_Readers_ofBed_I_ (fun _ h9 => h9) rfl hin rfl (by decide +kernel) rfl rfl (Nat.le_of_ble_eq_true rfl) dX6_init_25 (fun H_12 locs hP hD hS => ?_)
  have hP : va_P (dC, dI) vwCl [(h0, .inr (6, [.ref q_1, .ref q_5, .ref q_9, .null, .null, .null, .int 0])), (q_1, .inl (cA_2, 48, .inl (fun _ => 0))), (q_5, .inl (cA_6, 144, .inl (fun _ => 0))), (q_9, .inl (cA_10, 4, .inl (fun _ => 0)))] H_12 := hP
  have hD : va_D A [(h0, .inr (6, [.ref q_1, .ref q_5, .ref q_9, .null, .null, .null, .int 0])), (q_1, .inl (cA_2, 48, .inl (fun _ => 0))), (q_5, .inl (cA_6, 144, .inl (fun _ => 0))), (q_9, .inl (cA_10, 4, .inl (fun _ => 0)))] := hD
  refine lv_aload_n hx hb dX6_init_28 rfl (lv_at hl 0 rfl) ?_
  refine lv_iconst (v := 4) hx hb dX6_init_29 (by decide) ?_
  refine va_newa (ty := .int) (N' := 4) (a0 := (4, .inl (fun _ => 0))) hx hb w__arrayClass_int rfl hK hP hD hS hA (fun _ => rfl) (by decide) (by decide) (by decide) (Nat.le_of_ble_eq_true rfl) (Nat.le_of_ble_eq_true rfl) dX6_init_30 (fun q_13 cA_14 H_15 hK hP hD hS => ?_)
  have hK : va_K (dC, dI) vwCl [(cA_2, .int), (cA_6, .int), (cA_10, .int), (cA_14, .int)] s := hK
  have hP : va_P (dC, dI) vwCl [(h0, .inr (6, [.ref q_1, .ref q_5, .ref q_9, .null, .null, .null, .int 0])), (q_1, .inl (cA_2, 48, .inl (fun _ => 0))), (q_5, .inl (cA_6, 144, .inl (fun _ => 0))), (q_9, .inl (cA_10, 4, .inl (fun _ => 0))), (q_13, .inl (cA_14, 4, .inl (fun _ => 0)))] H_15 := hP
  have hD : va_D A [(h0, .inr (6, [.ref q_1, .ref q_5, .ref q_9, .null, .null, .null, .int 0])), (q_1, .inl (cA_2, 48, .inl (fun _ => 0))), (q_5, .inl (cA_6, 144, .inl (fun _ => 0))), (q_9, .inl (cA_10, 4, .inl (fun _ => 0))), (q_13, .inl (cA_14, 4, .inl (fun _ => 0)))] := hD
  refine va_putF (D := (dC, dI)) (ci := 6) (v := .ref q_13) (ty := .array .int) (C := RX6) (T := TX6) (N := 7) hx hb hts hiX6 tyX6 tyX6_ok nmX6 hown hK hP hD hS 0 rfl rfl 3 (by decide) w__fieldLink_RX6_21_ShellHeap_Readers_gaps_I_ (fun _ h9 => h9) rfl hin rfl (by decide +kernel) rfl rfl (Nat.le_of_ble_eq_true rfl) dX6_init_32 (fun H_16 locs hP hD hS => ?_)
  have hP : va_P (dC, dI) vwCl [(h0, .inr (6, [.ref q_1, .ref q_5, .ref q_9, .ref q_13, .null, .null, .int 0])), (q_1, .inl (cA_2, 48, .inl (fun _ => 0))), (q_5, .inl (cA_6, 144, .inl (fun _ => 0))), (q_9, .inl (cA_10, 4, .inl (fun _ => 0))), (q_13, .inl (cA_14, 4, .inl (fun _ => 0)))] H_16 := hP
  have hD : va_D A [(h0, .inr (6, [.ref q_1, .ref q_5, .ref q_9, .ref q_13, .null, .null, .int 0])), (q_1, .inl (cA_2, 48, .inl (fun _ => 0))), (q_5, .inl (cA_6, 144, .inl (fun _ => 0))), (q_9, .inl (cA_10, 4, .inl (fun _ => 0))), (q_13, .inl (cA_14, 4, .inl (fun _ => 0)))] := hD
  refine lv_aload_n hx hb dX6_init_35 rfl (lv_at hl 0 rfl) ?_
  refine lv_iconst (v := 4) hx hb dX6_init_36 (by decide) ?_
  refine va_newa (ty := .int) (N' := 4) (a0 := (4, .inl (fun _ => 0))) hx hb w__arrayClass_int rfl hK hP hD hS hA (fun _ => rfl) (by decide) (by decide) (by decide) (Nat.le_of_ble_eq_true rfl) (Nat.le_of_ble_eq_true rfl) dX6_init_37 (fun q_17 cA_18 H_19 hK hP hD hS => ?_)
  have hK : va_K (dC, dI) vwCl [(cA_2, .int), (cA_6, .int), (cA_10, .int), (cA_14, .int), (cA_18, .int)] s := hK
  have hP : va_P (dC, dI) vwCl [(h0, .inr (6, [.ref q_1, .ref q_5, .ref q_9, .ref q_13, .null, .null, .int 0])), (q_1, .inl (cA_2, 48, .inl (fun _ => 0))), (q_5, .inl (cA_6, 144, .inl (fun _ => 0))), (q_9, .inl (cA_10, 4, .inl (fun _ => 0))), (q_13, .inl (cA_14, 4, .inl (fun _ => 0))), (q_17, .inl (cA_18, 4, .inl (fun _ => 0)))] H_19 := hP
  have hD : va_D A [(h0, .inr (6, [.ref q_1, .ref q_5, .ref q_9, .ref q_13, .null, .null, .int 0])), (q_1, .inl (cA_2, 48, .inl (fun _ => 0))), (q_5, .inl (cA_6, 144, .inl (fun _ => 0))), (q_9, .inl (cA_10, 4, .inl (fun _ => 0))), (q_13, .inl (cA_14, 4, .inl (fun _ => 0))), (q_17, .inl (cA_18, 4, .inl (fun _ => 0)))] := hD
  refine va_putF (D := (dC, dI)) (ci := 6) (v := .ref q_17) (ty := .array .int) (C := RX6) (T := TX6) (N := 7) hx hb hts hiX6 tyX6 tyX6_ok nmX6 hown hK hP hD hS 0 rfl rfl 4 (by decide) w__fieldLink_RX6_24_ShellHeap_Readers_steps_I_ (fun _ h9 => h9) rfl hin rfl (by decide +kernel) rfl rfl (Nat.le_of_ble_eq_true rfl) dX6_init_39 (fun H_20 locs hP hD hS => ?_)
  have hP : va_P (dC, dI) vwCl [(h0, .inr (6, [.ref q_1, .ref q_5, .ref q_9, .ref q_13, .ref q_17, .null, .int 0])), (q_1, .inl (cA_2, 48, .inl (fun _ => 0))), (q_5, .inl (cA_6, 144, .inl (fun _ => 0))), (q_9, .inl (cA_10, 4, .inl (fun _ => 0))), (q_13, .inl (cA_14, 4, .inl (fun _ => 0))), (q_17, .inl (cA_18, 4, .inl (fun _ => 0)))] H_20 := hP
  have hD : va_D A [(h0, .inr (6, [.ref q_1, .ref q_5, .ref q_9, .ref q_13, .ref q_17, .null, .int 0])), (q_1, .inl (cA_2, 48, .inl (fun _ => 0))), (q_5, .inl (cA_6, 144, .inl (fun _ => 0))), (q_9, .inl (cA_10, 4, .inl (fun _ => 0))), (q_13, .inl (cA_14, 4, .inl (fun _ => 0))), (q_17, .inl (cA_18, 4, .inl (fun _ => 0)))] := hD
  refine lv_aload_n hx hb dX6_init_42 rfl (lv_at hl 0 rfl) ?_
  refine lv_iconst (v := 4) hx hb dX6_init_43 (by decide) ?_
  refine va_newa (ty := .int) (N' := 4) (a0 := (4, .inl (fun _ => 0))) hx hb w__arrayClass_int rfl hK hP hD hS hA (fun _ => rfl) (by decide) (by decide) (by decide) (Nat.le_of_ble_eq_true rfl) (Nat.le_of_ble_eq_true rfl) dX6_init_44 (fun q_21 cA_22 H_23 hK hP hD hS => ?_)
  have hK : va_K (dC, dI) vwCl [(cA_2, .int), (cA_6, .int), (cA_10, .int), (cA_14, .int), (cA_18, .int), (cA_22, .int)] s := hK
  have hP : va_P (dC, dI) vwCl [(h0, .inr (6, [.ref q_1, .ref q_5, .ref q_9, .ref q_13, .ref q_17, .null, .int 0])), (q_1, .inl (cA_2, 48, .inl (fun _ => 0))), (q_5, .inl (cA_6, 144, .inl (fun _ => 0))), (q_9, .inl (cA_10, 4, .inl (fun _ => 0))), (q_13, .inl (cA_14, 4, .inl (fun _ => 0))), (q_17, .inl (cA_18, 4, .inl (fun _ => 0))), (q_21, .inl (cA_22, 4, .inl (fun _ => 0)))] H_23 := hP
  have hD : va_D A [(h0, .inr (6, [.ref q_1, .ref q_5, .ref q_9, .ref q_13, .ref q_17, .null, .int 0])), (q_1, .inl (cA_2, 48, .inl (fun _ => 0))), (q_5, .inl (cA_6, 144, .inl (fun _ => 0))), (q_9, .inl (cA_10, 4, .inl (fun _ => 0))), (q_13, .inl (cA_14, 4, .inl (fun _ => 0))), (q_17, .inl (cA_18, 4, .inl (fun _ => 0))), (q_21, .inl (cA_22, 4, .inl (fun _ => 0)))] := hD
  refine va_putF (D := (dC, dI)) (ci := 6) (v := .ref q_21) (ty := .array .int) (C := RX6) (T := TX6) (N := 7) hx hb hts hiX6 tyX6 tyX6_ok nmX6 hown hK hP hD hS 0 rfl rfl 5 (by decide) w__fieldLink_RX6_27_ShellHeap_Readers_died_I_ (fun _ h9 => h9) rfl hin rfl (by decide +kernel) rfl rfl (Nat.le_of_ble_eq_true rfl) dX6_init_46 (fun H_24 locs hP hD hS => ?_)
  have hP : va_P (dC, dI) vwCl [(h0, .inr (6, [.ref q_1, .ref q_5, .ref q_9, .ref q_13, .ref q_17, .ref q_21, .int 0])), (q_1, .inl (cA_2, 48, .inl (fun _ => 0))), (q_5, .inl (cA_6, 144, .inl (fun _ => 0))), (q_9, .inl (cA_10, 4, .inl (fun _ => 0))), (q_13, .inl (cA_14, 4, .inl (fun _ => 0))), (q_17, .inl (cA_18, 4, .inl (fun _ => 0))), (q_21, .inl (cA_22, 4, .inl (fun _ => 0)))] H_24 := hP
  have hD : va_D A [(h0, .inr (6, [.ref q_1, .ref q_5, .ref q_9, .ref q_13, .ref q_17, .ref q_21, .int 0])), (q_1, .inl (cA_2, 48, .inl (fun _ => 0))), (q_5, .inl (cA_6, 144, .inl (fun _ => 0))), (q_9, .inl (cA_10, 4, .inl (fun _ => 0))), (q_13, .inl (cA_14, 4, .inl (fun _ => 0))), (q_17, .inl (cA_18, 4, .inl (fun _ => 0))), (q_21, .inl (cA_22, 4, .inl (fun _ => 0)))] := hD
  refine lv_aload_n hx hb dX6_init_49 rfl (lv_at hl 0 rfl) ?_
  refine lv_iconst (v := (-1)) hx hb dX6_init_50 (by decide) ?_
  refine va_put (D := (dC, dI)) (ci := 6) (v := .int (-1)) (ty := .int) (C := RX6) (T := TX6) (N := 7) hx hb hts hiX6 tyX6 tyX6_ok nmX6 hown hK hP hD hS 0 rfl rfl 6 (by decide) w__fieldLink_RX6_30_ShellHeap_Readers_miss_I_ (fun _ h9 => h9) rfl (by decide +kernel) rfl rfl (Nat.le_of_ble_eq_true rfl) dX6_init_51 (fun H_25 locs hP hD hS => ?_)
  have hP : va_P (dC, dI) vwCl [(h0, .inr (6, [.ref q_1, .ref q_5, .ref q_9, .ref q_13, .ref q_17, .ref q_21, .int (-1)])), (q_1, .inl (cA_2, 48, .inl (fun _ => 0))), (q_5, .inl (cA_6, 144, .inl (fun _ => 0))), (q_9, .inl (cA_10, 4, .inl (fun _ => 0))), (q_13, .inl (cA_14, 4, .inl (fun _ => 0))), (q_17, .inl (cA_18, 4, .inl (fun _ => 0))), (q_21, .inl (cA_22, 4, .inl (fun _ => 0)))] H_25 := hP
  have hD : va_D A [(h0, .inr (6, [.ref q_1, .ref q_5, .ref q_9, .ref q_13, .ref q_17, .ref q_21, .int (-1)])), (q_1, .inl (cA_2, 48, .inl (fun _ => 0))), (q_5, .inl (cA_6, 144, .inl (fun _ => 0))), (q_9, .inl (cA_10, 4, .inl (fun _ => 0))), (q_13, .inl (cA_14, 4, .inl (fun _ => 0))), (q_17, .inl (cA_18, 4, .inl (fun _ => 0))), (q_21, .inl (cA_22, 4, .inl (fun _ => 0)))] := hD
  refine lv_iconst (v := 0) hx hb dX6_init_54 (by decide) ?_
  refine lv_istore_n (lv' := [(1, .int 0), (0, .ref h0)]) hx hb dX6_init_55 rfl hl (by decide) rfl (fun ls hl => ?_)
  refine lv_iload_n hx hb dX6_init_56 rfl (lv_at hl 0 rfl) ?_
  refine lv_iconst (v := 3) hx hb dX6_init_57 (by decide) ?_
  refine lv_icmp_ge (tgt := 96) hx hb dX6_init_58 (by decide) (fun c_26 => absurd c_26 (by decide)) (fun _ => ?_)
  refine lv_iconst (v := 0) hx hb dX6_init_61 (by decide) ?_
  refine lv_istore_n (lv' := [(2, .int 0), (1, .int 0), (0, .ref h0)]) hx hb dX6_init_62 rfl hl (by decide) rfl (fun ls hl => ?_)
  refine lv_iload_n hx hb dX6_init_63 rfl (lv_at hl 0 rfl) ?_
  refine lv_iconst (v := 4) hx hb dX6_init_64 (by decide) ?_
  refine lv_icmp_ge (tgt := 90) hx hb dX6_init_65 (by decide) (fun c_27 => absurd c_27 (by decide)) (fun _ => ?_)
  refine lv_aload_n hx hb dX6_init_68 rfl (lv_at hl 2 rfl) ?_
  refine va_get (D := (dC, dI)) (ci := 6) (v := .ref q_1) (C := RX6) (T := TX6) (N := 7) hx hb hts hiX6 hown hK hP 0 rfl rfl 0 (by decide) w__fieldLink_RX6_11_ShellHeap_Readers_rows_I_ (fun _ h9 => h9) rfl dX6_init_69 ?_
  refine lv_iload_n hx hb dX6_init_72 rfl (lv_at hl 1 rfl) ?_
  refine lv_iconst (v := 4) hx hb dX6_init_73 (by decide) ?_
  refine lv_imul hx hb dX6_init_74 ?_
  refine lv_topi (fun x_28 e_29 => ?_)
  obtain rfl : x_28 = 0 := e_29.trans (by decide)
  refine lv_iload_n hx hb dX6_init_75 rfl (lv_at hl 0 rfl) ?_
  refine lv_iadd hx hb dX6_init_76 ?_
  refine lv_topi (fun x_30 e_31 => ?_)
  obtain rfl : x_30 = 0 := e_31.trans (by decide)
  refine lv_iconst (v := 4) hx hb dX6_init_77 (by decide) ?_
  refine lv_imul hx hb dX6_init_78 ?_
  refine lv_topi (fun x_32 e_33 => ?_)
  obtain rfl : x_32 = 0 := e_33.trans (by decide)
  refine lv_iload_n hx hb dX6_init_79 rfl (lv_at hl 0 rfl) ?_
  refine lv_iadd hx hb dX6_init_80 ?_
  refine lv_topi (fun x_34 e_35 => ?_)
  obtain rfl : x_34 = 0 := e_35.trans (by decide)
  refine lv_bipush (v := 16) hx hb dX6_init_81 (by decide) ?_
  refine va_iast hx hb hK hP hD hS 1 0 rfl rfl (by unfold vp_in; decide) dX6_init_83 (fun H_36 locs hP hD hS => ?_)
  have hP : va_P (dC, dI) vwCl [(h0, .inr (6, [.ref q_1, .ref q_5, .ref q_9, .ref q_13, .ref q_17, .ref q_21, .int (-1)])), (q_1, .inl (cA_2, 48, .inl (upd (fun _ => 0) (0 : Int32).toNatClampNeg 16))), (q_5, .inl (cA_6, 144, .inl (fun _ => 0))), (q_9, .inl (cA_10, 4, .inl (fun _ => 0))), (q_13, .inl (cA_14, 4, .inl (fun _ => 0))), (q_17, .inl (cA_18, 4, .inl (fun _ => 0))), (q_21, .inl (cA_22, 4, .inl (fun _ => 0)))] H_36 := hP
  have hD : va_D A [(h0, .inr (6, [.ref q_1, .ref q_5, .ref q_9, .ref q_13, .ref q_17, .ref q_21, .int (-1)])), (q_1, .inl (cA_2, 48, .inl (upd (fun _ => 0) (0 : Int32).toNatClampNeg 16))), (q_5, .inl (cA_6, 144, .inl (fun _ => 0))), (q_9, .inl (cA_10, 4, .inl (fun _ => 0))), (q_13, .inl (cA_14, 4, .inl (fun _ => 0))), (q_17, .inl (cA_18, 4, .inl (fun _ => 0))), (q_21, .inl (cA_22, 4, .inl (fun _ => 0)))] := hD
  generalize (upd (fun _ => 0) (0 : Int32).toNatClampNeg 16) = f_37 at hP hD
  refine lv_iinc (v := 1) (lv' := [(2, .int 1), (1, .int 0), (0, .ref h0)]) hx hb dX6_init_84 hl (k := 0) rfl (by decide) (by decide) rfl (fun ls hl => ?_)
  refine lv_goto (tgt := 63) hx hb dX6_init_87 (by decide) ?_
  refine lv_iload_n hx hb dX6_init_63 rfl (lv_at hl 0 rfl) ?_
  refine lv_iconst (v := 4) hx hb dX6_init_64 (by decide) ?_
  refine lv_icmp_ge (tgt := 90) hx hb dX6_init_65 (by decide) (fun c_38 => absurd c_38 (by decide)) (fun _ => ?_)
  refine lv_aload_n hx hb dX6_init_68 rfl (lv_at hl 2 rfl) ?_
  refine va_get (D := (dC, dI)) (ci := 6) (v := .ref q_1) (C := RX6) (T := TX6) (N := 7) hx hb hts hiX6 hown hK hP 0 rfl rfl 0 (by decide) w__fieldLink_RX6_11_ShellHeap_Readers_rows_I_ (fun _ h9 => h9) rfl dX6_init_69 ?_
  refine lv_iload_n hx hb dX6_init_72 rfl (lv_at hl 1 rfl) ?_
  refine lv_iconst (v := 4) hx hb dX6_init_73 (by decide) ?_
  refine lv_imul hx hb dX6_init_74 ?_
  refine lv_topi (fun x_39 e_40 => ?_)
  obtain rfl : x_39 = 0 := e_40.trans (by decide)
  refine lv_iload_n hx hb dX6_init_75 rfl (lv_at hl 0 rfl) ?_
  refine lv_iadd hx hb dX6_init_76 ?_
  refine lv_topi (fun x_41 e_42 => ?_)
  obtain rfl : x_41 = 1 := e_42.trans (by decide)
  refine lv_iconst (v := 4) hx hb dX6_init_77 (by decide) ?_
  refine lv_imul hx hb dX6_init_78 ?_
  refine lv_topi (fun x_43 e_44 => ?_)
  obtain rfl : x_43 = 4 := e_44.trans (by decide)
  refine lv_iload_n hx hb dX6_init_79 rfl (lv_at hl 0 rfl) ?_
  refine lv_iadd hx hb dX6_init_80 ?_
  refine lv_topi (fun x_45 e_46 => ?_)
  obtain rfl : x_45 = 5 := e_46.trans (by decide)
  refine lv_bipush (v := 16) hx hb dX6_init_81 (by decide) ?_
  refine va_iast hx hb hK hP hD hS 1 0 rfl rfl (by unfold vp_in; decide) dX6_init_83 (fun H_47 locs hP hD hS => ?_)
  have hP : va_P (dC, dI) vwCl [(h0, .inr (6, [.ref q_1, .ref q_5, .ref q_9, .ref q_13, .ref q_17, .ref q_21, .int (-1)])), (q_1, .inl (cA_2, 48, .inl (upd f_37 (5 : Int32).toNatClampNeg 16))), (q_5, .inl (cA_6, 144, .inl (fun _ => 0))), (q_9, .inl (cA_10, 4, .inl (fun _ => 0))), (q_13, .inl (cA_14, 4, .inl (fun _ => 0))), (q_17, .inl (cA_18, 4, .inl (fun _ => 0))), (q_21, .inl (cA_22, 4, .inl (fun _ => 0)))] H_47 := hP
  have hD : va_D A [(h0, .inr (6, [.ref q_1, .ref q_5, .ref q_9, .ref q_13, .ref q_17, .ref q_21, .int (-1)])), (q_1, .inl (cA_2, 48, .inl (upd f_37 (5 : Int32).toNatClampNeg 16))), (q_5, .inl (cA_6, 144, .inl (fun _ => 0))), (q_9, .inl (cA_10, 4, .inl (fun _ => 0))), (q_13, .inl (cA_14, 4, .inl (fun _ => 0))), (q_17, .inl (cA_18, 4, .inl (fun _ => 0))), (q_21, .inl (cA_22, 4, .inl (fun _ => 0)))] := hD
  generalize (upd f_37 (5 : Int32).toNatClampNeg 16) = f_48 at hP hD
  refine lv_iinc (v := 2) (lv' := [(2, .int 2), (1, .int 0), (0, .ref h0)]) hx hb dX6_init_84 hl (k := 0) rfl (by decide) (by decide) rfl (fun ls hl => ?_)
  refine lv_goto (tgt := 63) hx hb dX6_init_87 (by decide) ?_
  refine lv_iload_n hx hb dX6_init_63 rfl (lv_at hl 0 rfl) ?_
  refine lv_iconst (v := 4) hx hb dX6_init_64 (by decide) ?_
  refine lv_icmp_ge (tgt := 90) hx hb dX6_init_65 (by decide) (fun c_49 => absurd c_49 (by decide)) (fun _ => ?_)
  refine lv_aload_n hx hb dX6_init_68 rfl (lv_at hl 2 rfl) ?_
  refine va_get (D := (dC, dI)) (ci := 6) (v := .ref q_1) (C := RX6) (T := TX6) (N := 7) hx hb hts hiX6 hown hK hP 0 rfl rfl 0 (by decide) w__fieldLink_RX6_11_ShellHeap_Readers_rows_I_ (fun _ h9 => h9) rfl dX6_init_69 ?_
  refine lv_iload_n hx hb dX6_init_72 rfl (lv_at hl 1 rfl) ?_
  refine lv_iconst (v := 4) hx hb dX6_init_73 (by decide) ?_
  refine lv_imul hx hb dX6_init_74 ?_
  refine lv_topi (fun x_50 e_51 => ?_)
  obtain rfl : x_50 = 0 := e_51.trans (by decide)
  refine lv_iload_n hx hb dX6_init_75 rfl (lv_at hl 0 rfl) ?_
  refine lv_iadd hx hb dX6_init_76 ?_
  refine lv_topi (fun x_52 e_53 => ?_)
  obtain rfl : x_52 = 2 := e_53.trans (by decide)
  refine lv_iconst (v := 4) hx hb dX6_init_77 (by decide) ?_
  refine lv_imul hx hb dX6_init_78 ?_
  refine lv_topi (fun x_54 e_55 => ?_)
  obtain rfl : x_54 = 8 := e_55.trans (by decide)
  refine lv_iload_n hx hb dX6_init_79 rfl (lv_at hl 0 rfl) ?_
  refine lv_iadd hx hb dX6_init_80 ?_
  refine lv_topi (fun x_56 e_57 => ?_)
  obtain rfl : x_56 = 10 := e_57.trans (by decide)
  refine lv_bipush (v := 16) hx hb dX6_init_81 (by decide) ?_
  refine va_iast hx hb hK hP hD hS 1 0 rfl rfl (by unfold vp_in; decide) dX6_init_83 (fun H_58 locs hP hD hS => ?_)
  have hP : va_P (dC, dI) vwCl [(h0, .inr (6, [.ref q_1, .ref q_5, .ref q_9, .ref q_13, .ref q_17, .ref q_21, .int (-1)])), (q_1, .inl (cA_2, 48, .inl (upd f_48 (10 : Int32).toNatClampNeg 16))), (q_5, .inl (cA_6, 144, .inl (fun _ => 0))), (q_9, .inl (cA_10, 4, .inl (fun _ => 0))), (q_13, .inl (cA_14, 4, .inl (fun _ => 0))), (q_17, .inl (cA_18, 4, .inl (fun _ => 0))), (q_21, .inl (cA_22, 4, .inl (fun _ => 0)))] H_58 := hP
  have hD : va_D A [(h0, .inr (6, [.ref q_1, .ref q_5, .ref q_9, .ref q_13, .ref q_17, .ref q_21, .int (-1)])), (q_1, .inl (cA_2, 48, .inl (upd f_48 (10 : Int32).toNatClampNeg 16))), (q_5, .inl (cA_6, 144, .inl (fun _ => 0))), (q_9, .inl (cA_10, 4, .inl (fun _ => 0))), (q_13, .inl (cA_14, 4, .inl (fun _ => 0))), (q_17, .inl (cA_18, 4, .inl (fun _ => 0))), (q_21, .inl (cA_22, 4, .inl (fun _ => 0)))] := hD
  generalize (upd f_48 (10 : Int32).toNatClampNeg 16) = f_59 at hP hD
  refine lv_iinc (v := 3) (lv' := [(2, .int 3), (1, .int 0), (0, .ref h0)]) hx hb dX6_init_84 hl (k := 0) rfl (by decide) (by decide) rfl (fun ls hl => ?_)
  refine lv_goto (tgt := 63) hx hb dX6_init_87 (by decide) ?_
  refine lv_iload_n hx hb dX6_init_63 rfl (lv_at hl 0 rfl) ?_
  refine lv_iconst (v := 4) hx hb dX6_init_64 (by decide) ?_
  refine lv_icmp_ge (tgt := 90) hx hb dX6_init_65 (by decide) (fun c_60 => absurd c_60 (by decide)) (fun _ => ?_)
  refine lv_aload_n hx hb dX6_init_68 rfl (lv_at hl 2 rfl) ?_
  refine va_get (D := (dC, dI)) (ci := 6) (v := .ref q_1) (C := RX6) (T := TX6) (N := 7) hx hb hts hiX6 hown hK hP 0 rfl rfl 0 (by decide) w__fieldLink_RX6_11_ShellHeap_Readers_rows_I_ (fun _ h9 => h9) rfl dX6_init_69 ?_
  refine lv_iload_n hx hb dX6_init_72 rfl (lv_at hl 1 rfl) ?_
  refine lv_iconst (v := 4) hx hb dX6_init_73 (by decide) ?_
  refine lv_imul hx hb dX6_init_74 ?_
  refine lv_topi (fun x_61 e_62 => ?_)
  obtain rfl : x_61 = 0 := e_62.trans (by decide)
  refine lv_iload_n hx hb dX6_init_75 rfl (lv_at hl 0 rfl) ?_
  refine lv_iadd hx hb dX6_init_76 ?_
  refine lv_topi (fun x_63 e_64 => ?_)
  obtain rfl : x_63 = 3 := e_64.trans (by decide)
  refine lv_iconst (v := 4) hx hb dX6_init_77 (by decide) ?_
  refine lv_imul hx hb dX6_init_78 ?_
  refine lv_topi (fun x_65 e_66 => ?_)
  obtain rfl : x_65 = 12 := e_66.trans (by decide)
  refine lv_iload_n hx hb dX6_init_79 rfl (lv_at hl 0 rfl) ?_
  refine lv_iadd hx hb dX6_init_80 ?_
  refine lv_topi (fun x_67 e_68 => ?_)
  obtain rfl : x_67 = 15 := e_68.trans (by decide)
  refine lv_bipush (v := 16) hx hb dX6_init_81 (by decide) ?_
  refine va_iast hx hb hK hP hD hS 1 0 rfl rfl (by unfold vp_in; decide) dX6_init_83 (fun H_69 locs hP hD hS => ?_)
  have hP : va_P (dC, dI) vwCl [(h0, .inr (6, [.ref q_1, .ref q_5, .ref q_9, .ref q_13, .ref q_17, .ref q_21, .int (-1)])), (q_1, .inl (cA_2, 48, .inl (upd f_59 (15 : Int32).toNatClampNeg 16))), (q_5, .inl (cA_6, 144, .inl (fun _ => 0))), (q_9, .inl (cA_10, 4, .inl (fun _ => 0))), (q_13, .inl (cA_14, 4, .inl (fun _ => 0))), (q_17, .inl (cA_18, 4, .inl (fun _ => 0))), (q_21, .inl (cA_22, 4, .inl (fun _ => 0)))] H_69 := hP
  have hD : va_D A [(h0, .inr (6, [.ref q_1, .ref q_5, .ref q_9, .ref q_13, .ref q_17, .ref q_21, .int (-1)])), (q_1, .inl (cA_2, 48, .inl (upd f_59 (15 : Int32).toNatClampNeg 16))), (q_5, .inl (cA_6, 144, .inl (fun _ => 0))), (q_9, .inl (cA_10, 4, .inl (fun _ => 0))), (q_13, .inl (cA_14, 4, .inl (fun _ => 0))), (q_17, .inl (cA_18, 4, .inl (fun _ => 0))), (q_21, .inl (cA_22, 4, .inl (fun _ => 0)))] := hD
  generalize (upd f_59 (15 : Int32).toNatClampNeg 16) = f_70 at hP hD
  refine lv_iinc (v := 4) (lv' := [(2, .int 4), (1, .int 0), (0, .ref h0)]) hx hb dX6_init_84 hl (k := 0) rfl (by decide) (by decide) rfl (fun ls hl => ?_)
  refine lv_goto (tgt := 63) hx hb dX6_init_87 (by decide) ?_
  refine lv_iload_n hx hb dX6_init_63 rfl (lv_at hl 0 rfl) ?_
  refine lv_iconst (v := 4) hx hb dX6_init_64 (by decide) ?_
  refine lv_icmp_ge (tgt := 90) hx hb dX6_init_65 (by decide) (fun _ => ?_) (fun c_71 => absurd (by decide) c_71)
  refine lv_iinc (v := 1) (lv' := [(1, .int 1), (2, .int 4), (0, .ref h0)]) hx hb dX6_init_90 hl (k := 1) rfl (by decide) (by decide) rfl (fun ls hl => ?_)
  refine lv_goto (tgt := 56) hx hb dX6_init_93 (by decide) ?_
  refine lv_iload_n hx hb dX6_init_56 rfl (lv_at hl 0 rfl) ?_
  refine lv_iconst (v := 3) hx hb dX6_init_57 (by decide) ?_
  refine lv_icmp_ge (tgt := 96) hx hb dX6_init_58 (by decide) (fun c_72 => absurd c_72 (by decide)) (fun _ => ?_)
  refine lv_iconst (v := 0) hx hb dX6_init_61 (by decide) ?_
  refine lv_istore_n (lv' := [(2, .int 0), (1, .int 1), (0, .ref h0)]) hx hb dX6_init_62 rfl hl (by decide) rfl (fun ls hl => ?_)
  refine lv_iload_n hx hb dX6_init_63 rfl (lv_at hl 0 rfl) ?_
  refine lv_iconst (v := 4) hx hb dX6_init_64 (by decide) ?_
  refine lv_icmp_ge (tgt := 90) hx hb dX6_init_65 (by decide) (fun c_73 => absurd c_73 (by decide)) (fun _ => ?_)
  refine lv_aload_n hx hb dX6_init_68 rfl (lv_at hl 2 rfl) ?_
  refine va_get (D := (dC, dI)) (ci := 6) (v := .ref q_1) (C := RX6) (T := TX6) (N := 7) hx hb hts hiX6 hown hK hP 0 rfl rfl 0 (by decide) w__fieldLink_RX6_11_ShellHeap_Readers_rows_I_ (fun _ h9 => h9) rfl dX6_init_69 ?_
  refine lv_iload_n hx hb dX6_init_72 rfl (lv_at hl 1 rfl) ?_
  refine lv_iconst (v := 4) hx hb dX6_init_73 (by decide) ?_
  refine lv_imul hx hb dX6_init_74 ?_
  refine lv_topi (fun x_74 e_75 => ?_)
  obtain rfl : x_74 = 4 := e_75.trans (by decide)
  refine lv_iload_n hx hb dX6_init_75 rfl (lv_at hl 0 rfl) ?_
  refine lv_iadd hx hb dX6_init_76 ?_
  refine lv_topi (fun x_76 e_77 => ?_)
  obtain rfl : x_76 = 4 := e_77.trans (by decide)
  refine lv_iconst (v := 4) hx hb dX6_init_77 (by decide) ?_
  refine lv_imul hx hb dX6_init_78 ?_
  refine lv_topi (fun x_78 e_79 => ?_)
  obtain rfl : x_78 = 16 := e_79.trans (by decide)
  refine lv_iload_n hx hb dX6_init_79 rfl (lv_at hl 0 rfl) ?_
  refine lv_iadd hx hb dX6_init_80 ?_
  refine lv_topi (fun x_80 e_81 => ?_)
  obtain rfl : x_80 = 16 := e_81.trans (by decide)
  refine lv_bipush (v := 16) hx hb dX6_init_81 (by decide) ?_
  refine va_iast hx hb hK hP hD hS 1 0 rfl rfl (by unfold vp_in; decide) dX6_init_83 (fun H_82 locs hP hD hS => ?_)
  have hP : va_P (dC, dI) vwCl [(h0, .inr (6, [.ref q_1, .ref q_5, .ref q_9, .ref q_13, .ref q_17, .ref q_21, .int (-1)])), (q_1, .inl (cA_2, 48, .inl (upd f_70 (16 : Int32).toNatClampNeg 16))), (q_5, .inl (cA_6, 144, .inl (fun _ => 0))), (q_9, .inl (cA_10, 4, .inl (fun _ => 0))), (q_13, .inl (cA_14, 4, .inl (fun _ => 0))), (q_17, .inl (cA_18, 4, .inl (fun _ => 0))), (q_21, .inl (cA_22, 4, .inl (fun _ => 0)))] H_82 := hP
  have hD : va_D A [(h0, .inr (6, [.ref q_1, .ref q_5, .ref q_9, .ref q_13, .ref q_17, .ref q_21, .int (-1)])), (q_1, .inl (cA_2, 48, .inl (upd f_70 (16 : Int32).toNatClampNeg 16))), (q_5, .inl (cA_6, 144, .inl (fun _ => 0))), (q_9, .inl (cA_10, 4, .inl (fun _ => 0))), (q_13, .inl (cA_14, 4, .inl (fun _ => 0))), (q_17, .inl (cA_18, 4, .inl (fun _ => 0))), (q_21, .inl (cA_22, 4, .inl (fun _ => 0)))] := hD
  generalize (upd f_70 (16 : Int32).toNatClampNeg 16) = f_83 at hP hD
  refine lv_iinc (v := 1) (lv' := [(2, .int 1), (1, .int 1), (0, .ref h0)]) hx hb dX6_init_84 hl (k := 0) rfl (by decide) (by decide) rfl (fun ls hl => ?_)
  refine lv_goto (tgt := 63) hx hb dX6_init_87 (by decide) ?_
  refine lv_iload_n hx hb dX6_init_63 rfl (lv_at hl 0 rfl) ?_
  refine lv_iconst (v := 4) hx hb dX6_init_64 (by decide) ?_
  refine lv_icmp_ge (tgt := 90) hx hb dX6_init_65 (by decide) (fun c_84 => absurd c_84 (by decide)) (fun _ => ?_)
  refine lv_aload_n hx hb dX6_init_68 rfl (lv_at hl 2 rfl) ?_
  refine va_get (D := (dC, dI)) (ci := 6) (v := .ref q_1) (C := RX6) (T := TX6) (N := 7) hx hb hts hiX6 hown hK hP 0 rfl rfl 0 (by decide) w__fieldLink_RX6_11_ShellHeap_Readers_rows_I_ (fun _ h9 => h9) rfl dX6_init_69 ?_
  refine lv_iload_n hx hb dX6_init_72 rfl (lv_at hl 1 rfl) ?_
  refine lv_iconst (v := 4) hx hb dX6_init_73 (by decide) ?_
  refine lv_imul hx hb dX6_init_74 ?_
  refine lv_topi (fun x_85 e_86 => ?_)
  obtain rfl : x_85 = 4 := e_86.trans (by decide)
  refine lv_iload_n hx hb dX6_init_75 rfl (lv_at hl 0 rfl) ?_
  refine lv_iadd hx hb dX6_init_76 ?_
  refine lv_topi (fun x_87 e_88 => ?_)
  obtain rfl : x_87 = 5 := e_88.trans (by decide)
  refine lv_iconst (v := 4) hx hb dX6_init_77 (by decide) ?_
  refine lv_imul hx hb dX6_init_78 ?_
  refine lv_topi (fun x_89 e_90 => ?_)
  obtain rfl : x_89 = 20 := e_90.trans (by decide)
  refine lv_iload_n hx hb dX6_init_79 rfl (lv_at hl 0 rfl) ?_
  refine lv_iadd hx hb dX6_init_80 ?_
  refine lv_topi (fun x_91 e_92 => ?_)
  obtain rfl : x_91 = 21 := e_92.trans (by decide)
  refine lv_bipush (v := 16) hx hb dX6_init_81 (by decide) ?_
  refine va_iast hx hb hK hP hD hS 1 0 rfl rfl (by unfold vp_in; decide) dX6_init_83 (fun H_93 locs hP hD hS => ?_)
  have hP : va_P (dC, dI) vwCl [(h0, .inr (6, [.ref q_1, .ref q_5, .ref q_9, .ref q_13, .ref q_17, .ref q_21, .int (-1)])), (q_1, .inl (cA_2, 48, .inl (upd f_83 (21 : Int32).toNatClampNeg 16))), (q_5, .inl (cA_6, 144, .inl (fun _ => 0))), (q_9, .inl (cA_10, 4, .inl (fun _ => 0))), (q_13, .inl (cA_14, 4, .inl (fun _ => 0))), (q_17, .inl (cA_18, 4, .inl (fun _ => 0))), (q_21, .inl (cA_22, 4, .inl (fun _ => 0)))] H_93 := hP
  have hD : va_D A [(h0, .inr (6, [.ref q_1, .ref q_5, .ref q_9, .ref q_13, .ref q_17, .ref q_21, .int (-1)])), (q_1, .inl (cA_2, 48, .inl (upd f_83 (21 : Int32).toNatClampNeg 16))), (q_5, .inl (cA_6, 144, .inl (fun _ => 0))), (q_9, .inl (cA_10, 4, .inl (fun _ => 0))), (q_13, .inl (cA_14, 4, .inl (fun _ => 0))), (q_17, .inl (cA_18, 4, .inl (fun _ => 0))), (q_21, .inl (cA_22, 4, .inl (fun _ => 0)))] := hD
  generalize (upd f_83 (21 : Int32).toNatClampNeg 16) = f_94 at hP hD
  refine lv_iinc (v := 2) (lv' := [(2, .int 2), (1, .int 1), (0, .ref h0)]) hx hb dX6_init_84 hl (k := 0) rfl (by decide) (by decide) rfl (fun ls hl => ?_)
  refine lv_goto (tgt := 63) hx hb dX6_init_87 (by decide) ?_
  refine lv_iload_n hx hb dX6_init_63 rfl (lv_at hl 0 rfl) ?_
  refine lv_iconst (v := 4) hx hb dX6_init_64 (by decide) ?_
  refine lv_icmp_ge (tgt := 90) hx hb dX6_init_65 (by decide) (fun c_95 => absurd c_95 (by decide)) (fun _ => ?_)
  refine lv_aload_n hx hb dX6_init_68 rfl (lv_at hl 2 rfl) ?_
  refine va_get (D := (dC, dI)) (ci := 6) (v := .ref q_1) (C := RX6) (T := TX6) (N := 7) hx hb hts hiX6 hown hK hP 0 rfl rfl 0 (by decide) w__fieldLink_RX6_11_ShellHeap_Readers_rows_I_ (fun _ h9 => h9) rfl dX6_init_69 ?_
  refine lv_iload_n hx hb dX6_init_72 rfl (lv_at hl 1 rfl) ?_
  refine lv_iconst (v := 4) hx hb dX6_init_73 (by decide) ?_
  refine lv_imul hx hb dX6_init_74 ?_
  refine lv_topi (fun x_96 e_97 => ?_)
  obtain rfl : x_96 = 4 := e_97.trans (by decide)
  refine lv_iload_n hx hb dX6_init_75 rfl (lv_at hl 0 rfl) ?_
  refine lv_iadd hx hb dX6_init_76 ?_
  refine lv_topi (fun x_98 e_99 => ?_)
  obtain rfl : x_98 = 6 := e_99.trans (by decide)
  refine lv_iconst (v := 4) hx hb dX6_init_77 (by decide) ?_
  refine lv_imul hx hb dX6_init_78 ?_
  refine lv_topi (fun x_100 e_101 => ?_)
  obtain rfl : x_100 = 24 := e_101.trans (by decide)
  refine lv_iload_n hx hb dX6_init_79 rfl (lv_at hl 0 rfl) ?_
  refine lv_iadd hx hb dX6_init_80 ?_
  refine lv_topi (fun x_102 e_103 => ?_)
  obtain rfl : x_102 = 26 := e_103.trans (by decide)
  refine lv_bipush (v := 16) hx hb dX6_init_81 (by decide) ?_
  refine va_iast hx hb hK hP hD hS 1 0 rfl rfl (by unfold vp_in; decide) dX6_init_83 (fun H_104 locs hP hD hS => ?_)
  have hP : va_P (dC, dI) vwCl [(h0, .inr (6, [.ref q_1, .ref q_5, .ref q_9, .ref q_13, .ref q_17, .ref q_21, .int (-1)])), (q_1, .inl (cA_2, 48, .inl (upd f_94 (26 : Int32).toNatClampNeg 16))), (q_5, .inl (cA_6, 144, .inl (fun _ => 0))), (q_9, .inl (cA_10, 4, .inl (fun _ => 0))), (q_13, .inl (cA_14, 4, .inl (fun _ => 0))), (q_17, .inl (cA_18, 4, .inl (fun _ => 0))), (q_21, .inl (cA_22, 4, .inl (fun _ => 0)))] H_104 := hP
  have hD : va_D A [(h0, .inr (6, [.ref q_1, .ref q_5, .ref q_9, .ref q_13, .ref q_17, .ref q_21, .int (-1)])), (q_1, .inl (cA_2, 48, .inl (upd f_94 (26 : Int32).toNatClampNeg 16))), (q_5, .inl (cA_6, 144, .inl (fun _ => 0))), (q_9, .inl (cA_10, 4, .inl (fun _ => 0))), (q_13, .inl (cA_14, 4, .inl (fun _ => 0))), (q_17, .inl (cA_18, 4, .inl (fun _ => 0))), (q_21, .inl (cA_22, 4, .inl (fun _ => 0)))] := hD
  generalize (upd f_94 (26 : Int32).toNatClampNeg 16) = f_105 at hP hD
  refine lv_iinc (v := 3) (lv' := [(2, .int 3), (1, .int 1), (0, .ref h0)]) hx hb dX6_init_84 hl (k := 0) rfl (by decide) (by decide) rfl (fun ls hl => ?_)
  refine lv_goto (tgt := 63) hx hb dX6_init_87 (by decide) ?_
  refine lv_iload_n hx hb dX6_init_63 rfl (lv_at hl 0 rfl) ?_
  refine lv_iconst (v := 4) hx hb dX6_init_64 (by decide) ?_
  refine lv_icmp_ge (tgt := 90) hx hb dX6_init_65 (by decide) (fun c_106 => absurd c_106 (by decide)) (fun _ => ?_)
  refine lv_aload_n hx hb dX6_init_68 rfl (lv_at hl 2 rfl) ?_
  refine va_get (D := (dC, dI)) (ci := 6) (v := .ref q_1) (C := RX6) (T := TX6) (N := 7) hx hb hts hiX6 hown hK hP 0 rfl rfl 0 (by decide) w__fieldLink_RX6_11_ShellHeap_Readers_rows_I_ (fun _ h9 => h9) rfl dX6_init_69 ?_
  refine lv_iload_n hx hb dX6_init_72 rfl (lv_at hl 1 rfl) ?_
  refine lv_iconst (v := 4) hx hb dX6_init_73 (by decide) ?_
  refine lv_imul hx hb dX6_init_74 ?_
  refine lv_topi (fun x_107 e_108 => ?_)
  obtain rfl : x_107 = 4 := e_108.trans (by decide)
  refine lv_iload_n hx hb dX6_init_75 rfl (lv_at hl 0 rfl) ?_
  refine lv_iadd hx hb dX6_init_76 ?_
  refine lv_topi (fun x_109 e_110 => ?_)
  obtain rfl : x_109 = 7 := e_110.trans (by decide)
  refine lv_iconst (v := 4) hx hb dX6_init_77 (by decide) ?_
  refine lv_imul hx hb dX6_init_78 ?_
  refine lv_topi (fun x_111 e_112 => ?_)
  obtain rfl : x_111 = 28 := e_112.trans (by decide)
  refine lv_iload_n hx hb dX6_init_79 rfl (lv_at hl 0 rfl) ?_
  refine lv_iadd hx hb dX6_init_80 ?_
  refine lv_topi (fun x_113 e_114 => ?_)
  obtain rfl : x_113 = 31 := e_114.trans (by decide)
  refine lv_bipush (v := 16) hx hb dX6_init_81 (by decide) ?_
  refine va_iast hx hb hK hP hD hS 1 0 rfl rfl (by unfold vp_in; decide) dX6_init_83 (fun H_115 locs hP hD hS => ?_)
  have hP : va_P (dC, dI) vwCl [(h0, .inr (6, [.ref q_1, .ref q_5, .ref q_9, .ref q_13, .ref q_17, .ref q_21, .int (-1)])), (q_1, .inl (cA_2, 48, .inl (upd f_105 (31 : Int32).toNatClampNeg 16))), (q_5, .inl (cA_6, 144, .inl (fun _ => 0))), (q_9, .inl (cA_10, 4, .inl (fun _ => 0))), (q_13, .inl (cA_14, 4, .inl (fun _ => 0))), (q_17, .inl (cA_18, 4, .inl (fun _ => 0))), (q_21, .inl (cA_22, 4, .inl (fun _ => 0)))] H_115 := hP
  have hD : va_D A [(h0, .inr (6, [.ref q_1, .ref q_5, .ref q_9, .ref q_13, .ref q_17, .ref q_21, .int (-1)])), (q_1, .inl (cA_2, 48, .inl (upd f_105 (31 : Int32).toNatClampNeg 16))), (q_5, .inl (cA_6, 144, .inl (fun _ => 0))), (q_9, .inl (cA_10, 4, .inl (fun _ => 0))), (q_13, .inl (cA_14, 4, .inl (fun _ => 0))), (q_17, .inl (cA_18, 4, .inl (fun _ => 0))), (q_21, .inl (cA_22, 4, .inl (fun _ => 0)))] := hD
  generalize (upd f_105 (31 : Int32).toNatClampNeg 16) = f_116 at hP hD
  refine lv_iinc (v := 4) (lv' := [(2, .int 4), (1, .int 1), (0, .ref h0)]) hx hb dX6_init_84 hl (k := 0) rfl (by decide) (by decide) rfl (fun ls hl => ?_)
  refine lv_goto (tgt := 63) hx hb dX6_init_87 (by decide) ?_
  refine lv_iload_n hx hb dX6_init_63 rfl (lv_at hl 0 rfl) ?_
  refine lv_iconst (v := 4) hx hb dX6_init_64 (by decide) ?_
  refine lv_icmp_ge (tgt := 90) hx hb dX6_init_65 (by decide) (fun _ => ?_) (fun c_117 => absurd (by decide) c_117)
  refine lv_iinc (v := 2) (lv' := [(1, .int 2), (2, .int 4), (0, .ref h0)]) hx hb dX6_init_90 hl (k := 1) rfl (by decide) (by decide) rfl (fun ls hl => ?_)
  refine lv_goto (tgt := 56) hx hb dX6_init_93 (by decide) ?_
  refine lv_iload_n hx hb dX6_init_56 rfl (lv_at hl 0 rfl) ?_
  refine lv_iconst (v := 3) hx hb dX6_init_57 (by decide) ?_
  refine lv_icmp_ge (tgt := 96) hx hb dX6_init_58 (by decide) (fun c_118 => absurd c_118 (by decide)) (fun _ => ?_)
  refine lv_iconst (v := 0) hx hb dX6_init_61 (by decide) ?_
  refine lv_istore_n (lv' := [(2, .int 0), (1, .int 2), (0, .ref h0)]) hx hb dX6_init_62 rfl hl (by decide) rfl (fun ls hl => ?_)
  refine lv_iload_n hx hb dX6_init_63 rfl (lv_at hl 0 rfl) ?_
  refine lv_iconst (v := 4) hx hb dX6_init_64 (by decide) ?_
  refine lv_icmp_ge (tgt := 90) hx hb dX6_init_65 (by decide) (fun c_119 => absurd c_119 (by decide)) (fun _ => ?_)
  refine lv_aload_n hx hb dX6_init_68 rfl (lv_at hl 2 rfl) ?_
  refine va_get (D := (dC, dI)) (ci := 6) (v := .ref q_1) (C := RX6) (T := TX6) (N := 7) hx hb hts hiX6 hown hK hP 0 rfl rfl 0 (by decide) w__fieldLink_RX6_11_ShellHeap_Readers_rows_I_ (fun _ h9 => h9) rfl dX6_init_69 ?_
  refine lv_iload_n hx hb dX6_init_72 rfl (lv_at hl 1 rfl) ?_
  refine lv_iconst (v := 4) hx hb dX6_init_73 (by decide) ?_
  refine lv_imul hx hb dX6_init_74 ?_
  refine lv_topi (fun x_120 e_121 => ?_)
  obtain rfl : x_120 = 8 := e_121.trans (by decide)
  refine lv_iload_n hx hb dX6_init_75 rfl (lv_at hl 0 rfl) ?_
  refine lv_iadd hx hb dX6_init_76 ?_
  refine lv_topi (fun x_122 e_123 => ?_)
  obtain rfl : x_122 = 8 := e_123.trans (by decide)
  refine lv_iconst (v := 4) hx hb dX6_init_77 (by decide) ?_
  refine lv_imul hx hb dX6_init_78 ?_
  refine lv_topi (fun x_124 e_125 => ?_)
  obtain rfl : x_124 = 32 := e_125.trans (by decide)
  refine lv_iload_n hx hb dX6_init_79 rfl (lv_at hl 0 rfl) ?_
  refine lv_iadd hx hb dX6_init_80 ?_
  refine lv_topi (fun x_126 e_127 => ?_)
  obtain rfl : x_126 = 32 := e_127.trans (by decide)
  refine lv_bipush (v := 16) hx hb dX6_init_81 (by decide) ?_
  refine va_iast hx hb hK hP hD hS 1 0 rfl rfl (by unfold vp_in; decide) dX6_init_83 (fun H_128 locs hP hD hS => ?_)
  have hP : va_P (dC, dI) vwCl [(h0, .inr (6, [.ref q_1, .ref q_5, .ref q_9, .ref q_13, .ref q_17, .ref q_21, .int (-1)])), (q_1, .inl (cA_2, 48, .inl (upd f_116 (32 : Int32).toNatClampNeg 16))), (q_5, .inl (cA_6, 144, .inl (fun _ => 0))), (q_9, .inl (cA_10, 4, .inl (fun _ => 0))), (q_13, .inl (cA_14, 4, .inl (fun _ => 0))), (q_17, .inl (cA_18, 4, .inl (fun _ => 0))), (q_21, .inl (cA_22, 4, .inl (fun _ => 0)))] H_128 := hP
  have hD : va_D A [(h0, .inr (6, [.ref q_1, .ref q_5, .ref q_9, .ref q_13, .ref q_17, .ref q_21, .int (-1)])), (q_1, .inl (cA_2, 48, .inl (upd f_116 (32 : Int32).toNatClampNeg 16))), (q_5, .inl (cA_6, 144, .inl (fun _ => 0))), (q_9, .inl (cA_10, 4, .inl (fun _ => 0))), (q_13, .inl (cA_14, 4, .inl (fun _ => 0))), (q_17, .inl (cA_18, 4, .inl (fun _ => 0))), (q_21, .inl (cA_22, 4, .inl (fun _ => 0)))] := hD
  generalize (upd f_116 (32 : Int32).toNatClampNeg 16) = f_129 at hP hD
  refine lv_iinc (v := 1) (lv' := [(2, .int 1), (1, .int 2), (0, .ref h0)]) hx hb dX6_init_84 hl (k := 0) rfl (by decide) (by decide) rfl (fun ls hl => ?_)
  refine lv_goto (tgt := 63) hx hb dX6_init_87 (by decide) ?_
  refine lv_iload_n hx hb dX6_init_63 rfl (lv_at hl 0 rfl) ?_
  refine lv_iconst (v := 4) hx hb dX6_init_64 (by decide) ?_
  refine lv_icmp_ge (tgt := 90) hx hb dX6_init_65 (by decide) (fun c_130 => absurd c_130 (by decide)) (fun _ => ?_)
  refine lv_aload_n hx hb dX6_init_68 rfl (lv_at hl 2 rfl) ?_
  refine va_get (D := (dC, dI)) (ci := 6) (v := .ref q_1) (C := RX6) (T := TX6) (N := 7) hx hb hts hiX6 hown hK hP 0 rfl rfl 0 (by decide) w__fieldLink_RX6_11_ShellHeap_Readers_rows_I_ (fun _ h9 => h9) rfl dX6_init_69 ?_
  refine lv_iload_n hx hb dX6_init_72 rfl (lv_at hl 1 rfl) ?_
  refine lv_iconst (v := 4) hx hb dX6_init_73 (by decide) ?_
  refine lv_imul hx hb dX6_init_74 ?_
  refine lv_topi (fun x_131 e_132 => ?_)
  obtain rfl : x_131 = 8 := e_132.trans (by decide)
  refine lv_iload_n hx hb dX6_init_75 rfl (lv_at hl 0 rfl) ?_
  refine lv_iadd hx hb dX6_init_76 ?_
  refine lv_topi (fun x_133 e_134 => ?_)
  obtain rfl : x_133 = 9 := e_134.trans (by decide)
  refine lv_iconst (v := 4) hx hb dX6_init_77 (by decide) ?_
  refine lv_imul hx hb dX6_init_78 ?_
  refine lv_topi (fun x_135 e_136 => ?_)
  obtain rfl : x_135 = 36 := e_136.trans (by decide)
  refine lv_iload_n hx hb dX6_init_79 rfl (lv_at hl 0 rfl) ?_
  refine lv_iadd hx hb dX6_init_80 ?_
  refine lv_topi (fun x_137 e_138 => ?_)
  obtain rfl : x_137 = 37 := e_138.trans (by decide)
  refine lv_bipush (v := 16) hx hb dX6_init_81 (by decide) ?_
  refine va_iast hx hb hK hP hD hS 1 0 rfl rfl (by unfold vp_in; decide) dX6_init_83 (fun H_139 locs hP hD hS => ?_)
  have hP : va_P (dC, dI) vwCl [(h0, .inr (6, [.ref q_1, .ref q_5, .ref q_9, .ref q_13, .ref q_17, .ref q_21, .int (-1)])), (q_1, .inl (cA_2, 48, .inl (upd f_129 (37 : Int32).toNatClampNeg 16))), (q_5, .inl (cA_6, 144, .inl (fun _ => 0))), (q_9, .inl (cA_10, 4, .inl (fun _ => 0))), (q_13, .inl (cA_14, 4, .inl (fun _ => 0))), (q_17, .inl (cA_18, 4, .inl (fun _ => 0))), (q_21, .inl (cA_22, 4, .inl (fun _ => 0)))] H_139 := hP
  have hD : va_D A [(h0, .inr (6, [.ref q_1, .ref q_5, .ref q_9, .ref q_13, .ref q_17, .ref q_21, .int (-1)])), (q_1, .inl (cA_2, 48, .inl (upd f_129 (37 : Int32).toNatClampNeg 16))), (q_5, .inl (cA_6, 144, .inl (fun _ => 0))), (q_9, .inl (cA_10, 4, .inl (fun _ => 0))), (q_13, .inl (cA_14, 4, .inl (fun _ => 0))), (q_17, .inl (cA_18, 4, .inl (fun _ => 0))), (q_21, .inl (cA_22, 4, .inl (fun _ => 0)))] := hD
  generalize (upd f_129 (37 : Int32).toNatClampNeg 16) = f_140 at hP hD
  refine lv_iinc (v := 2) (lv' := [(2, .int 2), (1, .int 2), (0, .ref h0)]) hx hb dX6_init_84 hl (k := 0) rfl (by decide) (by decide) rfl (fun ls hl => ?_)
  refine lv_goto (tgt := 63) hx hb dX6_init_87 (by decide) ?_
  refine lv_iload_n hx hb dX6_init_63 rfl (lv_at hl 0 rfl) ?_
  refine lv_iconst (v := 4) hx hb dX6_init_64 (by decide) ?_
  refine lv_icmp_ge (tgt := 90) hx hb dX6_init_65 (by decide) (fun c_141 => absurd c_141 (by decide)) (fun _ => ?_)
  refine lv_aload_n hx hb dX6_init_68 rfl (lv_at hl 2 rfl) ?_
  refine va_get (D := (dC, dI)) (ci := 6) (v := .ref q_1) (C := RX6) (T := TX6) (N := 7) hx hb hts hiX6 hown hK hP 0 rfl rfl 0 (by decide) w__fieldLink_RX6_11_ShellHeap_Readers_rows_I_ (fun _ h9 => h9) rfl dX6_init_69 ?_
  refine lv_iload_n hx hb dX6_init_72 rfl (lv_at hl 1 rfl) ?_
  refine lv_iconst (v := 4) hx hb dX6_init_73 (by decide) ?_
  refine lv_imul hx hb dX6_init_74 ?_
  refine lv_topi (fun x_142 e_143 => ?_)
  obtain rfl : x_142 = 8 := e_143.trans (by decide)
  refine lv_iload_n hx hb dX6_init_75 rfl (lv_at hl 0 rfl) ?_
  refine lv_iadd hx hb dX6_init_76 ?_
  refine lv_topi (fun x_144 e_145 => ?_)
  obtain rfl : x_144 = 10 := e_145.trans (by decide)
  refine lv_iconst (v := 4) hx hb dX6_init_77 (by decide) ?_
  refine lv_imul hx hb dX6_init_78 ?_
  refine lv_topi (fun x_146 e_147 => ?_)
  obtain rfl : x_146 = 40 := e_147.trans (by decide)
  refine lv_iload_n hx hb dX6_init_79 rfl (lv_at hl 0 rfl) ?_
  refine lv_iadd hx hb dX6_init_80 ?_
  refine lv_topi (fun x_148 e_149 => ?_)
  obtain rfl : x_148 = 42 := e_149.trans (by decide)
  refine lv_bipush (v := 16) hx hb dX6_init_81 (by decide) ?_
  refine va_iast hx hb hK hP hD hS 1 0 rfl rfl (by unfold vp_in; decide) dX6_init_83 (fun H_150 locs hP hD hS => ?_)
  have hP : va_P (dC, dI) vwCl [(h0, .inr (6, [.ref q_1, .ref q_5, .ref q_9, .ref q_13, .ref q_17, .ref q_21, .int (-1)])), (q_1, .inl (cA_2, 48, .inl (upd f_140 (42 : Int32).toNatClampNeg 16))), (q_5, .inl (cA_6, 144, .inl (fun _ => 0))), (q_9, .inl (cA_10, 4, .inl (fun _ => 0))), (q_13, .inl (cA_14, 4, .inl (fun _ => 0))), (q_17, .inl (cA_18, 4, .inl (fun _ => 0))), (q_21, .inl (cA_22, 4, .inl (fun _ => 0)))] H_150 := hP
  have hD : va_D A [(h0, .inr (6, [.ref q_1, .ref q_5, .ref q_9, .ref q_13, .ref q_17, .ref q_21, .int (-1)])), (q_1, .inl (cA_2, 48, .inl (upd f_140 (42 : Int32).toNatClampNeg 16))), (q_5, .inl (cA_6, 144, .inl (fun _ => 0))), (q_9, .inl (cA_10, 4, .inl (fun _ => 0))), (q_13, .inl (cA_14, 4, .inl (fun _ => 0))), (q_17, .inl (cA_18, 4, .inl (fun _ => 0))), (q_21, .inl (cA_22, 4, .inl (fun _ => 0)))] := hD
  generalize (upd f_140 (42 : Int32).toNatClampNeg 16) = f_151 at hP hD
  refine lv_iinc (v := 3) (lv' := [(2, .int 3), (1, .int 2), (0, .ref h0)]) hx hb dX6_init_84 hl (k := 0) rfl (by decide) (by decide) rfl (fun ls hl => ?_)
  refine lv_goto (tgt := 63) hx hb dX6_init_87 (by decide) ?_
  refine lv_iload_n hx hb dX6_init_63 rfl (lv_at hl 0 rfl) ?_
  refine lv_iconst (v := 4) hx hb dX6_init_64 (by decide) ?_
  refine lv_icmp_ge (tgt := 90) hx hb dX6_init_65 (by decide) (fun c_152 => absurd c_152 (by decide)) (fun _ => ?_)
  refine lv_aload_n hx hb dX6_init_68 rfl (lv_at hl 2 rfl) ?_
  refine va_get (D := (dC, dI)) (ci := 6) (v := .ref q_1) (C := RX6) (T := TX6) (N := 7) hx hb hts hiX6 hown hK hP 0 rfl rfl 0 (by decide) w__fieldLink_RX6_11_ShellHeap_Readers_rows_I_ (fun _ h9 => h9) rfl dX6_init_69 ?_
  refine lv_iload_n hx hb dX6_init_72 rfl (lv_at hl 1 rfl) ?_
  refine lv_iconst (v := 4) hx hb dX6_init_73 (by decide) ?_
  refine lv_imul hx hb dX6_init_74 ?_
  refine lv_topi (fun x_153 e_154 => ?_)
  obtain rfl : x_153 = 8 := e_154.trans (by decide)
  refine lv_iload_n hx hb dX6_init_75 rfl (lv_at hl 0 rfl) ?_
  refine lv_iadd hx hb dX6_init_76 ?_
  refine lv_topi (fun x_155 e_156 => ?_)
  obtain rfl : x_155 = 11 := e_156.trans (by decide)
  refine lv_iconst (v := 4) hx hb dX6_init_77 (by decide) ?_
  refine lv_imul hx hb dX6_init_78 ?_
  refine lv_topi (fun x_157 e_158 => ?_)
  obtain rfl : x_157 = 44 := e_158.trans (by decide)
  refine lv_iload_n hx hb dX6_init_79 rfl (lv_at hl 0 rfl) ?_
  refine lv_iadd hx hb dX6_init_80 ?_
  refine lv_topi (fun x_159 e_160 => ?_)
  obtain rfl : x_159 = 47 := e_160.trans (by decide)
  refine lv_bipush (v := 16) hx hb dX6_init_81 (by decide) ?_
  refine va_iast hx hb hK hP hD hS 1 0 rfl rfl (by unfold vp_in; decide) dX6_init_83 (fun H_161 locs hP hD hS => ?_)
  have hP : va_P (dC, dI) vwCl [(h0, .inr (6, [.ref q_1, .ref q_5, .ref q_9, .ref q_13, .ref q_17, .ref q_21, .int (-1)])), (q_1, .inl (cA_2, 48, .inl (upd f_151 (47 : Int32).toNatClampNeg 16))), (q_5, .inl (cA_6, 144, .inl (fun _ => 0))), (q_9, .inl (cA_10, 4, .inl (fun _ => 0))), (q_13, .inl (cA_14, 4, .inl (fun _ => 0))), (q_17, .inl (cA_18, 4, .inl (fun _ => 0))), (q_21, .inl (cA_22, 4, .inl (fun _ => 0)))] H_161 := hP
  have hD : va_D A [(h0, .inr (6, [.ref q_1, .ref q_5, .ref q_9, .ref q_13, .ref q_17, .ref q_21, .int (-1)])), (q_1, .inl (cA_2, 48, .inl (upd f_151 (47 : Int32).toNatClampNeg 16))), (q_5, .inl (cA_6, 144, .inl (fun _ => 0))), (q_9, .inl (cA_10, 4, .inl (fun _ => 0))), (q_13, .inl (cA_14, 4, .inl (fun _ => 0))), (q_17, .inl (cA_18, 4, .inl (fun _ => 0))), (q_21, .inl (cA_22, 4, .inl (fun _ => 0)))] := hD
  generalize (upd f_151 (47 : Int32).toNatClampNeg 16) = f_162 at hP hD
  refine lv_iinc (v := 4) (lv' := [(2, .int 4), (1, .int 2), (0, .ref h0)]) hx hb dX6_init_84 hl (k := 0) rfl (by decide) (by decide) rfl (fun ls hl => ?_)
  refine lv_goto (tgt := 63) hx hb dX6_init_87 (by decide) ?_
  refine lv_iload_n hx hb dX6_init_63 rfl (lv_at hl 0 rfl) ?_
  refine lv_iconst (v := 4) hx hb dX6_init_64 (by decide) ?_
  refine lv_icmp_ge (tgt := 90) hx hb dX6_init_65 (by decide) (fun _ => ?_) (fun c_163 => absurd (by decide) c_163)
  refine lv_iinc (v := 3) (lv' := [(1, .int 3), (2, .int 4), (0, .ref h0)]) hx hb dX6_init_90 hl (k := 1) rfl (by decide) (by decide) rfl (fun ls hl => ?_)
  refine lv_goto (tgt := 56) hx hb dX6_init_93 (by decide) ?_
  refine lv_iload_n hx hb dX6_init_56 rfl (lv_at hl 0 rfl) ?_
  refine lv_iconst (v := 3) hx hb dX6_init_57 (by decide) ?_
  refine lv_icmp_ge (tgt := 96) hx hb dX6_init_58 (by decide) (fun _ => ?_) (fun c_164 => absurd (by decide) c_164)
  have hP9 := hP.sub (ws' := [(h0, .inr (6, [.ref q_1, .ref q_5, .ref q_9, .ref q_13, .ref q_17, .ref q_21, .int (-1)])), (q_1, .inl (cA_2, 48, .inl f_162))]) [0, 1] rfl
  have hD9 := hD.sub (ws' := [(h0, .inr (6, [.ref q_1, .ref q_5, .ref q_9, .ref q_13, .ref q_17, .ref q_21, .int (-1)])), (q_1, .inl (cA_2, 48, .inl f_162))]) [0, 1] (by decide) rfl
  have hK9 := hK.sub (tys' := [(cA_2, .int)]) [0] rfl
  refine W.widen (k := 6) (n := 208) (Nat.le_of_ble_eq_true rfl) (Nat.le_of_ble_eq_true rfl) ?_
  exact W.vret hx hb hr (fun t ht hW => ⟨⟨(), rfl, trivial, ⟨q_1, q_5, q_9, q_13, q_17, q_21, cA_2, f_162, by rw [ht]; exact hP9, va_K.moved hW.alike hK9, hD9⟩⟩, hS.F ht⟩) hS.2.2 dX6_init_96
def u_c_X9_init : List Cond := .code yX9_init cX9_init 1 none :: ([.methodLink RX9 3 objectInit, .instanceMethod objectInit, .code objectInit ⟨#[0xb1]⟩ 1 none, .arrayClass .int, .fieldLink RX9 11 "ShellHeap$Sizes" "layerOf" "[I", .fieldLink RX9 15 "ShellHeap$Sizes" "marks" "[I", .fieldLink RX9 18 "ShellHeap$Sizes" "tally" "[I", .fieldLink RX9 21 "ShellHeap$Sizes" "measured" "I"] ++ wsX90)
set_option maxHeartbeats 4000000 in
set_option maxRecDepth 100000 in
theorem c_X9_init (l : Launch) (dC : Nat → ClassId) (dI : Nat → Nat → Nat) (sz : Nat) (h0 : Nat) : Met l yX9_init u_c_X9_init ({ frames := 1, cells := 3, slots := 900, locals := 12 }) (va_Pc [.ref h0] (z_C (dC, dI) vwCl [(h0, .inr (9, [.null, .null, .null, .int 0]))] [] sz)) (va_Qv (fun (_ : Unit) => True) (fun (_ : Unit) (t : State) => ∃ (q0 : Nat), ∃ (q1 : Nat), ∃ (q2 : Nat), va_P (dC, dI) vwCl [(h0, .inr (9, [.ref q0, .ref q1, .ref q2, .int 0]))] t.heap ∧ va_K (dC, dI) vwCl [] t ∧ va_D (va_A [(h0, .inr (9, [.null, .null, .null, .int 0]))] sz) [(h0, .inr (9, [.ref q0, .ref q1, .ref q2, .int 0]))]) (va_A [(h0, .inr (9, [.null, .null, .null, .int 0]))] sz)) 3 900 (va_A [(h0, .inr (9, [.null, .null, .null, .int 0]))] sz) := by
  refine Met.ofW (cc := cX9_init) (maxL := 1) (ret := none) (by decide) rfl ?_
  intro p e s m args below meth c s₁ B hml hv
  obtain ⟨rfl, hsz, hP, hK, hD0⟩ := hv
  have hx := B.exec
  have hb := B.bytes
  have hr := B.returns
  have hts := atoms_spec (ws := u_c_X9_init) B.pre
  have hown : s.vm.findClass RX9 = some m.cls := findClass_of_methodNamed B.named
  have hlocks := B.notSynchronized
  have hin : meth.name = "<init>" := (name_of_methodNamed B.named B.method).1
  subst hsz
  have hD := hD0.self (sz := s.heap.size)
  generalize hAe : va_A [(h0, .inr (9, [.null, .null, .null, .int 0]))] s.heap.size = A at hD ⊢
  have hA : ∀ q : Nat, s.heap.size ≤ q → A q := fun q h => by rw [← hAe]; exact Or.inr h
  have hS : va_S A s.heap s.heap [] := va_S.rf
  have hP : va_P (dC, dI) vwCl [(h0, .inr (9, [.null, .null, .null, .int 0]))] s.heap := hP
  have w__methodLink_RX9_3_objectInit := hts (.methodLink RX9 3 objectInit) (by decide +kernel)
  have w__instanceMethod_objectInit := hts (.instanceMethod objectInit) (by decide +kernel)
  have w__code_objectInit_0xb1_1_none := hts (.code objectInit ⟨#[0xb1]⟩ 1 none) (by decide +kernel)
  have w__arrayClass_int := hts (.arrayClass .int) (by decide +kernel)
  have w__fieldLink_RX9_11_ShellHeap_Sizes_layerOf_I_ := hts (.fieldLink RX9 11 "ShellHeap$Sizes" "layerOf" "[I") (by decide +kernel)
  have hiX9 := show ∀ w ∈ u_ws RX9 TX9 4, w ∈ u_c_X9_init by decide +kernel
  have w__fieldLink_RX9_15_ShellHeap_Sizes_marks_I_ := hts (.fieldLink RX9 15 "ShellHeap$Sizes" "marks" "[I") (by decide +kernel)
  have w__fieldLink_RX9_18_ShellHeap_Sizes_tally_I_ := hts (.fieldLink RX9 18 "ShellHeap$Sizes" "tally" "[I") (by decide +kernel)
  have w__fieldLink_RX9_21_ShellHeap_Sizes_measured_I_ := hts (.fieldLink RX9 21 "ShellHeap$Sizes" "measured" "I") (by decide +kernel)
  have hl := lv_entry ([.ref h0]) (n := 1) (Nat.le_of_ble_eq_true rfl)
  rw [lg_entry_eq]
  generalize (lg_sl ([.ref h0]) ++ List.replicate (1 - (lg_sl ([.ref h0])).length) Slot.unset).toArray = ls at hl ⊢
  have hl : lv_has ls 1 [(0, .ref h0)] := hl
  refine lv_aload_n hx hb dX9_init_0 rfl (lv_at hl 0 rfl) ?_
  refine W.objInit hx hb hown w__methodLink_RX9_3_objectInit w__instanceMethod_objectInit w__code_objectInit_0xb1_1_none rfl (by rw [hml]; exact hl.1) rfl dX9_init_1 (Nat.le_of_ble_eq_true rfl) (Nat.le_of_ble_eq_true rfl) ?_
  refine W.eq (g2 := F0 m 4 ls []) rfl ?_
  refine lv_aload_n hx hb dX9_init_4 rfl (lv_at hl 0 rfl) ?_
  refine lv_sipush (v := 200) hx hb dX9_init_5 (by decide) ?_
  refine va_newa (ty := .int) (N' := 200) (a0 := (200, .inl (fun _ => 0))) hx hb w__arrayClass_int rfl hK hP hD hS hA (fun _ => rfl) (by decide) (by decide) (by decide) (Nat.le_of_ble_eq_true rfl) (Nat.le_of_ble_eq_true rfl) dX9_init_8 (fun q_1 cA_2 H_3 hK hP hD hS => ?_)
  have hK : va_K (dC, dI) vwCl [(cA_2, .int)] s := hK
  have hP : va_P (dC, dI) vwCl [(h0, .inr (9, [.null, .null, .null, .int 0])), (q_1, .inl (cA_2, 200, .inl (fun _ => 0)))] H_3 := hP
  have hD : va_D A [(h0, .inr (9, [.null, .null, .null, .int 0])), (q_1, .inl (cA_2, 200, .inl (fun _ => 0)))] := hD
  refine va_putF (D := (dC, dI)) (ci := 9) (v := .ref q_1) (ty := .array .int) (C := RX9) (T := TX9) (N := 4) hx hb hts hiX9 tyX9 tyX9_ok nmX9 hown hK hP hD hS 0 rfl rfl 0 (by decide) w__fieldLink_RX9_11_ShellHeap_Sizes_layerOf_I_ (fun _ h9 => h9) rfl hin rfl (by decide +kernel) rfl rfl (Nat.le_of_ble_eq_true rfl) dX9_init_10 (fun H_4 locs hP hD hS => ?_)
  have hP : va_P (dC, dI) vwCl [(h0, .inr (9, [.ref q_1, .null, .null, .int 0])), (q_1, .inl (cA_2, 200, .inl (fun _ => 0)))] H_4 := hP
  have hD : va_D A [(h0, .inr (9, [.ref q_1, .null, .null, .int 0])), (q_1, .inl (cA_2, 200, .inl (fun _ => 0)))] := hD
  refine lv_aload_n hx hb dX9_init_13 rfl (lv_at hl 0 rfl) ?_
  refine lv_sipush (v := 600) hx hb dX9_init_14 (by decide) ?_
  refine va_newa (ty := .int) (N' := 600) (a0 := (600, .inl (fun _ => 0))) hx hb w__arrayClass_int rfl hK hP hD hS hA (fun _ => rfl) (by decide) (by decide) (by decide) (Nat.le_of_ble_eq_true rfl) (Nat.le_of_ble_eq_true rfl) dX9_init_17 (fun q_5 cA_6 H_7 hK hP hD hS => ?_)
  have hK : va_K (dC, dI) vwCl [(cA_2, .int), (cA_6, .int)] s := hK
  have hP : va_P (dC, dI) vwCl [(h0, .inr (9, [.ref q_1, .null, .null, .int 0])), (q_1, .inl (cA_2, 200, .inl (fun _ => 0))), (q_5, .inl (cA_6, 600, .inl (fun _ => 0)))] H_7 := hP
  have hD : va_D A [(h0, .inr (9, [.ref q_1, .null, .null, .int 0])), (q_1, .inl (cA_2, 200, .inl (fun _ => 0))), (q_5, .inl (cA_6, 600, .inl (fun _ => 0)))] := hD
  refine va_putF (D := (dC, dI)) (ci := 9) (v := .ref q_5) (ty := .array .int) (C := RX9) (T := TX9) (N := 4) hx hb hts hiX9 tyX9 tyX9_ok nmX9 hown hK hP hD hS 0 rfl rfl 1 (by decide) w__fieldLink_RX9_15_ShellHeap_Sizes_marks_I_ (fun _ h9 => h9) rfl hin rfl (by decide +kernel) rfl rfl (Nat.le_of_ble_eq_true rfl) dX9_init_19 (fun H_8 locs hP hD hS => ?_)
  have hP : va_P (dC, dI) vwCl [(h0, .inr (9, [.ref q_1, .ref q_5, .null, .int 0])), (q_1, .inl (cA_2, 200, .inl (fun _ => 0))), (q_5, .inl (cA_6, 600, .inl (fun _ => 0)))] H_8 := hP
  have hD : va_D A [(h0, .inr (9, [.ref q_1, .ref q_5, .null, .int 0])), (q_1, .inl (cA_2, 200, .inl (fun _ => 0))), (q_5, .inl (cA_6, 600, .inl (fun _ => 0)))] := hD
  refine lv_aload_n hx hb dX9_init_22 rfl (lv_at hl 0 rfl) ?_
  refine lv_bipush (v := 100) hx hb dX9_init_23 (by decide) ?_
  refine va_newa (ty := .int) (N' := 100) (a0 := (100, .inl (fun _ => 0))) hx hb w__arrayClass_int rfl hK hP hD hS hA (fun _ => rfl) (by decide) (by decide) (by decide) (Nat.le_of_ble_eq_true rfl) (Nat.le_of_ble_eq_true rfl) dX9_init_25 (fun q_9 cA_10 H_11 hK hP hD hS => ?_)
  have hK : va_K (dC, dI) vwCl [(cA_2, .int), (cA_6, .int), (cA_10, .int)] s := hK
  have hP : va_P (dC, dI) vwCl [(h0, .inr (9, [.ref q_1, .ref q_5, .null, .int 0])), (q_1, .inl (cA_2, 200, .inl (fun _ => 0))), (q_5, .inl (cA_6, 600, .inl (fun _ => 0))), (q_9, .inl (cA_10, 100, .inl (fun _ => 0)))] H_11 := hP
  have hD : va_D A [(h0, .inr (9, [.ref q_1, .ref q_5, .null, .int 0])), (q_1, .inl (cA_2, 200, .inl (fun _ => 0))), (q_5, .inl (cA_6, 600, .inl (fun _ => 0))), (q_9, .inl (cA_10, 100, .inl (fun _ => 0)))] := hD
  refine va_putF (D := (dC, dI)) (ci := 9) (v := .ref q_9) (ty := .array .int) (C := RX9) (T := TX9) (N := 4) hx hb hts hiX9 tyX9 tyX9_ok nmX9 hown hK hP hD hS 0 rfl rfl 2 (by decide) w__fieldLink_RX9_18_ShellHeap_Sizes_tally_I_ (fun _ h9 => h9) rfl hin rfl (by decide +kernel) rfl rfl (Nat.le_of_ble_eq_true rfl) dX9_init_27 (fun H_12 locs hP hD hS => ?_)
  have hP : va_P (dC, dI) vwCl [(h0, .inr (9, [.ref q_1, .ref q_5, .ref q_9, .int 0])), (q_1, .inl (cA_2, 200, .inl (fun _ => 0))), (q_5, .inl (cA_6, 600, .inl (fun _ => 0))), (q_9, .inl (cA_10, 100, .inl (fun _ => 0)))] H_12 := hP
  have hD : va_D A [(h0, .inr (9, [.ref q_1, .ref q_5, .ref q_9, .int 0])), (q_1, .inl (cA_2, 200, .inl (fun _ => 0))), (q_5, .inl (cA_6, 600, .inl (fun _ => 0))), (q_9, .inl (cA_10, 100, .inl (fun _ => 0)))] := hD
  refine lv_aload_n hx hb dX9_init_30 rfl (lv_at hl 0 rfl) ?_
  refine lv_iconst (v := 0) hx hb dX9_init_31 (by decide) ?_
  refine va_put (D := (dC, dI)) (ci := 9) (v := .int 0) (ty := .int) (C := RX9) (T := TX9) (N := 4) hx hb hts hiX9 tyX9 tyX9_ok nmX9 hown hK hP hD hS 0 rfl rfl 3 (by decide) w__fieldLink_RX9_21_ShellHeap_Sizes_measured_I_ (fun _ h9 => h9) rfl (by decide +kernel) rfl rfl (Nat.le_of_ble_eq_true rfl) dX9_init_32 (fun H_13 locs hP hD hS => ?_)
  have hP : va_P (dC, dI) vwCl [(h0, .inr (9, [.ref q_1, .ref q_5, .ref q_9, .int 0])), (q_1, .inl (cA_2, 200, .inl (fun _ => 0))), (q_5, .inl (cA_6, 600, .inl (fun _ => 0))), (q_9, .inl (cA_10, 100, .inl (fun _ => 0)))] H_13 := hP
  have hD : va_D A [(h0, .inr (9, [.ref q_1, .ref q_5, .ref q_9, .int 0])), (q_1, .inl (cA_2, 200, .inl (fun _ => 0))), (q_5, .inl (cA_6, 600, .inl (fun _ => 0))), (q_9, .inl (cA_10, 100, .inl (fun _ => 0)))] := hD
  have hP9 := hP.sub (ws' := [(h0, .inr (9, [.ref q_1, .ref q_5, .ref q_9, .int 0]))]) [0] rfl
  have hD9 := hD.sub (ws' := [(h0, .inr (9, [.ref q_1, .ref q_5, .ref q_9, .int 0]))]) [0] (by decide) rfl
  have hK9 := hK.sub (tys' := []) [] rfl
  refine W.widen (k := 3) (n := 900) (Nat.le_of_ble_eq_true rfl) (Nat.le_of_ble_eq_true rfl) ?_
  exact W.vret hx hb hr (fun t ht hW => ⟨⟨(), rfl, trivial, ⟨q_1, q_5, q_9, by rw [ht]; exact hP9, va_K.moved hW.alike hK9, hD9⟩⟩, hS.F ht⟩) hS.2.2 dX9_init_35
def u_c_X1_init : List Cond := .code yX1_init cX1_init 3 none :: ([.methodLink RX1 3 objectInit, .instanceMethod objectInit, .code objectInit ⟨#[0xb1]⟩ 1 none, .fieldLink RX1 9 "ShellHeap$FindsReader" "note" "I", .fieldLink RX1 15 "ShellHeap$FindsReader" "kind" "I", .fieldLink RX1 18 "ShellHeap$FindsReader" "sieve" "I", .fieldLink RX1 21 "ShellHeap$FindsReader" "toldParts" "I", .fieldLink RX1 24 "ShellHeap$FindsReader" "tape" "LShellHeap$Tape;", .fieldLink RX1 28 "ShellHeap$FindsReader" "pantry" "LShellHeap$Pantry;"] ++ wsX10)
set_option maxHeartbeats 4000000 in
set_option maxRecDepth 100000 in
theorem c_X1_init (l : Launch) (dC : Nat → ClassId) (dI : Nat → Nat → Nat) (sz : Nat) (h0 : Nat) (h1 : Nat) (h2 : Nat) : Met l yX1_init u_c_X1_init ({ frames := 1, cells := 0, slots := 0, locals := 12 }) (va_Pc [.ref h0, .ref h1, .ref h2] (z_C (dC, dI) vwCl [(h0, .inr (1, [.null, .null, .int 0, .int 0, .int 0, .int 0]))] [] sz)) (va_Qv (fun (_ : Unit) => True) (fun (_ : Unit) (_ : State) => True) (va_A [(h0, .inr (1, [.null, .null, .int 0, .int 0, .int 0, .int 0]))] sz)) 0 0 (va_A [(h0, .inr (1, [.null, .null, .int 0, .int 0, .int 0, .int 0]))] sz) := by
  refine Met.ofW (cc := cX1_init) (maxL := 3) (ret := none) (by decide) rfl ?_
  intro p e s m args below meth c s₁ B hml hv
  obtain ⟨rfl, hsz, hP, hK, hD0⟩ := hv
  have hx := B.exec
  have hb := B.bytes
  have hr := B.returns
  have hts := atoms_spec (ws := u_c_X1_init) B.pre
  have hown : s.vm.findClass RX1 = some m.cls := findClass_of_methodNamed B.named
  have hlocks := B.notSynchronized
  have hin : meth.name = "<init>" := (name_of_methodNamed B.named B.method).1
  subst hsz
  have hD := hD0.self (sz := s.heap.size)
  generalize hAe : va_A [(h0, .inr (1, [.null, .null, .int 0, .int 0, .int 0, .int 0]))] s.heap.size = A at hD ⊢
  have hA : ∀ q : Nat, s.heap.size ≤ q → A q := fun q h => by rw [← hAe]; exact Or.inr h
  have hS : va_S A s.heap s.heap [] := va_S.rf
  have hP : va_P (dC, dI) vwCl [(h0, .inr (1, [.null, .null, .int 0, .int 0, .int 0, .int 0]))] s.heap := hP
  have w__methodLink_RX1_3_objectInit := hts (.methodLink RX1 3 objectInit) (by decide +kernel)
  have w__instanceMethod_objectInit := hts (.instanceMethod objectInit) (by decide +kernel)
  have w__code_objectInit_0xb1_1_none := hts (.code objectInit ⟨#[0xb1]⟩ 1 none) (by decide +kernel)
  have w__fieldLink_RX1_9_ShellHeap_FindsReader_note_I_ := hts (.fieldLink RX1 9 "ShellHeap$FindsReader" "note" "I") (by decide +kernel)
  have hiX1 := show ∀ w ∈ u_ws RX1 TX1 6, w ∈ u_c_X1_init by decide +kernel
  have w__fieldLink_RX1_15_ShellHeap_FindsReader_kind_I_ := hts (.fieldLink RX1 15 "ShellHeap$FindsReader" "kind" "I") (by decide +kernel)
  have w__fieldLink_RX1_18_ShellHeap_FindsReader_sieve_I_ := hts (.fieldLink RX1 18 "ShellHeap$FindsReader" "sieve" "I") (by decide +kernel)
  have w__fieldLink_RX1_21_ShellHeap_FindsReader_toldParts_I_ := hts (.fieldLink RX1 21 "ShellHeap$FindsReader" "toldParts" "I") (by decide +kernel)
  have w__fieldLink_RX1_24_ShellHeap_FindsReader_tape_LShellHeap_Tape_ := hts (.fieldLink RX1 24 "ShellHeap$FindsReader" "tape" "LShellHeap$Tape;") (by decide +kernel)
  have w__fieldLink_RX1_28_ShellHeap_FindsReader_pantry_LShellHeap_Pantry_ := hts (.fieldLink RX1 28 "ShellHeap$FindsReader" "pantry" "LShellHeap$Pantry;") (by decide +kernel)
  have hl := lv_entry ([.ref h0, .ref h1, .ref h2]) (n := 3) (Nat.le_of_ble_eq_true rfl)
  rw [lg_entry_eq]
  generalize (lg_sl ([.ref h0, .ref h1, .ref h2]) ++ List.replicate (3 - (lg_sl ([.ref h0, .ref h1, .ref h2])).length) Slot.unset).toArray = ls at hl ⊢
  have hl : lv_has ls 3 [(0, .ref h0), (1, .ref h1), (2, .ref h2)] := hl
  refine lv_aload_n hx hb dX1_init_0 rfl (lv_at hl 0 rfl) ?_
  refine W.objInit hx hb hown w__methodLink_RX1_3_objectInit w__instanceMethod_objectInit w__code_objectInit_0xb1_1_none rfl (by rw [hml]; exact hl.1) rfl dX1_init_1 (Nat.le_of_ble_eq_true rfl) (Nat.le_of_ble_eq_true rfl) ?_
  refine W.eq (g2 := F0 m 4 ls []) rfl ?_
  refine lv_aload_n hx hb dX1_init_4 rfl (lv_at hl 0 rfl) ?_
  refine lv_iconst (v := 0) hx hb dX1_init_5 (by decide) ?_
  refine va_put (D := (dC, dI)) (ci := 1) (v := .int 0) (ty := .int) (C := RX1) (T := TX1) (N := 6) hx hb hts hiX1 tyX1 tyX1_ok nmX1 hown hK hP hD hS 0 rfl rfl 2 (by decide) w__fieldLink_RX1_9_ShellHeap_FindsReader_note_I_ (fun _ h9 => h9) rfl (by decide +kernel) rfl rfl (Nat.le_of_ble_eq_true rfl) dX1_init_6 (fun H_1 locs hP hD hS => ?_)
  have hP : va_P (dC, dI) vwCl [(h0, .inr (1, [.null, .null, .int 0, .int 0, .int 0, .int 0]))] H_1 := hP
  have hD : va_D A [(h0, .inr (1, [.null, .null, .int 0, .int 0, .int 0, .int 0]))] := hD
  refine lv_aload_n hx hb dX1_init_9 rfl (lv_at hl 0 rfl) ?_
  refine lv_iconst (v := 0) hx hb dX1_init_10 (by decide) ?_
  refine va_put (D := (dC, dI)) (ci := 1) (v := .int 0) (ty := .int) (C := RX1) (T := TX1) (N := 6) hx hb hts hiX1 tyX1 tyX1_ok nmX1 hown hK hP hD hS 0 rfl rfl 3 (by decide) w__fieldLink_RX1_15_ShellHeap_FindsReader_kind_I_ (fun _ h9 => h9) rfl (by decide +kernel) rfl rfl (Nat.le_of_ble_eq_true rfl) dX1_init_11 (fun H_2 locs hP hD hS => ?_)
  have hP : va_P (dC, dI) vwCl [(h0, .inr (1, [.null, .null, .int 0, .int 0, .int 0, .int 0]))] H_2 := hP
  have hD : va_D A [(h0, .inr (1, [.null, .null, .int 0, .int 0, .int 0, .int 0]))] := hD
  refine lv_aload_n hx hb dX1_init_14 rfl (lv_at hl 0 rfl) ?_
  refine lv_iconst (v := 0) hx hb dX1_init_15 (by decide) ?_
  refine va_put (D := (dC, dI)) (ci := 1) (v := .int 0) (ty := .int) (C := RX1) (T := TX1) (N := 6) hx hb hts hiX1 tyX1 tyX1_ok nmX1 hown hK hP hD hS 0 rfl rfl 4 (by decide) w__fieldLink_RX1_18_ShellHeap_FindsReader_sieve_I_ (fun _ h9 => h9) rfl (by decide +kernel) rfl rfl (Nat.le_of_ble_eq_true rfl) dX1_init_16 (fun H_3 locs hP hD hS => ?_)
  have hP : va_P (dC, dI) vwCl [(h0, .inr (1, [.null, .null, .int 0, .int 0, .int 0, .int 0]))] H_3 := hP
  have hD : va_D A [(h0, .inr (1, [.null, .null, .int 0, .int 0, .int 0, .int 0]))] := hD
  refine lv_aload_n hx hb dX1_init_19 rfl (lv_at hl 0 rfl) ?_
  refine lv_iconst (v := 0) hx hb dX1_init_20 (by decide) ?_
  refine va_put (D := (dC, dI)) (ci := 1) (v := .int 0) (ty := .int) (C := RX1) (T := TX1) (N := 6) hx hb hts hiX1 tyX1 tyX1_ok nmX1 hown hK hP hD hS 0 rfl rfl 5 (by decide) w__fieldLink_RX1_21_ShellHeap_FindsReader_toldParts_I_ (fun _ h9 => h9) rfl (by decide +kernel) rfl rfl (Nat.le_of_ble_eq_true rfl) dX1_init_21 (fun H_4 locs hP hD hS => ?_)
  have hP : va_P (dC, dI) vwCl [(h0, .inr (1, [.null, .null, .int 0, .int 0, .int 0, .int 0]))] H_4 := hP
  have hD : va_D A [(h0, .inr (1, [.null, .null, .int 0, .int 0, .int 0, .int 0]))] := hD
  refine lv_aload_n hx hb dX1_init_24 rfl (lv_at hl 0 rfl) ?_
  refine lv_aload_n hx hb dX1_init_25 rfl (lv_at hl 1 rfl) ?_
  refine va_putF (D := (dC, dI)) (ci := 1) (v := .ref h1) (ty := .object "ShellHeap$Tape") (C := RX1) (T := TX1) (N := 6) hx hb hts hiX1 tyX1 tyX1_ok nmX1 hown hK hP hD hS 0 rfl rfl 0 (by decide) w__fieldLink_RX1_24_ShellHeap_FindsReader_tape_LShellHeap_Tape_ (fun _ h9 => h9) rfl hin rfl (by decide +kernel) rfl rfl (Nat.le_of_ble_eq_true rfl) dX1_init_26 (fun H_5 locs hP hD hS => ?_)
  have hP : va_P (dC, dI) vwCl [(h0, .inr (1, [.ref h1, .null, .int 0, .int 0, .int 0, .int 0]))] H_5 := hP
  have hD : va_D A [(h0, .inr (1, [.ref h1, .null, .int 0, .int 0, .int 0, .int 0]))] := hD
  refine lv_aload_n hx hb dX1_init_29 rfl (lv_at hl 0 rfl) ?_
  refine lv_aload_n hx hb dX1_init_30 rfl (lv_at hl 2 rfl) ?_
  refine va_putF (D := (dC, dI)) (ci := 1) (v := .ref h2) (ty := .object "ShellHeap$Pantry") (C := RX1) (T := TX1) (N := 6) hx hb hts hiX1 tyX1 tyX1_ok nmX1 hown hK hP hD hS 0 rfl rfl 1 (by decide) w__fieldLink_RX1_28_ShellHeap_FindsReader_pantry_LShellHeap_Pantry_ (fun _ h9 => h9) rfl hin rfl (by decide +kernel) rfl rfl (Nat.le_of_ble_eq_true rfl) dX1_init_31 (fun H_6 locs hP hD hS => ?_)
  have hP : va_P (dC, dI) vwCl [(h0, .inr (1, [.ref h1, .ref h2, .int 0, .int 0, .int 0, .int 0]))] H_6 := hP
  have hD : va_D A [(h0, .inr (1, [.ref h1, .ref h2, .int 0, .int 0, .int 0, .int 0]))] := hD
  refine W.widen (k := 0) (n := 0) (Nat.le_of_ble_eq_true rfl) (Nat.le_of_ble_eq_true rfl) ?_
  exact W.vret hx hb hr (fun t ht hW => ⟨⟨(), rfl, trivial, trivial⟩, hS.F ht⟩) hS.2.2 dX1_init_34
def u_c_X7_init : List Cond := .code yX7_init cX7_init 1 none :: ([.methodLink RX7 1 objectInit, .instanceMethod objectInit, .code objectInit ⟨#[0xb1]⟩ 1 none, .arrayClass .int, .fieldLink RX7 9 "ShellHeap$Rules" "steps" "[I", .fieldLink RX7 13 "ShellHeap$Rules" "worths" "[I", .fieldLink RX7 16 "ShellHeap$Rules" "begins" "[I", .fieldLink RX7 19 "ShellHeap$Rules" "length" "I", .fieldLink RX7 23 "ShellHeap$Rules" "causes" "I", .fieldLink RX7 26 "ShellHeap$Rules" "knots" "I"] ++ wsX70)
set_option maxHeartbeats 4000000 in
set_option maxRecDepth 100000 in
theorem c_X7_init (l : Launch) (dC : Nat → ClassId) (dI : Nat → Nat → Nat) (sz : Nat) (h0 : Nat) : Met l yX7_init u_c_X7_init ({ frames := 1, cells := 3, slots := 199, locals := 12 }) (va_Pc [.ref h0] (z_C (dC, dI) vwCl [(h0, .inr (7, [.null, .null, .null, .int 0, .int 0, .int 0]))] [] sz)) (va_Qv (fun (_ : Unit) => True) (fun (_ : Unit) (t : State) => ∃ (q0 : Nat), ∃ (q1 : Nat), ∃ (q2 : Nat), va_P (dC, dI) vwCl [(h0, .inr (7, [.ref q0, .ref q1, .ref q2, .int 0, .int 0, .int 0]))] t.heap ∧ va_K (dC, dI) vwCl [] t ∧ va_D (va_A [(h0, .inr (7, [.null, .null, .null, .int 0, .int 0, .int 0]))] sz) [(h0, .inr (7, [.ref q0, .ref q1, .ref q2, .int 0, .int 0, .int 0]))]) (va_A [(h0, .inr (7, [.null, .null, .null, .int 0, .int 0, .int 0]))] sz)) 3 199 (va_A [(h0, .inr (7, [.null, .null, .null, .int 0, .int 0, .int 0]))] sz) := by
  refine Met.ofW (cc := cX7_init) (maxL := 1) (ret := none) (by decide) rfl ?_
  intro p e s m args below meth c s₁ B hml hv
  obtain ⟨rfl, hsz, hP, hK, hD0⟩ := hv
  have hx := B.exec
  have hb := B.bytes
  have hr := B.returns
  have hts := atoms_spec (ws := u_c_X7_init) B.pre
  have hown : s.vm.findClass RX7 = some m.cls := findClass_of_methodNamed B.named
  have hlocks := B.notSynchronized
  have hin : meth.name = "<init>" := (name_of_methodNamed B.named B.method).1
  subst hsz
  have hD := hD0.self (sz := s.heap.size)
  generalize hAe : va_A [(h0, .inr (7, [.null, .null, .null, .int 0, .int 0, .int 0]))] s.heap.size = A at hD ⊢
  have hA : ∀ q : Nat, s.heap.size ≤ q → A q := fun q h => by rw [← hAe]; exact Or.inr h
  have hS : va_S A s.heap s.heap [] := va_S.rf
  have hP : va_P (dC, dI) vwCl [(h0, .inr (7, [.null, .null, .null, .int 0, .int 0, .int 0]))] s.heap := hP
  have w__methodLink_RX7_1_objectInit := hts (.methodLink RX7 1 objectInit) (by decide +kernel)
  have w__instanceMethod_objectInit := hts (.instanceMethod objectInit) (by decide +kernel)
  have w__code_objectInit_0xb1_1_none := hts (.code objectInit ⟨#[0xb1]⟩ 1 none) (by decide +kernel)
  have w__arrayClass_int := hts (.arrayClass .int) (by decide +kernel)
  have w__fieldLink_RX7_9_ShellHeap_Rules_steps_I_ := hts (.fieldLink RX7 9 "ShellHeap$Rules" "steps" "[I") (by decide +kernel)
  have hiX7 := show ∀ w ∈ u_ws RX7 TX7 6, w ∈ u_c_X7_init by decide +kernel
  have w__fieldLink_RX7_13_ShellHeap_Rules_worths_I_ := hts (.fieldLink RX7 13 "ShellHeap$Rules" "worths" "[I") (by decide +kernel)
  have w__fieldLink_RX7_16_ShellHeap_Rules_begins_I_ := hts (.fieldLink RX7 16 "ShellHeap$Rules" "begins" "[I") (by decide +kernel)
  have w__fieldLink_RX7_19_ShellHeap_Rules_length_I_ := hts (.fieldLink RX7 19 "ShellHeap$Rules" "length" "I") (by decide +kernel)
  have w__fieldLink_RX7_23_ShellHeap_Rules_causes_I_ := hts (.fieldLink RX7 23 "ShellHeap$Rules" "causes" "I") (by decide +kernel)
  have w__fieldLink_RX7_26_ShellHeap_Rules_knots_I_ := hts (.fieldLink RX7 26 "ShellHeap$Rules" "knots" "I") (by decide +kernel)
  have hl := lv_entry ([.ref h0]) (n := 1) (Nat.le_of_ble_eq_true rfl)
  rw [lg_entry_eq]
  generalize (lg_sl ([.ref h0]) ++ List.replicate (1 - (lg_sl ([.ref h0])).length) Slot.unset).toArray = ls at hl ⊢
  have hl : lv_has ls 1 [(0, .ref h0)] := hl
  refine lv_aload_n hx hb dX7_init_0 rfl (lv_at hl 0 rfl) ?_
  refine W.objInit hx hb hown w__methodLink_RX7_1_objectInit w__instanceMethod_objectInit w__code_objectInit_0xb1_1_none rfl (by rw [hml]; exact hl.1) rfl dX7_init_1 (Nat.le_of_ble_eq_true rfl) (Nat.le_of_ble_eq_true rfl) ?_
  refine W.eq (g2 := F0 m 4 ls []) rfl ?_
  refine lv_aload_n hx hb dX7_init_4 rfl (lv_at hl 0 rfl) ?_
  refine lv_bipush (v := 96) hx hb dX7_init_5 (by decide) ?_
  refine va_newa (ty := .int) (N' := 96) (a0 := (96, .inl (fun _ => 0))) hx hb w__arrayClass_int rfl hK hP hD hS hA (fun _ => rfl) (by decide) (by decide) (by decide) (Nat.le_of_ble_eq_true rfl) (Nat.le_of_ble_eq_true rfl) dX7_init_7 (fun q_1 cA_2 H_3 hK hP hD hS => ?_)
  have hK : va_K (dC, dI) vwCl [(cA_2, .int)] s := hK
  have hP : va_P (dC, dI) vwCl [(h0, .inr (7, [.null, .null, .null, .int 0, .int 0, .int 0])), (q_1, .inl (cA_2, 96, .inl (fun _ => 0)))] H_3 := hP
  have hD : va_D A [(h0, .inr (7, [.null, .null, .null, .int 0, .int 0, .int 0])), (q_1, .inl (cA_2, 96, .inl (fun _ => 0)))] := hD
  refine va_putF (D := (dC, dI)) (ci := 7) (v := .ref q_1) (ty := .array .int) (C := RX7) (T := TX7) (N := 6) hx hb hts hiX7 tyX7 tyX7_ok nmX7 hown hK hP hD hS 0 rfl rfl 0 (by decide) w__fieldLink_RX7_9_ShellHeap_Rules_steps_I_ (fun _ h9 => h9) rfl hin rfl (by decide +kernel) rfl rfl (Nat.le_of_ble_eq_true rfl) dX7_init_9 (fun H_4 locs hP hD hS => ?_)
  have hP : va_P (dC, dI) vwCl [(h0, .inr (7, [.ref q_1, .null, .null, .int 0, .int 0, .int 0])), (q_1, .inl (cA_2, 96, .inl (fun _ => 0)))] H_4 := hP
  have hD : va_D A [(h0, .inr (7, [.ref q_1, .null, .null, .int 0, .int 0, .int 0])), (q_1, .inl (cA_2, 96, .inl (fun _ => 0)))] := hD
  refine lv_aload_n hx hb dX7_init_12 rfl (lv_at hl 0 rfl) ?_
  refine lv_bipush (v := 96) hx hb dX7_init_13 (by decide) ?_
  refine va_newa (ty := .int) (N' := 96) (a0 := (96, .inl (fun _ => 0))) hx hb w__arrayClass_int rfl hK hP hD hS hA (fun _ => rfl) (by decide) (by decide) (by decide) (Nat.le_of_ble_eq_true rfl) (Nat.le_of_ble_eq_true rfl) dX7_init_15 (fun q_5 cA_6 H_7 hK hP hD hS => ?_)
  have hK : va_K (dC, dI) vwCl [(cA_2, .int), (cA_6, .int)] s := hK
  have hP : va_P (dC, dI) vwCl [(h0, .inr (7, [.ref q_1, .null, .null, .int 0, .int 0, .int 0])), (q_1, .inl (cA_2, 96, .inl (fun _ => 0))), (q_5, .inl (cA_6, 96, .inl (fun _ => 0)))] H_7 := hP
  have hD : va_D A [(h0, .inr (7, [.ref q_1, .null, .null, .int 0, .int 0, .int 0])), (q_1, .inl (cA_2, 96, .inl (fun _ => 0))), (q_5, .inl (cA_6, 96, .inl (fun _ => 0)))] := hD
  refine va_putF (D := (dC, dI)) (ci := 7) (v := .ref q_5) (ty := .array .int) (C := RX7) (T := TX7) (N := 6) hx hb hts hiX7 tyX7 tyX7_ok nmX7 hown hK hP hD hS 0 rfl rfl 1 (by decide) w__fieldLink_RX7_13_ShellHeap_Rules_worths_I_ (fun _ h9 => h9) rfl hin rfl (by decide +kernel) rfl rfl (Nat.le_of_ble_eq_true rfl) dX7_init_17 (fun H_8 locs hP hD hS => ?_)
  have hP : va_P (dC, dI) vwCl [(h0, .inr (7, [.ref q_1, .ref q_5, .null, .int 0, .int 0, .int 0])), (q_1, .inl (cA_2, 96, .inl (fun _ => 0))), (q_5, .inl (cA_6, 96, .inl (fun _ => 0)))] H_8 := hP
  have hD : va_D A [(h0, .inr (7, [.ref q_1, .ref q_5, .null, .int 0, .int 0, .int 0])), (q_1, .inl (cA_2, 96, .inl (fun _ => 0))), (q_5, .inl (cA_6, 96, .inl (fun _ => 0)))] := hD
  refine lv_aload_n hx hb dX7_init_20 rfl (lv_at hl 0 rfl) ?_
  refine lv_bipush (v := 7) hx hb dX7_init_21 (by decide) ?_
  refine va_newa (ty := .int) (N' := 7) (a0 := (7, .inl (fun _ => 0))) hx hb w__arrayClass_int rfl hK hP hD hS hA (fun _ => rfl) (by decide) (by decide) (by decide) (Nat.le_of_ble_eq_true rfl) (Nat.le_of_ble_eq_true rfl) dX7_init_23 (fun q_9 cA_10 H_11 hK hP hD hS => ?_)
  have hK : va_K (dC, dI) vwCl [(cA_2, .int), (cA_6, .int), (cA_10, .int)] s := hK
  have hP : va_P (dC, dI) vwCl [(h0, .inr (7, [.ref q_1, .ref q_5, .null, .int 0, .int 0, .int 0])), (q_1, .inl (cA_2, 96, .inl (fun _ => 0))), (q_5, .inl (cA_6, 96, .inl (fun _ => 0))), (q_9, .inl (cA_10, 7, .inl (fun _ => 0)))] H_11 := hP
  have hD : va_D A [(h0, .inr (7, [.ref q_1, .ref q_5, .null, .int 0, .int 0, .int 0])), (q_1, .inl (cA_2, 96, .inl (fun _ => 0))), (q_5, .inl (cA_6, 96, .inl (fun _ => 0))), (q_9, .inl (cA_10, 7, .inl (fun _ => 0)))] := hD
  refine va_putF (D := (dC, dI)) (ci := 7) (v := .ref q_9) (ty := .array .int) (C := RX7) (T := TX7) (N := 6) hx hb hts hiX7 tyX7 tyX7_ok nmX7 hown hK hP hD hS 0 rfl rfl 2 (by decide) w__fieldLink_RX7_16_ShellHeap_Rules_begins_I_ (fun _ h9 => h9) rfl hin rfl (by decide +kernel) rfl rfl (Nat.le_of_ble_eq_true rfl) dX7_init_25 (fun H_12 locs hP hD hS => ?_)
  have hP : va_P (dC, dI) vwCl [(h0, .inr (7, [.ref q_1, .ref q_5, .ref q_9, .int 0, .int 0, .int 0])), (q_1, .inl (cA_2, 96, .inl (fun _ => 0))), (q_5, .inl (cA_6, 96, .inl (fun _ => 0))), (q_9, .inl (cA_10, 7, .inl (fun _ => 0)))] H_12 := hP
  have hD : va_D A [(h0, .inr (7, [.ref q_1, .ref q_5, .ref q_9, .int 0, .int 0, .int 0])), (q_1, .inl (cA_2, 96, .inl (fun _ => 0))), (q_5, .inl (cA_6, 96, .inl (fun _ => 0))), (q_9, .inl (cA_10, 7, .inl (fun _ => 0)))] := hD
  refine lv_aload_n hx hb dX7_init_28 rfl (lv_at hl 0 rfl) ?_
  refine lv_iconst (v := 0) hx hb dX7_init_29 (by decide) ?_
  refine va_put (D := (dC, dI)) (ci := 7) (v := .int 0) (ty := .int) (C := RX7) (T := TX7) (N := 6) hx hb hts hiX7 tyX7 tyX7_ok nmX7 hown hK hP hD hS 0 rfl rfl 3 (by decide) w__fieldLink_RX7_19_ShellHeap_Rules_length_I_ (fun _ h9 => h9) rfl (by decide +kernel) rfl rfl (Nat.le_of_ble_eq_true rfl) dX7_init_30 (fun H_13 locs hP hD hS => ?_)
  have hP : va_P (dC, dI) vwCl [(h0, .inr (7, [.ref q_1, .ref q_5, .ref q_9, .int 0, .int 0, .int 0])), (q_1, .inl (cA_2, 96, .inl (fun _ => 0))), (q_5, .inl (cA_6, 96, .inl (fun _ => 0))), (q_9, .inl (cA_10, 7, .inl (fun _ => 0)))] H_13 := hP
  have hD : va_D A [(h0, .inr (7, [.ref q_1, .ref q_5, .ref q_9, .int 0, .int 0, .int 0])), (q_1, .inl (cA_2, 96, .inl (fun _ => 0))), (q_5, .inl (cA_6, 96, .inl (fun _ => 0))), (q_9, .inl (cA_10, 7, .inl (fun _ => 0)))] := hD
  refine lv_aload_n hx hb dX7_init_33 rfl (lv_at hl 0 rfl) ?_
  refine lv_iconst (v := 0) hx hb dX7_init_34 (by decide) ?_
  refine va_put (D := (dC, dI)) (ci := 7) (v := .int 0) (ty := .int) (C := RX7) (T := TX7) (N := 6) hx hb hts hiX7 tyX7 tyX7_ok nmX7 hown hK hP hD hS 0 rfl rfl 4 (by decide) w__fieldLink_RX7_23_ShellHeap_Rules_causes_I_ (fun _ h9 => h9) rfl (by decide +kernel) rfl rfl (Nat.le_of_ble_eq_true rfl) dX7_init_35 (fun H_14 locs hP hD hS => ?_)
  have hP : va_P (dC, dI) vwCl [(h0, .inr (7, [.ref q_1, .ref q_5, .ref q_9, .int 0, .int 0, .int 0])), (q_1, .inl (cA_2, 96, .inl (fun _ => 0))), (q_5, .inl (cA_6, 96, .inl (fun _ => 0))), (q_9, .inl (cA_10, 7, .inl (fun _ => 0)))] H_14 := hP
  have hD : va_D A [(h0, .inr (7, [.ref q_1, .ref q_5, .ref q_9, .int 0, .int 0, .int 0])), (q_1, .inl (cA_2, 96, .inl (fun _ => 0))), (q_5, .inl (cA_6, 96, .inl (fun _ => 0))), (q_9, .inl (cA_10, 7, .inl (fun _ => 0)))] := hD
  refine lv_aload_n hx hb dX7_init_38 rfl (lv_at hl 0 rfl) ?_
  refine lv_iconst (v := 0) hx hb dX7_init_39 (by decide) ?_
  refine va_put (D := (dC, dI)) (ci := 7) (v := .int 0) (ty := .int) (C := RX7) (T := TX7) (N := 6) hx hb hts hiX7 tyX7 tyX7_ok nmX7 hown hK hP hD hS 0 rfl rfl 5 (by decide) w__fieldLink_RX7_26_ShellHeap_Rules_knots_I_ (fun _ h9 => h9) rfl (by decide +kernel) rfl rfl (Nat.le_of_ble_eq_true rfl) dX7_init_40 (fun H_15 locs hP hD hS => ?_)
  have hP : va_P (dC, dI) vwCl [(h0, .inr (7, [.ref q_1, .ref q_5, .ref q_9, .int 0, .int 0, .int 0])), (q_1, .inl (cA_2, 96, .inl (fun _ => 0))), (q_5, .inl (cA_6, 96, .inl (fun _ => 0))), (q_9, .inl (cA_10, 7, .inl (fun _ => 0)))] H_15 := hP
  have hD : va_D A [(h0, .inr (7, [.ref q_1, .ref q_5, .ref q_9, .int 0, .int 0, .int 0])), (q_1, .inl (cA_2, 96, .inl (fun _ => 0))), (q_5, .inl (cA_6, 96, .inl (fun _ => 0))), (q_9, .inl (cA_10, 7, .inl (fun _ => 0)))] := hD
  have hP9 := hP.sub (ws' := [(h0, .inr (7, [.ref q_1, .ref q_5, .ref q_9, .int 0, .int 0, .int 0]))]) [0] rfl
  have hD9 := hD.sub (ws' := [(h0, .inr (7, [.ref q_1, .ref q_5, .ref q_9, .int 0, .int 0, .int 0]))]) [0] (by decide) rfl
  have hK9 := hK.sub (tys' := []) [] rfl
  refine W.widen (k := 3) (n := 199) (Nat.le_of_ble_eq_true rfl) (Nat.le_of_ble_eq_true rfl) ?_
  exact W.vret hx hb hr (fun t ht hW => ⟨⟨(), rfl, trivial, ⟨q_1, q_5, q_9, by rw [ht]; exact hP9, va_K.moved hW.alike hK9, hD9⟩⟩, hS.F ht⟩) hS.2.2 dX7_init_43
def u_c_X3_init : List Cond := .code yX3_init cX3_init 6 none :: ([.methodLink RX3 3 objectInit, .instanceMethod objectInit, .code objectInit ⟨#[0xb1]⟩ 1 none, .arrayClass .long, .fieldLink RX3 11 "ShellHeap$Judge" "values" "[J", .arrayClass .boolean, .fieldLink RX3 15 "ShellHeap$Judge" "isWorked" "[Z", .fieldLink RX3 21 "ShellHeap$Judge" "stack" "[J", .fieldLink RX3 24 "ShellHeap$Judge" "own" "I", .fieldLink RX3 28 "ShellHeap$Judge" "ahead" "I", .fieldLink RX3 31 "ShellHeap$Judge" "known" "LShellHeap$Known;", .fieldLink RX3 35 "ShellHeap$Judge" "ground" "LShellHeap$Ground;", .fieldLink RX3 39 "ShellHeap$Judge" "pantry" "LShellHeap$Pantry;", .fieldLink RX3 43 "ShellHeap$Judge" "readers" "LShellHeap$Readers;", .fieldLink RX3 47 "ShellHeap$Judge" "sizes" "LShellHeap$Sizes;"] ++ wsX30)
set_option maxHeartbeats 4000000 in
set_option maxRecDepth 100000 in
theorem c_X3_init (l : Launch) (dC : Nat → ClassId) (dI : Nat → Nat → Nat) (sz : Nat) (h0 : Nat) (h1 : Nat) (h2 : Nat) (h3 : Nat) (h4 : Nat) (h5 : Nat) : Met l yX3_init u_c_X3_init ({ frames := 1, cells := 3, slots := 136, locals := 12 }) (va_Pc [.ref h0, .ref h1, .ref h2, .ref h3, .ref h4, .ref h5] (z_C (dC, dI) vwCl [(h0, .inr (3, [.null, .null, .null, .null, .null, .null, .null, .null, .int 0, .int 0]))] [] sz)) (va_Qv (fun (_ : Unit) => True) (fun (_ : Unit) (_ : State) => True) (va_A [(h0, .inr (3, [.null, .null, .null, .null, .null, .null, .null, .null, .int 0, .int 0]))] sz)) 3 136 (va_A [(h0, .inr (3, [.null, .null, .null, .null, .null, .null, .null, .null, .int 0, .int 0]))] sz) := by
  refine Met.ofW (cc := cX3_init) (maxL := 6) (ret := none) (by decide) rfl ?_
  intro p e s m args below meth c s₁ B hml hv
  obtain ⟨rfl, hsz, hP, hK, hD0⟩ := hv
  have hx := B.exec
  have hb := B.bytes
  have hr := B.returns
  have hts := atoms_spec (ws := u_c_X3_init) B.pre
  have hown : s.vm.findClass RX3 = some m.cls := findClass_of_methodNamed B.named
  have hlocks := B.notSynchronized
  have hin : meth.name = "<init>" := (name_of_methodNamed B.named B.method).1
  subst hsz
  have hD := hD0.self (sz := s.heap.size)
  generalize hAe : va_A [(h0, .inr (3, [.null, .null, .null, .null, .null, .null, .null, .null, .int 0, .int 0]))] s.heap.size = A at hD ⊢
  have hA : ∀ q : Nat, s.heap.size ≤ q → A q := fun q h => by rw [← hAe]; exact Or.inr h
  have hS : va_S A s.heap s.heap [] := va_S.rf
  have hP : va_P (dC, dI) vwCl [(h0, .inr (3, [.null, .null, .null, .null, .null, .null, .null, .null, .int 0, .int 0]))] s.heap := hP
  have w__methodLink_RX3_3_objectInit := hts (.methodLink RX3 3 objectInit) (by decide +kernel)
  have w__instanceMethod_objectInit := hts (.instanceMethod objectInit) (by decide +kernel)
  have w__code_objectInit_0xb1_1_none := hts (.code objectInit ⟨#[0xb1]⟩ 1 none) (by decide +kernel)
  have w__arrayClass_long := hts (.arrayClass .long) (by decide +kernel)
  have w__fieldLink_RX3_11_ShellHeap_Judge_values_J_ := hts (.fieldLink RX3 11 "ShellHeap$Judge" "values" "[J") (by decide +kernel)
  have hiX3 := show ∀ w ∈ u_ws RX3 TX3 10, w ∈ u_c_X3_init by decide +kernel
  have w__arrayClass_boolean := hts (.arrayClass .boolean) (by decide +kernel)
  have w__fieldLink_RX3_15_ShellHeap_Judge_isWorked_Z_ := hts (.fieldLink RX3 15 "ShellHeap$Judge" "isWorked" "[Z") (by decide +kernel)
  have w__fieldLink_RX3_21_ShellHeap_Judge_stack_J_ := hts (.fieldLink RX3 21 "ShellHeap$Judge" "stack" "[J") (by decide +kernel)
  have w__fieldLink_RX3_24_ShellHeap_Judge_own_I_ := hts (.fieldLink RX3 24 "ShellHeap$Judge" "own" "I") (by decide +kernel)
  have w__fieldLink_RX3_28_ShellHeap_Judge_ahead_I_ := hts (.fieldLink RX3 28 "ShellHeap$Judge" "ahead" "I") (by decide +kernel)
  have w__fieldLink_RX3_31_ShellHeap_Judge_known_LShellHeap_Known_ := hts (.fieldLink RX3 31 "ShellHeap$Judge" "known" "LShellHeap$Known;") (by decide +kernel)
  have w__fieldLink_RX3_35_ShellHeap_Judge_ground_LShellHeap_Ground_ := hts (.fieldLink RX3 35 "ShellHeap$Judge" "ground" "LShellHeap$Ground;") (by decide +kernel)
  have w__fieldLink_RX3_39_ShellHeap_Judge_pantry_LShellHeap_Pantry_ := hts (.fieldLink RX3 39 "ShellHeap$Judge" "pantry" "LShellHeap$Pantry;") (by decide +kernel)
  have w__fieldLink_RX3_43_ShellHeap_Judge_readers_LShellHeap_Readers_ := hts (.fieldLink RX3 43 "ShellHeap$Judge" "readers" "LShellHeap$Readers;") (by decide +kernel)
  have w__fieldLink_RX3_47_ShellHeap_Judge_sizes_LShellHeap_Sizes_ := hts (.fieldLink RX3 47 "ShellHeap$Judge" "sizes" "LShellHeap$Sizes;") (by decide +kernel)
  have hl := lv_entry ([.ref h0, .ref h1, .ref h2, .ref h3, .ref h4, .ref h5]) (n := 6) (Nat.le_of_ble_eq_true rfl)
  rw [lg_entry_eq]
  generalize (lg_sl ([.ref h0, .ref h1, .ref h2, .ref h3, .ref h4, .ref h5]) ++ List.replicate (6 - (lg_sl ([.ref h0, .ref h1, .ref h2, .ref h3, .ref h4, .ref h5])).length) Slot.unset).toArray = ls at hl ⊢
  have hl : lv_has ls 6 [(0, .ref h0), (1, .ref h1), (2, .ref h2), (3, .ref h3), (4, .ref h4), (5, .ref h5)] := hl
  refine lv_aload_n hx hb dX3_init_0 rfl (lv_at hl 0 rfl) ?_
  refine W.objInit hx hb hown w__methodLink_RX3_3_objectInit w__instanceMethod_objectInit w__code_objectInit_0xb1_1_none rfl (by rw [hml]; exact hl.1) rfl dX3_init_1 (Nat.le_of_ble_eq_true rfl) (Nat.le_of_ble_eq_true rfl) ?_
  refine W.eq (g2 := F0 m 4 ls []) rfl ?_
  refine lv_aload_n hx hb dX3_init_4 rfl (lv_at hl 0 rfl) ?_
  refine lv_bipush (v := 20) hx hb dX3_init_5 (by decide) ?_
  refine va_newa (ty := .long) (N' := 20) (a0 := (20, .inr (.inl (fun _ => 0)))) hx hb w__arrayClass_long rfl hK hP hD hS hA (fun _ => rfl) (by decide) (by decide) (by decide) (Nat.le_of_ble_eq_true rfl) (Nat.le_of_ble_eq_true rfl) dX3_init_7 (fun q_1 cA_2 H_3 hK hP hD hS => ?_)
  have hK : va_K (dC, dI) vwCl [(cA_2, .long)] s := hK
  have hP : va_P (dC, dI) vwCl [(h0, .inr (3, [.null, .null, .null, .null, .null, .null, .null, .null, .int 0, .int 0])), (q_1, .inl (cA_2, 20, .inr (.inl (fun _ => 0))))] H_3 := hP
  have hD : va_D A [(h0, .inr (3, [.null, .null, .null, .null, .null, .null, .null, .null, .int 0, .int 0])), (q_1, .inl (cA_2, 20, .inr (.inl (fun _ => 0))))] := hD
  refine va_putF (D := (dC, dI)) (ci := 3) (v := .ref q_1) (ty := .array .long) (C := RX3) (T := TX3) (N := 10) hx hb hts hiX3 tyX3 tyX3_ok nmX3 hown hK hP hD hS 0 rfl rfl 5 (by decide) w__fieldLink_RX3_11_ShellHeap_Judge_values_J_ (fun _ h9 => h9) rfl hin rfl (by decide +kernel) rfl rfl (Nat.le_of_ble_eq_true rfl) dX3_init_9 (fun H_4 locs hP hD hS => ?_)
  have hP : va_P (dC, dI) vwCl [(h0, .inr (3, [.null, .null, .null, .null, .null, .ref q_1, .null, .null, .int 0, .int 0])), (q_1, .inl (cA_2, 20, .inr (.inl (fun _ => 0))))] H_4 := hP
  have hD : va_D A [(h0, .inr (3, [.null, .null, .null, .null, .null, .ref q_1, .null, .null, .int 0, .int 0])), (q_1, .inl (cA_2, 20, .inr (.inl (fun _ => 0))))] := hD
  refine lv_aload_n hx hb dX3_init_12 rfl (lv_at hl 0 rfl) ?_
  refine lv_bipush (v := 20) hx hb dX3_init_13 (by decide) ?_
  refine va_newa (ty := .boolean) (N' := 20) (a0 := (20, .inl (fun _ => 0))) hx hb w__arrayClass_boolean rfl hK hP hD hS hA (fun _ => rfl) (by decide) (by decide) (by decide) (Nat.le_of_ble_eq_true rfl) (Nat.le_of_ble_eq_true rfl) dX3_init_15 (fun q_5 cA_6 H_7 hK hP hD hS => ?_)
  have hK : va_K (dC, dI) vwCl [(cA_2, .long), (cA_6, .boolean)] s := hK
  have hP : va_P (dC, dI) vwCl [(h0, .inr (3, [.null, .null, .null, .null, .null, .ref q_1, .null, .null, .int 0, .int 0])), (q_1, .inl (cA_2, 20, .inr (.inl (fun _ => 0)))), (q_5, .inl (cA_6, 20, .inl (fun _ => 0)))] H_7 := hP
  have hD : va_D A [(h0, .inr (3, [.null, .null, .null, .null, .null, .ref q_1, .null, .null, .int 0, .int 0])), (q_1, .inl (cA_2, 20, .inr (.inl (fun _ => 0)))), (q_5, .inl (cA_6, 20, .inl (fun _ => 0)))] := hD
  refine va_putF (D := (dC, dI)) (ci := 3) (v := .ref q_5) (ty := .array .boolean) (C := RX3) (T := TX3) (N := 10) hx hb hts hiX3 tyX3 tyX3_ok nmX3 hown hK hP hD hS 0 rfl rfl 6 (by decide) w__fieldLink_RX3_15_ShellHeap_Judge_isWorked_Z_ (fun _ h9 => h9) rfl hin rfl (by decide +kernel) rfl rfl (Nat.le_of_ble_eq_true rfl) dX3_init_17 (fun H_8 locs hP hD hS => ?_)
  have hP : va_P (dC, dI) vwCl [(h0, .inr (3, [.null, .null, .null, .null, .null, .ref q_1, .ref q_5, .null, .int 0, .int 0])), (q_1, .inl (cA_2, 20, .inr (.inl (fun _ => 0)))), (q_5, .inl (cA_6, 20, .inl (fun _ => 0)))] H_8 := hP
  have hD : va_D A [(h0, .inr (3, [.null, .null, .null, .null, .null, .ref q_1, .ref q_5, .null, .int 0, .int 0])), (q_1, .inl (cA_2, 20, .inr (.inl (fun _ => 0)))), (q_5, .inl (cA_6, 20, .inl (fun _ => 0)))] := hD
  refine lv_aload_n hx hb dX3_init_20 rfl (lv_at hl 0 rfl) ?_
  refine lv_bipush (v := 96) hx hb dX3_init_21 (by decide) ?_
  refine va_newa (ty := .long) (N' := 96) (a0 := (96, .inr (.inl (fun _ => 0)))) hx hb w__arrayClass_long rfl hK hP hD hS hA (fun _ => rfl) (by decide) (by decide) (by decide) (Nat.le_of_ble_eq_true rfl) (Nat.le_of_ble_eq_true rfl) dX3_init_23 (fun q_9 cA_10 H_11 hK hP hD hS => ?_)
  have hK : va_K (dC, dI) vwCl [(cA_2, .long), (cA_6, .boolean), (cA_10, .long)] s := hK
  have hP : va_P (dC, dI) vwCl [(h0, .inr (3, [.null, .null, .null, .null, .null, .ref q_1, .ref q_5, .null, .int 0, .int 0])), (q_1, .inl (cA_2, 20, .inr (.inl (fun _ => 0)))), (q_5, .inl (cA_6, 20, .inl (fun _ => 0))), (q_9, .inl (cA_10, 96, .inr (.inl (fun _ => 0))))] H_11 := hP
  have hD : va_D A [(h0, .inr (3, [.null, .null, .null, .null, .null, .ref q_1, .ref q_5, .null, .int 0, .int 0])), (q_1, .inl (cA_2, 20, .inr (.inl (fun _ => 0)))), (q_5, .inl (cA_6, 20, .inl (fun _ => 0))), (q_9, .inl (cA_10, 96, .inr (.inl (fun _ => 0))))] := hD
  refine va_putF (D := (dC, dI)) (ci := 3) (v := .ref q_9) (ty := .array .long) (C := RX3) (T := TX3) (N := 10) hx hb hts hiX3 tyX3 tyX3_ok nmX3 hown hK hP hD hS 0 rfl rfl 7 (by decide) w__fieldLink_RX3_21_ShellHeap_Judge_stack_J_ (fun _ h9 => h9) rfl hin rfl (by decide +kernel) rfl rfl (Nat.le_of_ble_eq_true rfl) dX3_init_25 (fun H_12 locs hP hD hS => ?_)
  have hP : va_P (dC, dI) vwCl [(h0, .inr (3, [.null, .null, .null, .null, .null, .ref q_1, .ref q_5, .ref q_9, .int 0, .int 0])), (q_1, .inl (cA_2, 20, .inr (.inl (fun _ => 0)))), (q_5, .inl (cA_6, 20, .inl (fun _ => 0))), (q_9, .inl (cA_10, 96, .inr (.inl (fun _ => 0))))] H_12 := hP
  have hD : va_D A [(h0, .inr (3, [.null, .null, .null, .null, .null, .ref q_1, .ref q_5, .ref q_9, .int 0, .int 0])), (q_1, .inl (cA_2, 20, .inr (.inl (fun _ => 0)))), (q_5, .inl (cA_6, 20, .inl (fun _ => 0))), (q_9, .inl (cA_10, 96, .inr (.inl (fun _ => 0))))] := hD
  refine lv_aload_n hx hb dX3_init_28 rfl (lv_at hl 0 rfl) ?_
  refine lv_iconst (v := (-1)) hx hb dX3_init_29 (by decide) ?_
  refine va_put (D := (dC, dI)) (ci := 3) (v := .int (-1)) (ty := .int) (C := RX3) (T := TX3) (N := 10) hx hb hts hiX3 tyX3 tyX3_ok nmX3 hown hK hP hD hS 0 rfl rfl 8 (by decide) w__fieldLink_RX3_24_ShellHeap_Judge_own_I_ (fun _ h9 => h9) rfl (by decide +kernel) rfl rfl (Nat.le_of_ble_eq_true rfl) dX3_init_30 (fun H_13 locs hP hD hS => ?_)
  have hP : va_P (dC, dI) vwCl [(h0, .inr (3, [.null, .null, .null, .null, .null, .ref q_1, .ref q_5, .ref q_9, .int (-1), .int 0])), (q_1, .inl (cA_2, 20, .inr (.inl (fun _ => 0)))), (q_5, .inl (cA_6, 20, .inl (fun _ => 0))), (q_9, .inl (cA_10, 96, .inr (.inl (fun _ => 0))))] H_13 := hP
  have hD : va_D A [(h0, .inr (3, [.null, .null, .null, .null, .null, .ref q_1, .ref q_5, .ref q_9, .int (-1), .int 0])), (q_1, .inl (cA_2, 20, .inr (.inl (fun _ => 0)))), (q_5, .inl (cA_6, 20, .inl (fun _ => 0))), (q_9, .inl (cA_10, 96, .inr (.inl (fun _ => 0))))] := hD
  refine lv_aload_n hx hb dX3_init_33 rfl (lv_at hl 0 rfl) ?_
  refine lv_iconst (v := (-1)) hx hb dX3_init_34 (by decide) ?_
  refine va_put (D := (dC, dI)) (ci := 3) (v := .int (-1)) (ty := .int) (C := RX3) (T := TX3) (N := 10) hx hb hts hiX3 tyX3 tyX3_ok nmX3 hown hK hP hD hS 0 rfl rfl 9 (by decide) w__fieldLink_RX3_28_ShellHeap_Judge_ahead_I_ (fun _ h9 => h9) rfl (by decide +kernel) rfl rfl (Nat.le_of_ble_eq_true rfl) dX3_init_35 (fun H_14 locs hP hD hS => ?_)
  have hP : va_P (dC, dI) vwCl [(h0, .inr (3, [.null, .null, .null, .null, .null, .ref q_1, .ref q_5, .ref q_9, .int (-1), .int (-1)])), (q_1, .inl (cA_2, 20, .inr (.inl (fun _ => 0)))), (q_5, .inl (cA_6, 20, .inl (fun _ => 0))), (q_9, .inl (cA_10, 96, .inr (.inl (fun _ => 0))))] H_14 := hP
  have hD : va_D A [(h0, .inr (3, [.null, .null, .null, .null, .null, .ref q_1, .ref q_5, .ref q_9, .int (-1), .int (-1)])), (q_1, .inl (cA_2, 20, .inr (.inl (fun _ => 0)))), (q_5, .inl (cA_6, 20, .inl (fun _ => 0))), (q_9, .inl (cA_10, 96, .inr (.inl (fun _ => 0))))] := hD
  refine lv_aload_n hx hb dX3_init_38 rfl (lv_at hl 0 rfl) ?_
  refine lv_aload_n hx hb dX3_init_39 rfl (lv_at hl 1 rfl) ?_
  refine va_putF (D := (dC, dI)) (ci := 3) (v := .ref h1) (ty := .object "ShellHeap$Known") (C := RX3) (T := TX3) (N := 10) hx hb hts hiX3 tyX3 tyX3_ok nmX3 hown hK hP hD hS 0 rfl rfl 0 (by decide) w__fieldLink_RX3_31_ShellHeap_Judge_known_LShellHeap_Known_ (fun _ h9 => h9) rfl hin rfl (by decide +kernel) rfl rfl (Nat.le_of_ble_eq_true rfl) dX3_init_40 (fun H_15 locs hP hD hS => ?_)
  have hP : va_P (dC, dI) vwCl [(h0, .inr (3, [.ref h1, .null, .null, .null, .null, .ref q_1, .ref q_5, .ref q_9, .int (-1), .int (-1)])), (q_1, .inl (cA_2, 20, .inr (.inl (fun _ => 0)))), (q_5, .inl (cA_6, 20, .inl (fun _ => 0))), (q_9, .inl (cA_10, 96, .inr (.inl (fun _ => 0))))] H_15 := hP
  have hD : va_D A [(h0, .inr (3, [.ref h1, .null, .null, .null, .null, .ref q_1, .ref q_5, .ref q_9, .int (-1), .int (-1)])), (q_1, .inl (cA_2, 20, .inr (.inl (fun _ => 0)))), (q_5, .inl (cA_6, 20, .inl (fun _ => 0))), (q_9, .inl (cA_10, 96, .inr (.inl (fun _ => 0))))] := hD
  refine lv_aload_n hx hb dX3_init_43 rfl (lv_at hl 0 rfl) ?_
  refine lv_aload_n hx hb dX3_init_44 rfl (lv_at hl 2 rfl) ?_
  refine va_putF (D := (dC, dI)) (ci := 3) (v := .ref h2) (ty := .object "ShellHeap$Ground") (C := RX3) (T := TX3) (N := 10) hx hb hts hiX3 tyX3 tyX3_ok nmX3 hown hK hP hD hS 0 rfl rfl 1 (by decide) w__fieldLink_RX3_35_ShellHeap_Judge_ground_LShellHeap_Ground_ (fun _ h9 => h9) rfl hin rfl (by decide +kernel) rfl rfl (Nat.le_of_ble_eq_true rfl) dX3_init_45 (fun H_16 locs hP hD hS => ?_)
  have hP : va_P (dC, dI) vwCl [(h0, .inr (3, [.ref h1, .ref h2, .null, .null, .null, .ref q_1, .ref q_5, .ref q_9, .int (-1), .int (-1)])), (q_1, .inl (cA_2, 20, .inr (.inl (fun _ => 0)))), (q_5, .inl (cA_6, 20, .inl (fun _ => 0))), (q_9, .inl (cA_10, 96, .inr (.inl (fun _ => 0))))] H_16 := hP
  have hD : va_D A [(h0, .inr (3, [.ref h1, .ref h2, .null, .null, .null, .ref q_1, .ref q_5, .ref q_9, .int (-1), .int (-1)])), (q_1, .inl (cA_2, 20, .inr (.inl (fun _ => 0)))), (q_5, .inl (cA_6, 20, .inl (fun _ => 0))), (q_9, .inl (cA_10, 96, .inr (.inl (fun _ => 0))))] := hD
  refine lv_aload_n hx hb dX3_init_48 rfl (lv_at hl 0 rfl) ?_
  refine lv_aload_n hx hb dX3_init_49 rfl (lv_at hl 3 rfl) ?_
  refine va_putF (D := (dC, dI)) (ci := 3) (v := .ref h3) (ty := .object "ShellHeap$Pantry") (C := RX3) (T := TX3) (N := 10) hx hb hts hiX3 tyX3 tyX3_ok nmX3 hown hK hP hD hS 0 rfl rfl 2 (by decide) w__fieldLink_RX3_39_ShellHeap_Judge_pantry_LShellHeap_Pantry_ (fun _ h9 => h9) rfl hin rfl (by decide +kernel) rfl rfl (Nat.le_of_ble_eq_true rfl) dX3_init_50 (fun H_17 locs hP hD hS => ?_)
  have hP : va_P (dC, dI) vwCl [(h0, .inr (3, [.ref h1, .ref h2, .ref h3, .null, .null, .ref q_1, .ref q_5, .ref q_9, .int (-1), .int (-1)])), (q_1, .inl (cA_2, 20, .inr (.inl (fun _ => 0)))), (q_5, .inl (cA_6, 20, .inl (fun _ => 0))), (q_9, .inl (cA_10, 96, .inr (.inl (fun _ => 0))))] H_17 := hP
  have hD : va_D A [(h0, .inr (3, [.ref h1, .ref h2, .ref h3, .null, .null, .ref q_1, .ref q_5, .ref q_9, .int (-1), .int (-1)])), (q_1, .inl (cA_2, 20, .inr (.inl (fun _ => 0)))), (q_5, .inl (cA_6, 20, .inl (fun _ => 0))), (q_9, .inl (cA_10, 96, .inr (.inl (fun _ => 0))))] := hD
  refine lv_aload_n hx hb dX3_init_53 rfl (lv_at hl 0 rfl) ?_
  refine lv_aload hx hb dX3_init_54 (lv_at hl 4 rfl) ?_
  refine va_putF (D := (dC, dI)) (ci := 3) (v := .ref h4) (ty := .object "ShellHeap$Readers") (C := RX3) (T := TX3) (N := 10) hx hb hts hiX3 tyX3 tyX3_ok nmX3 hown hK hP hD hS 0 rfl rfl 3 (by decide) w__fieldLink_RX3_43_ShellHeap_Judge_readers_LShellHeap_Readers_ (fun _ h9 => h9) rfl hin rfl (by decide +kernel) rfl rfl (Nat.le_of_ble_eq_true rfl) dX3_init_56 (fun H_18 locs hP hD hS => ?_)
  have hP : va_P (dC, dI) vwCl [(h0, .inr (3, [.ref h1, .ref h2, .ref h3, .ref h4, .null, .ref q_1, .ref q_5, .ref q_9, .int (-1), .int (-1)])), (q_1, .inl (cA_2, 20, .inr (.inl (fun _ => 0)))), (q_5, .inl (cA_6, 20, .inl (fun _ => 0))), (q_9, .inl (cA_10, 96, .inr (.inl (fun _ => 0))))] H_18 := hP
  have hD : va_D A [(h0, .inr (3, [.ref h1, .ref h2, .ref h3, .ref h4, .null, .ref q_1, .ref q_5, .ref q_9, .int (-1), .int (-1)])), (q_1, .inl (cA_2, 20, .inr (.inl (fun _ => 0)))), (q_5, .inl (cA_6, 20, .inl (fun _ => 0))), (q_9, .inl (cA_10, 96, .inr (.inl (fun _ => 0))))] := hD
  refine lv_aload_n hx hb dX3_init_59 rfl (lv_at hl 0 rfl) ?_
  refine lv_aload hx hb dX3_init_60 (lv_at hl 5 rfl) ?_
  refine va_putF (D := (dC, dI)) (ci := 3) (v := .ref h5) (ty := .object "ShellHeap$Sizes") (C := RX3) (T := TX3) (N := 10) hx hb hts hiX3 tyX3 tyX3_ok nmX3 hown hK hP hD hS 0 rfl rfl 4 (by decide) w__fieldLink_RX3_47_ShellHeap_Judge_sizes_LShellHeap_Sizes_ (fun _ h9 => h9) rfl hin rfl (by decide +kernel) rfl rfl (Nat.le_of_ble_eq_true rfl) dX3_init_62 (fun H_19 locs hP hD hS => ?_)
  have hP : va_P (dC, dI) vwCl [(h0, .inr (3, [.ref h1, .ref h2, .ref h3, .ref h4, .ref h5, .ref q_1, .ref q_5, .ref q_9, .int (-1), .int (-1)])), (q_1, .inl (cA_2, 20, .inr (.inl (fun _ => 0)))), (q_5, .inl (cA_6, 20, .inl (fun _ => 0))), (q_9, .inl (cA_10, 96, .inr (.inl (fun _ => 0))))] H_19 := hP
  have hD : va_D A [(h0, .inr (3, [.ref h1, .ref h2, .ref h3, .ref h4, .ref h5, .ref q_1, .ref q_5, .ref q_9, .int (-1), .int (-1)])), (q_1, .inl (cA_2, 20, .inr (.inl (fun _ => 0)))), (q_5, .inl (cA_6, 20, .inl (fun _ => 0))), (q_9, .inl (cA_10, 96, .inr (.inl (fun _ => 0))))] := hD
  refine W.widen (k := 3) (n := 136) (Nat.le_of_ble_eq_true rfl) (Nat.le_of_ble_eq_true rfl) ?_
  exact W.vret hx hb hr (fun t ht hW => ⟨⟨(), rfl, trivial, trivial⟩, hS.F ht⟩) hS.2.2 dX3_init_65
def u_c_X8_init : List Cond := .code yX8_init cX8_init 2 none :: ([.methodLink RX8 3 objectInit, .instanceMethod objectInit, .code objectInit ⟨#[0xb1]⟩ 1 none, .arrayClass .int, .fieldLink RX8 11 "ShellHeap$RulesReader" "titleStarts" "[I", .fieldLink RX8 17 "ShellHeap$RulesReader" "titleLengths" "[I", .fieldLink RX8 20 "ShellHeap$RulesReader" "waiting" "[I", .fieldLink RX8 23 "ShellHeap$RulesReader" "waits" "I", .fieldLink RX8 27 "ShellHeap$RulesReader" "open" "I", .fieldLink RX8 30 "ShellHeap$RulesReader" "wantsPart" "Z", .classLink RX8 9 RX7, .instantiable RX7 6, .initialized RX7, .code yX7_init cX7_init 1 none, .methodLink RX7 1 objectInit, .fieldLink RX7 9 "ShellHeap$Rules" "steps" "[I", .fieldLink RX7 13 "ShellHeap$Rules" "worths" "[I", .fieldLink RX7 16 "ShellHeap$Rules" "begins" "[I", .fieldLink RX7 19 "ShellHeap$Rules" "length" "I", .fieldLink RX7 23 "ShellHeap$Rules" "causes" "I", .fieldLink RX7 26 "ShellHeap$Rules" "knots" "I", .instanceMethod yX7_init, .fieldLink RX8 35 "ShellHeap$RulesReader" "draft" "LShellHeap$Rules;", .fieldLink RX8 39 "ShellHeap$RulesReader" "standing" "LShellHeap$Rules;", .fieldLink RX8 42 "ShellHeap$RulesReader" "tape" "LShellHeap$Tape;"] ++ wsX80 ++ wsX70)
set_option maxRecDepth 20000 in
theorem gw_c_X8_init_c_X7_init_34 : GoodIn u_c_X8_init u_c_X7_init := goodIn_r _ [14, 15, 2, 3, 4, 16, 17, 18, 19, 20, 21, 35, 36, 37, 38, 39, 40] (by decide +kernel) (by decide +kernel)
set_option maxHeartbeats 4000000 in
set_option maxRecDepth 100000 in
theorem c_X8_init (l : Launch) (dC : Nat → ClassId) (dI : Nat → Nat → Nat) (sz : Nat) (h0 : Nat) (h1 : Nat) : Met l yX8_init u_c_X8_init ({ frames := 2, cells := 11, slots := 526, locals := 32 }) (va_Pc [.ref h0, .ref h1] (z_CN (dC, dI) vwCl [(h0, .inr (8, [.null, .null, .null, .null, .int 0, .int 0, .int 0, .null, .null]))] [] sz [(RX8, 34, yX7_init)])) (va_Qv (fun (_ : Unit) => True) (fun (_ : Unit) (t : State) => ∃ (q1 : Nat), ∃ (q2 : Nat), ∃ (q3 : Nat), ∃ (q7 : Nat), ∃ (q8 : Nat), ∃ (d0 : Nat), ∃ (d1 : Nat), ∃ (d2 : Nat), ∃ (e0 : Nat), ∃ (e1 : Nat), ∃ (e2 : Nat), va_P (dC, dI) vwCl [(h0, .inr (8, [.ref h1, .ref q1, .ref q2, .ref q3, .int 0, .int 0, .int 1, .ref q7, .ref q8])), (q7, .inr (7, [.ref d0, .ref d1, .ref d2, .int 0, .int 0, .int 0])), (q8, .inr (7, [.ref e0, .ref e1, .ref e2, .int 0, .int 0, .int 0]))] t.heap ∧ va_K (dC, dI) vwCl [] t ∧ va_D (va_A [(h0, .inr (8, [.null, .null, .null, .null, .int 0, .int 0, .int 0, .null, .null]))] sz) [(h0, .inr (8, [.ref h1, .ref q1, .ref q2, .ref q3, .int 0, .int 0, .int 1, .ref q7, .ref q8])), (q7, .inr (7, [.ref d0, .ref d1, .ref d2, .int 0, .int 0, .int 0])), (q8, .inr (7, [.ref e0, .ref e1, .ref e2, .int 0, .int 0, .int 0]))]) (va_A [(h0, .inr (8, [.null, .null, .null, .null, .int 0, .int 0, .int 0, .null, .null]))] sz)) 11 526 (va_A [(h0, .inr (8, [.null, .null, .null, .null, .int 0, .int 0, .int 0, .null, .null]))] sz) := by
  refine Met.ofW (cc := cX8_init) (maxL := 2) (ret := none) (by decide) rfl ?_
  intro p e s m args below meth c s₁ B hml hv
  obtain ⟨rfl, ⟨hsz, hP, hK, hD0⟩, hNW⟩ := hv
  have hx := B.exec
  have hb := B.bytes
  have hr := B.returns
  have hts := atoms_spec (ws := u_c_X8_init) B.pre
  have hown : s.vm.findClass RX8 = some m.cls := findClass_of_methodNamed B.named
  have hlocks := B.notSynchronized
  have hin : meth.name = "<init>" := (name_of_methodNamed B.named B.method).1
  subst hsz
  have hD := hD0.self (sz := s.heap.size)
  generalize hAe : va_A [(h0, .inr (8, [.null, .null, .null, .null, .int 0, .int 0, .int 0, .null, .null]))] s.heap.size = A at hD ⊢
  have hA : ∀ q : Nat, s.heap.size ≤ q → A q := fun q h => by rw [← hAe]; exact Or.inr h
  have hS : va_S A s.heap s.heap [] := va_S.rf
  have hP : va_P (dC, dI) vwCl [(h0, .inr (8, [.null, .null, .null, .null, .int 0, .int 0, .int 0, .null, .null]))] s.heap := hP
  have w__methodLink_RX8_3_objectInit := hts (.methodLink RX8 3 objectInit) (by decide +kernel)
  have w__instanceMethod_objectInit := hts (.instanceMethod objectInit) (by decide +kernel)
  have w__code_objectInit_0xb1_1_none := hts (.code objectInit ⟨#[0xb1]⟩ 1 none) (by decide +kernel)
  have w__arrayClass_int := hts (.arrayClass .int) (by decide +kernel)
  have w__fieldLink_RX8_11_ShellHeap_RulesReader_titleStarts_I_ := hts (.fieldLink RX8 11 "ShellHeap$RulesReader" "titleStarts" "[I") (by decide +kernel)
  have hiX8 := show ∀ w ∈ u_ws RX8 TX8 9, w ∈ u_c_X8_init by decide +kernel
  have w__fieldLink_RX8_17_ShellHeap_RulesReader_titleLengths_I_ := hts (.fieldLink RX8 17 "ShellHeap$RulesReader" "titleLengths" "[I") (by decide +kernel)
  have w__fieldLink_RX8_20_ShellHeap_RulesReader_waiting_I_ := hts (.fieldLink RX8 20 "ShellHeap$RulesReader" "waiting" "[I") (by decide +kernel)
  have w__fieldLink_RX8_23_ShellHeap_RulesReader_waits_I_ := hts (.fieldLink RX8 23 "ShellHeap$RulesReader" "waits" "I") (by decide +kernel)
  have w__fieldLink_RX8_27_ShellHeap_RulesReader_open_I_ := hts (.fieldLink RX8 27 "ShellHeap$RulesReader" "open" "I") (by decide +kernel)
  have w__fieldLink_RX8_30_ShellHeap_RulesReader_wantsPart_Z_ := hts (.fieldLink RX8 30 "ShellHeap$RulesReader" "wantsPart" "Z") (by decide +kernel)
  have w__classLink_RX8_9_RX7 := hts (.classLink RX8 9 RX7) (by decide +kernel)
  have w__instantiable_RX7_6 := hts (.instantiable RX7 6) (by decide +kernel)
  have w__initialized_RX7 := hts (.initialized RX7) (by decide +kernel)
  have hiX7 := show ∀ w ∈ u_ws RX7 TX7 6, w ∈ u_c_X8_init by decide +kernel
  have w__instanceMethod_yX7_init := hts (.instanceMethod yX7_init) (by decide +kernel)
  have w__fieldLink_RX8_35_ShellHeap_RulesReader_draft_LShellHeap_Rules_ := hts (.fieldLink RX8 35 "ShellHeap$RulesReader" "draft" "LShellHeap$Rules;") (by decide +kernel)
  have w__fieldLink_RX8_39_ShellHeap_RulesReader_standing_LShellHeap_Rules_ := hts (.fieldLink RX8 39 "ShellHeap$RulesReader" "standing" "LShellHeap$Rules;") (by decide +kernel)
  have w__fieldLink_RX8_42_ShellHeap_RulesReader_tape_LShellHeap_Tape_ := hts (.fieldLink RX8 42 "ShellHeap$RulesReader" "tape" "LShellHeap$Tape;") (by decide +kernel)
  have hl := lv_entry ([.ref h0, .ref h1]) (n := 2) (Nat.le_of_ble_eq_true rfl)
  rw [lg_entry_eq]
  generalize (lg_sl ([.ref h0, .ref h1]) ++ List.replicate (2 - (lg_sl ([.ref h0, .ref h1])).length) Slot.unset).toArray = ls at hl ⊢
  have hl : lv_has ls 2 [(0, .ref h0), (1, .ref h1)] := hl
  refine lv_aload_n hx hb dX8_init_0 rfl (lv_at hl 0 rfl) ?_
  refine W.objInit hx hb hown w__methodLink_RX8_3_objectInit w__instanceMethod_objectInit w__code_objectInit_0xb1_1_none rfl (by rw [hml]; exact hl.1) rfl dX8_init_1 (Nat.le_of_ble_eq_true rfl) (Nat.le_of_ble_eq_true rfl) ?_
  refine W.eq (g2 := F0 m 4 ls []) rfl ?_
  refine lv_aload_n hx hb dX8_init_4 rfl (lv_at hl 0 rfl) ?_
  refine lv_bipush (v := 6) hx hb dX8_init_5 (by decide) ?_
  refine va_newa (ty := .int) (N' := 6) (a0 := (6, .inl (fun _ => 0))) hx hb w__arrayClass_int rfl hK hP hD hS hA (fun _ => rfl) (by decide) (by decide) (by decide) (Nat.le_of_ble_eq_true rfl) (Nat.le_of_ble_eq_true rfl) dX8_init_7 (fun q_1 cA_2 H_3 hK hP hD hS => ?_)
  have hK : va_K (dC, dI) vwCl [(cA_2, .int)] s := hK
  have hP : va_P (dC, dI) vwCl [(h0, .inr (8, [.null, .null, .null, .null, .int 0, .int 0, .int 0, .null, .null])), (q_1, .inl (cA_2, 6, .inl (fun _ => 0)))] H_3 := hP
  have hD : va_D A [(h0, .inr (8, [.null, .null, .null, .null, .int 0, .int 0, .int 0, .null, .null])), (q_1, .inl (cA_2, 6, .inl (fun _ => 0)))] := hD
  refine va_putF (D := (dC, dI)) (ci := 8) (v := .ref q_1) (ty := .array .int) (C := RX8) (T := TX8) (N := 9) hx hb hts hiX8 tyX8 tyX8_ok nmX8 hown hK hP hD hS 0 rfl rfl 1 (by decide) w__fieldLink_RX8_11_ShellHeap_RulesReader_titleStarts_I_ (fun _ h9 => h9) rfl hin rfl (by decide +kernel) rfl rfl (Nat.le_of_ble_eq_true rfl) dX8_init_9 (fun H_4 locs hP hD hS => ?_)
  have hP : va_P (dC, dI) vwCl [(h0, .inr (8, [.null, .ref q_1, .null, .null, .int 0, .int 0, .int 0, .null, .null])), (q_1, .inl (cA_2, 6, .inl (fun _ => 0)))] H_4 := hP
  have hD : va_D A [(h0, .inr (8, [.null, .ref q_1, .null, .null, .int 0, .int 0, .int 0, .null, .null])), (q_1, .inl (cA_2, 6, .inl (fun _ => 0)))] := hD
  refine lv_aload_n hx hb dX8_init_12 rfl (lv_at hl 0 rfl) ?_
  refine lv_bipush (v := 6) hx hb dX8_init_13 (by decide) ?_
  refine va_newa (ty := .int) (N' := 6) (a0 := (6, .inl (fun _ => 0))) hx hb w__arrayClass_int rfl hK hP hD hS hA (fun _ => rfl) (by decide) (by decide) (by decide) (Nat.le_of_ble_eq_true rfl) (Nat.le_of_ble_eq_true rfl) dX8_init_15 (fun q_5 cA_6 H_7 hK hP hD hS => ?_)
  have hK : va_K (dC, dI) vwCl [(cA_2, .int), (cA_6, .int)] s := hK
  have hP : va_P (dC, dI) vwCl [(h0, .inr (8, [.null, .ref q_1, .null, .null, .int 0, .int 0, .int 0, .null, .null])), (q_1, .inl (cA_2, 6, .inl (fun _ => 0))), (q_5, .inl (cA_6, 6, .inl (fun _ => 0)))] H_7 := hP
  have hD : va_D A [(h0, .inr (8, [.null, .ref q_1, .null, .null, .int 0, .int 0, .int 0, .null, .null])), (q_1, .inl (cA_2, 6, .inl (fun _ => 0))), (q_5, .inl (cA_6, 6, .inl (fun _ => 0)))] := hD
  refine va_putF (D := (dC, dI)) (ci := 8) (v := .ref q_5) (ty := .array .int) (C := RX8) (T := TX8) (N := 9) hx hb hts hiX8 tyX8 tyX8_ok nmX8 hown hK hP hD hS 0 rfl rfl 2 (by decide) w__fieldLink_RX8_17_ShellHeap_RulesReader_titleLengths_I_ (fun _ h9 => h9) rfl hin rfl (by decide +kernel) rfl rfl (Nat.le_of_ble_eq_true rfl) dX8_init_17 (fun H_8 locs hP hD hS => ?_)
  have hP : va_P (dC, dI) vwCl [(h0, .inr (8, [.null, .ref q_1, .ref q_5, .null, .int 0, .int 0, .int 0, .null, .null])), (q_1, .inl (cA_2, 6, .inl (fun _ => 0))), (q_5, .inl (cA_6, 6, .inl (fun _ => 0)))] H_8 := hP
  have hD : va_D A [(h0, .inr (8, [.null, .ref q_1, .ref q_5, .null, .int 0, .int 0, .int 0, .null, .null])), (q_1, .inl (cA_2, 6, .inl (fun _ => 0))), (q_5, .inl (cA_6, 6, .inl (fun _ => 0)))] := hD
  refine lv_aload_n hx hb dX8_init_20 rfl (lv_at hl 0 rfl) ?_
  refine lv_bipush (v := 104) hx hb dX8_init_21 (by decide) ?_
  refine va_newa (ty := .int) (N' := 104) (a0 := (104, .inl (fun _ => 0))) hx hb w__arrayClass_int rfl hK hP hD hS hA (fun _ => rfl) (by decide) (by decide) (by decide) (Nat.le_of_ble_eq_true rfl) (Nat.le_of_ble_eq_true rfl) dX8_init_23 (fun q_9 cA_10 H_11 hK hP hD hS => ?_)
  have hK : va_K (dC, dI) vwCl [(cA_2, .int), (cA_6, .int), (cA_10, .int)] s := hK
  have hP : va_P (dC, dI) vwCl [(h0, .inr (8, [.null, .ref q_1, .ref q_5, .null, .int 0, .int 0, .int 0, .null, .null])), (q_1, .inl (cA_2, 6, .inl (fun _ => 0))), (q_5, .inl (cA_6, 6, .inl (fun _ => 0))), (q_9, .inl (cA_10, 104, .inl (fun _ => 0)))] H_11 := hP
  have hD : va_D A [(h0, .inr (8, [.null, .ref q_1, .ref q_5, .null, .int 0, .int 0, .int 0, .null, .null])), (q_1, .inl (cA_2, 6, .inl (fun _ => 0))), (q_5, .inl (cA_6, 6, .inl (fun _ => 0))), (q_9, .inl (cA_10, 104, .inl (fun _ => 0)))] := hD
  refine va_putF (D := (dC, dI)) (ci := 8) (v := .ref q_9) (ty := .array .int) (C := RX8) (T := TX8) (N := 9) hx hb hts hiX8 tyX8 tyX8_ok nmX8 hown hK hP hD hS 0 rfl rfl 3 (by decide) w__fieldLink_RX8_20_ShellHeap_RulesReader_waiting_I_ (fun _ h9 => h9) rfl hin rfl (by decide +kernel) rfl rfl (Nat.le_of_ble_eq_true rfl) dX8_init_25 (fun H_12 locs hP hD hS => ?_)
  have hP : va_P (dC, dI) vwCl [(h0, .inr (8, [.null, .ref q_1, .ref q_5, .ref q_9, .int 0, .int 0, .int 0, .null, .null])), (q_1, .inl (cA_2, 6, .inl (fun _ => 0))), (q_5, .inl (cA_6, 6, .inl (fun _ => 0))), (q_9, .inl (cA_10, 104, .inl (fun _ => 0)))] H_12 := hP
  have hD : va_D A [(h0, .inr (8, [.null, .ref q_1, .ref q_5, .ref q_9, .int 0, .int 0, .int 0, .null, .null])), (q_1, .inl (cA_2, 6, .inl (fun _ => 0))), (q_5, .inl (cA_6, 6, .inl (fun _ => 0))), (q_9, .inl (cA_10, 104, .inl (fun _ => 0)))] := hD
  refine lv_aload_n hx hb dX8_init_28 rfl (lv_at hl 0 rfl) ?_
  refine lv_iconst (v := 0) hx hb dX8_init_29 (by decide) ?_
  refine va_put (D := (dC, dI)) (ci := 8) (v := .int 0) (ty := .int) (C := RX8) (T := TX8) (N := 9) hx hb hts hiX8 tyX8 tyX8_ok nmX8 hown hK hP hD hS 0 rfl rfl 4 (by decide) w__fieldLink_RX8_23_ShellHeap_RulesReader_waits_I_ (fun _ h9 => h9) rfl (by decide +kernel) rfl rfl (Nat.le_of_ble_eq_true rfl) dX8_init_30 (fun H_13 locs hP hD hS => ?_)
  have hP : va_P (dC, dI) vwCl [(h0, .inr (8, [.null, .ref q_1, .ref q_5, .ref q_9, .int 0, .int 0, .int 0, .null, .null])), (q_1, .inl (cA_2, 6, .inl (fun _ => 0))), (q_5, .inl (cA_6, 6, .inl (fun _ => 0))), (q_9, .inl (cA_10, 104, .inl (fun _ => 0)))] H_13 := hP
  have hD : va_D A [(h0, .inr (8, [.null, .ref q_1, .ref q_5, .ref q_9, .int 0, .int 0, .int 0, .null, .null])), (q_1, .inl (cA_2, 6, .inl (fun _ => 0))), (q_5, .inl (cA_6, 6, .inl (fun _ => 0))), (q_9, .inl (cA_10, 104, .inl (fun _ => 0)))] := hD
  refine lv_aload_n hx hb dX8_init_33 rfl (lv_at hl 0 rfl) ?_
  refine lv_iconst (v := 0) hx hb dX8_init_34 (by decide) ?_
  refine va_put (D := (dC, dI)) (ci := 8) (v := .int 0) (ty := .int) (C := RX8) (T := TX8) (N := 9) hx hb hts hiX8 tyX8 tyX8_ok nmX8 hown hK hP hD hS 0 rfl rfl 5 (by decide) w__fieldLink_RX8_27_ShellHeap_RulesReader_open_I_ (fun _ h9 => h9) rfl (by decide +kernel) rfl rfl (Nat.le_of_ble_eq_true rfl) dX8_init_35 (fun H_14 locs hP hD hS => ?_)
  have hP : va_P (dC, dI) vwCl [(h0, .inr (8, [.null, .ref q_1, .ref q_5, .ref q_9, .int 0, .int 0, .int 0, .null, .null])), (q_1, .inl (cA_2, 6, .inl (fun _ => 0))), (q_5, .inl (cA_6, 6, .inl (fun _ => 0))), (q_9, .inl (cA_10, 104, .inl (fun _ => 0)))] H_14 := hP
  have hD : va_D A [(h0, .inr (8, [.null, .ref q_1, .ref q_5, .ref q_9, .int 0, .int 0, .int 0, .null, .null])), (q_1, .inl (cA_2, 6, .inl (fun _ => 0))), (q_5, .inl (cA_6, 6, .inl (fun _ => 0))), (q_9, .inl (cA_10, 104, .inl (fun _ => 0)))] := hD
  refine lv_aload_n hx hb dX8_init_38 rfl (lv_at hl 0 rfl) ?_
  refine lv_iconst (v := 1) hx hb dX8_init_39 (by decide) ?_
  refine va_put (D := (dC, dI)) (ci := 8) (v := .int 1) (ty := .boolean) (C := RX8) (T := TX8) (N := 9) hx hb hts hiX8 tyX8 tyX8_ok nmX8 hown hK hP hD hS 0 rfl rfl 6 (by decide) w__fieldLink_RX8_30_ShellHeap_RulesReader_wantsPart_Z_ (fun _ h9 => h9) rfl (by decide +kernel) rfl rfl (Nat.le_of_ble_eq_true rfl) dX8_init_40 (fun H_15 locs hP hD hS => ?_)
  have hP : va_P (dC, dI) vwCl [(h0, .inr (8, [.null, .ref q_1, .ref q_5, .ref q_9, .int 0, .int 0, .int 1, .null, .null])), (q_1, .inl (cA_2, 6, .inl (fun _ => 0))), (q_5, .inl (cA_6, 6, .inl (fun _ => 0))), (q_9, .inl (cA_10, 104, .inl (fun _ => 0)))] H_15 := hP
  have hD : va_D A [(h0, .inr (8, [.null, .ref q_1, .ref q_5, .ref q_9, .int 0, .int 0, .int 1, .null, .null])), (q_1, .inl (cA_2, 6, .inl (fun _ => 0))), (q_5, .inl (cA_6, 6, .inl (fun _ => 0))), (q_9, .inl (cA_10, 104, .inl (fun _ => 0)))] := hD
  refine lv_aload_n hx hb dX8_init_43 rfl (lv_at hl 0 rfl) ?_
  refine va_new (ci := 7) (fs := [.null, .null, .null, .int 0, .int 0, .int 0]) (C := RX7) (T := TX7) (N := 6) hx hb hts hiX7 tyX7 tyX7_ok hown w__classLink_RX8_9_RX7 w__instantiable_RX7_6 w__initialized_RX7 hK hP hD hS hA rfl (fun j hj => match j, hj with | 0, _ => rfl | 1, _ => rfl | 2, _ => rfl | 3, _ => rfl | 4, _ => rfl | 5, _ => rfl | k + 6, h => absurd h (by omega)) (Nat.le_of_ble_eq_true rfl) (Nat.le_of_ble_eq_true rfl) dX8_init_44 (fun q_16 H_17 hP hD hS => ?_)
  have hP : va_P (dC, dI) vwCl [(h0, .inr (8, [.null, .ref q_1, .ref q_5, .ref q_9, .int 0, .int 0, .int 1, .null, .null])), (q_1, .inl (cA_2, 6, .inl (fun _ => 0))), (q_5, .inl (cA_6, 6, .inl (fun _ => 0))), (q_9, .inl (cA_10, 104, .inl (fun _ => 0))), (q_16, .inr (7, [.null, .null, .null, .int 0, .int 0, .int 0]))] H_17 := hP
  have hD : va_D A [(h0, .inr (8, [.null, .ref q_1, .ref q_5, .ref q_9, .int 0, .int 0, .int 1, .null, .null])), (q_1, .inl (cA_2, 6, .inl (fun _ => 0))), (q_5, .inl (cA_6, 6, .inl (fun _ => 0))), (q_9, .inl (cA_10, 104, .inl (fun _ => 0))), (q_16, .inr (7, [.null, .null, .null, .int 0, .int 0, .int 0]))] := hD
  refine lv_dup hx hb dX8_init_47 rfl ?_
  have hPc := hP.sub (ws' := [(q_16, .inr (7, [.null, .null, .null, .int 0, .int 0, .int 0]))]) [4] rfl
  have hDc := hD.sub (ws' := [(q_16, .inr (7, [.null, .null, .null, .int 0, .int 0, .int 0]))]) [4] (by decide) rfl
  have hKc := hK.sub (tys' := []) [] rfl
  have hFc := va_free (wc := [(q_16, .inr (7, [.null, .null, .null, .int 0, .int 0, .int 0]))]) hD hS hA [4] rfl
  refine va_callv (va_runIN (As := []) (rest := [.ref q_16, .ref h0]) ⟨hx, hb, hml, hown, hts⟩ (c_X7_init l dC dI H_17.size q_16) ⟨va_cnB 0 hts gw_c_X8_init_c_X7_init_34 rfl rfl rfl (hNW (RX8, 34, yX7_init) (by decide +kernel)) w__initialized_RX7 (by decide +kernel) ⟨Nat.le_of_ble_eq_true rfl, Nat.le_of_ble_eq_true rfl⟩, rfl, w__instanceMethod_yX7_init⟩ ⟨z_blind, z_pre hPc hKc hDc⟩ rfl rfl hl.1 rfl (lv_room (Nat.le_of_ble_eq_true rfl)) dX8_init_48 ⟨Nat.le_of_ble_eq_true rfl, Nat.le_of_ble_eq_true rfl⟩) hS (fun q _ h => hFc q h) hFc (fun u t H_18 locs ht hvm hw_20 hB hz1 hk1 hS => ?_)
  obtain ⟨q0_21, q1_22, q2_23, hP1, hK1, hD1⟩ := hB
  rw [ht] at hP1
  have hK1 := va_K.moved hvm.symm hK1
  obtain ⟨hP, hD⟩ := va_join (wr := [(h0, .inr (8, [.null, .ref q_1, .ref q_5, .ref q_9, .int 0, .int 0, .int 1, .null, .null])), (q_1, .inl (cA_2, 6, .inl (fun _ => 0))), (q_5, .inl (cA_6, 6, .inl (fun _ => 0))), (q_9, .inl (cA_10, 104, .inl (fun _ => 0)))]) (w1 := [(q_16, .inr (7, [.ref q0_21, .ref q1_22, .ref q2_23, .int 0, .int 0, .int 0]))]) hP hD [4] [0, 1, 2, 3] rfl rfl (by decide) (by decide) hk1 hFc hP1 hD1
  have hP : va_P (dC, dI) vwCl [(h0, .inr (8, [.null, .ref q_1, .ref q_5, .ref q_9, .int 0, .int 0, .int 1, .null, .null])), (q_1, .inl (cA_2, 6, .inl (fun _ => 0))), (q_5, .inl (cA_6, 6, .inl (fun _ => 0))), (q_9, .inl (cA_10, 104, .inl (fun _ => 0))), (q_16, .inr (7, [.ref q0_21, .ref q1_22, .ref q2_23, .int 0, .int 0, .int 0]))] H_18 := hP
  have hD : va_D A [(h0, .inr (8, [.null, .ref q_1, .ref q_5, .ref q_9, .int 0, .int 0, .int 1, .null, .null])), (q_1, .inl (cA_2, 6, .inl (fun _ => 0))), (q_5, .inl (cA_6, 6, .inl (fun _ => 0))), (q_9, .inl (cA_10, 104, .inl (fun _ => 0))), (q_16, .inr (7, [.ref q0_21, .ref q1_22, .ref q2_23, .int 0, .int 0, .int 0]))] := hD
  clear hPc hDc hKc
  refine va_put (D := (dC, dI)) (ci := 8) (v := .ref q_16) (ty := .object "ShellHeap$Rules") (C := RX8) (T := TX8) (N := 9) hx hb hts hiX8 tyX8 tyX8_ok nmX8 hown hK hP hD hS 0 rfl rfl 7 (by decide) w__fieldLink_RX8_35_ShellHeap_RulesReader_draft_LShellHeap_Rules_ (fun _ h9 => h9) rfl (by decide +kernel) rfl rfl (Nat.le_of_ble_eq_true rfl) dX8_init_51 (fun H_24 locs hP hD hS => ?_)
  have hP : va_P (dC, dI) vwCl [(h0, .inr (8, [.null, .ref q_1, .ref q_5, .ref q_9, .int 0, .int 0, .int 1, .ref q_16, .null])), (q_1, .inl (cA_2, 6, .inl (fun _ => 0))), (q_5, .inl (cA_6, 6, .inl (fun _ => 0))), (q_9, .inl (cA_10, 104, .inl (fun _ => 0))), (q_16, .inr (7, [.ref q0_21, .ref q1_22, .ref q2_23, .int 0, .int 0, .int 0]))] H_24 := hP
  have hD : va_D A [(h0, .inr (8, [.null, .ref q_1, .ref q_5, .ref q_9, .int 0, .int 0, .int 1, .ref q_16, .null])), (q_1, .inl (cA_2, 6, .inl (fun _ => 0))), (q_5, .inl (cA_6, 6, .inl (fun _ => 0))), (q_9, .inl (cA_10, 104, .inl (fun _ => 0))), (q_16, .inr (7, [.ref q0_21, .ref q1_22, .ref q2_23, .int 0, .int 0, .int 0]))] := hD
  refine lv_aload_n hx hb dX8_init_54 rfl (lv_at hl 0 rfl) ?_
  refine va_new (ci := 7) (fs := [.null, .null, .null, .int 0, .int 0, .int 0]) (C := RX7) (T := TX7) (N := 6) hx hb hts hiX7 tyX7 tyX7_ok hown w__classLink_RX8_9_RX7 w__instantiable_RX7_6 w__initialized_RX7 hK hP hD hS hA rfl (fun j hj => match j, hj with | 0, _ => rfl | 1, _ => rfl | 2, _ => rfl | 3, _ => rfl | 4, _ => rfl | 5, _ => rfl | k + 6, h => absurd h (by omega)) (Nat.le_of_ble_eq_true rfl) (Nat.le_of_ble_eq_true rfl) dX8_init_55 (fun q_25 H_26 hP hD hS => ?_)
  have hP : va_P (dC, dI) vwCl [(h0, .inr (8, [.null, .ref q_1, .ref q_5, .ref q_9, .int 0, .int 0, .int 1, .ref q_16, .null])), (q_1, .inl (cA_2, 6, .inl (fun _ => 0))), (q_5, .inl (cA_6, 6, .inl (fun _ => 0))), (q_9, .inl (cA_10, 104, .inl (fun _ => 0))), (q_16, .inr (7, [.ref q0_21, .ref q1_22, .ref q2_23, .int 0, .int 0, .int 0])), (q_25, .inr (7, [.null, .null, .null, .int 0, .int 0, .int 0]))] H_26 := hP
  have hD : va_D A [(h0, .inr (8, [.null, .ref q_1, .ref q_5, .ref q_9, .int 0, .int 0, .int 1, .ref q_16, .null])), (q_1, .inl (cA_2, 6, .inl (fun _ => 0))), (q_5, .inl (cA_6, 6, .inl (fun _ => 0))), (q_9, .inl (cA_10, 104, .inl (fun _ => 0))), (q_16, .inr (7, [.ref q0_21, .ref q1_22, .ref q2_23, .int 0, .int 0, .int 0])), (q_25, .inr (7, [.null, .null, .null, .int 0, .int 0, .int 0]))] := hD
  refine lv_dup hx hb dX8_init_58 rfl ?_
  have hPc := hP.sub (ws' := [(q_25, .inr (7, [.null, .null, .null, .int 0, .int 0, .int 0]))]) [5] rfl
  have hDc := hD.sub (ws' := [(q_25, .inr (7, [.null, .null, .null, .int 0, .int 0, .int 0]))]) [5] (by decide) rfl
  have hKc := hK.sub (tys' := []) [] rfl
  have hFc := va_free (wc := [(q_25, .inr (7, [.null, .null, .null, .int 0, .int 0, .int 0]))]) hD hS hA [5] rfl
  refine va_callv (va_runIN (As := []) (rest := [.ref q_25, .ref h0]) ⟨hx, hb, hml, hown, hts⟩ (c_X7_init l dC dI H_26.size q_25) ⟨va_cnB 0 hts gw_c_X8_init_c_X7_init_34 rfl rfl rfl (hNW (RX8, 34, yX7_init) (by decide +kernel)) w__initialized_RX7 (by decide +kernel) ⟨Nat.le_of_ble_eq_true rfl, Nat.le_of_ble_eq_true rfl⟩, rfl, w__instanceMethod_yX7_init⟩ ⟨z_blind, z_pre hPc hKc hDc⟩ rfl rfl hl.1 rfl (lv_room (Nat.le_of_ble_eq_true rfl)) dX8_init_59 ⟨Nat.le_of_ble_eq_true rfl, Nat.le_of_ble_eq_true rfl⟩) hS (fun q _ h => hFc q h) hFc (fun u t H_27 locs ht hvm hw_29 hB hz1 hk1 hS => ?_)
  obtain ⟨q0_30, q1_31, q2_32, hP1, hK1, hD1⟩ := hB
  rw [ht] at hP1
  have hK1 := va_K.moved hvm.symm hK1
  obtain ⟨hP, hD⟩ := va_join (wr := [(h0, .inr (8, [.null, .ref q_1, .ref q_5, .ref q_9, .int 0, .int 0, .int 1, .ref q_16, .null])), (q_1, .inl (cA_2, 6, .inl (fun _ => 0))), (q_5, .inl (cA_6, 6, .inl (fun _ => 0))), (q_9, .inl (cA_10, 104, .inl (fun _ => 0))), (q_16, .inr (7, [.ref q0_21, .ref q1_22, .ref q2_23, .int 0, .int 0, .int 0]))]) (w1 := [(q_25, .inr (7, [.ref q0_30, .ref q1_31, .ref q2_32, .int 0, .int 0, .int 0]))]) hP hD [5] [0, 1, 2, 3, 4] rfl rfl (by decide) (by decide) hk1 hFc hP1 hD1
  have hP : va_P (dC, dI) vwCl [(h0, .inr (8, [.null, .ref q_1, .ref q_5, .ref q_9, .int 0, .int 0, .int 1, .ref q_16, .null])), (q_1, .inl (cA_2, 6, .inl (fun _ => 0))), (q_5, .inl (cA_6, 6, .inl (fun _ => 0))), (q_9, .inl (cA_10, 104, .inl (fun _ => 0))), (q_16, .inr (7, [.ref q0_21, .ref q1_22, .ref q2_23, .int 0, .int 0, .int 0])), (q_25, .inr (7, [.ref q0_30, .ref q1_31, .ref q2_32, .int 0, .int 0, .int 0]))] H_27 := hP
  have hD : va_D A [(h0, .inr (8, [.null, .ref q_1, .ref q_5, .ref q_9, .int 0, .int 0, .int 1, .ref q_16, .null])), (q_1, .inl (cA_2, 6, .inl (fun _ => 0))), (q_5, .inl (cA_6, 6, .inl (fun _ => 0))), (q_9, .inl (cA_10, 104, .inl (fun _ => 0))), (q_16, .inr (7, [.ref q0_21, .ref q1_22, .ref q2_23, .int 0, .int 0, .int 0])), (q_25, .inr (7, [.ref q0_30, .ref q1_31, .ref q2_32, .int 0, .int 0, .int 0]))] := hD
  clear hPc hDc hKc
  refine va_put (D := (dC, dI)) (ci := 8) (v := .ref q_25) (ty := .object "ShellHeap$Rules") (C := RX8) (T := TX8) (N := 9) hx hb hts hiX8 tyX8 tyX8_ok nmX8 hown hK hP hD hS 0 rfl rfl 8 (by decide) w__fieldLink_RX8_39_ShellHeap_RulesReader_standing_LShellHeap_Rules_ (fun _ h9 => h9) rfl (by decide +kernel) rfl rfl (Nat.le_of_ble_eq_true rfl) dX8_init_62 (fun H_33 locs hP hD hS => ?_)
  have hP : va_P (dC, dI) vwCl [(h0, .inr (8, [.null, .ref q_1, .ref q_5, .ref q_9, .int 0, .int 0, .int 1, .ref q_16, .ref q_25])), (q_1, .inl (cA_2, 6, .inl (fun _ => 0))), (q_5, .inl (cA_6, 6, .inl (fun _ => 0))), (q_9, .inl (cA_10, 104, .inl (fun _ => 0))), (q_16, .inr (7, [.ref q0_21, .ref q1_22, .ref q2_23, .int 0, .int 0, .int 0])), (q_25, .inr (7, [.ref q0_30, .ref q1_31, .ref q2_32, .int 0, .int 0, .int 0]))] H_33 := hP
  have hD : va_D A [(h0, .inr (8, [.null, .ref q_1, .ref q_5, .ref q_9, .int 0, .int 0, .int 1, .ref q_16, .ref q_25])), (q_1, .inl (cA_2, 6, .inl (fun _ => 0))), (q_5, .inl (cA_6, 6, .inl (fun _ => 0))), (q_9, .inl (cA_10, 104, .inl (fun _ => 0))), (q_16, .inr (7, [.ref q0_21, .ref q1_22, .ref q2_23, .int 0, .int 0, .int 0])), (q_25, .inr (7, [.ref q0_30, .ref q1_31, .ref q2_32, .int 0, .int 0, .int 0]))] := hD
  refine lv_aload_n hx hb dX8_init_65 rfl (lv_at hl 0 rfl) ?_
  refine lv_aload_n hx hb dX8_init_66 rfl (lv_at hl 1 rfl) ?_
  refine va_putF (D := (dC, dI)) (ci := 8) (v := .ref h1) (ty := .object "ShellHeap$Tape") (C := RX8) (T := TX8) (N := 9) hx hb hts hiX8 tyX8 tyX8_ok nmX8 hown hK hP hD hS 0 rfl rfl 0 (by decide) w__fieldLink_RX8_42_ShellHeap_RulesReader_tape_LShellHeap_Tape_ (fun _ h9 => h9) rfl hin rfl (by decide +kernel) rfl rfl (Nat.le_of_ble_eq_true rfl) dX8_init_67 (fun H_34 locs hP hD hS => ?_)
  have hP : va_P (dC, dI) vwCl [(h0, .inr (8, [.ref h1, .ref q_1, .ref q_5, .ref q_9, .int 0, .int 0, .int 1, .ref q_16, .ref q_25])), (q_1, .inl (cA_2, 6, .inl (fun _ => 0))), (q_5, .inl (cA_6, 6, .inl (fun _ => 0))), (q_9, .inl (cA_10, 104, .inl (fun _ => 0))), (q_16, .inr (7, [.ref q0_21, .ref q1_22, .ref q2_23, .int 0, .int 0, .int 0])), (q_25, .inr (7, [.ref q0_30, .ref q1_31, .ref q2_32, .int 0, .int 0, .int 0]))] H_34 := hP
  have hD : va_D A [(h0, .inr (8, [.ref h1, .ref q_1, .ref q_5, .ref q_9, .int 0, .int 0, .int 1, .ref q_16, .ref q_25])), (q_1, .inl (cA_2, 6, .inl (fun _ => 0))), (q_5, .inl (cA_6, 6, .inl (fun _ => 0))), (q_9, .inl (cA_10, 104, .inl (fun _ => 0))), (q_16, .inr (7, [.ref q0_21, .ref q1_22, .ref q2_23, .int 0, .int 0, .int 0])), (q_25, .inr (7, [.ref q0_30, .ref q1_31, .ref q2_32, .int 0, .int 0, .int 0]))] := hD
  have hP9 := hP.sub (ws' := [(h0, .inr (8, [.ref h1, .ref q_1, .ref q_5, .ref q_9, .int 0, .int 0, .int 1, .ref q_16, .ref q_25])), (q_16, .inr (7, [.ref q0_21, .ref q1_22, .ref q2_23, .int 0, .int 0, .int 0])), (q_25, .inr (7, [.ref q0_30, .ref q1_31, .ref q2_32, .int 0, .int 0, .int 0]))]) [0, 4, 5] rfl
  have hD9 := hD.sub (ws' := [(h0, .inr (8, [.ref h1, .ref q_1, .ref q_5, .ref q_9, .int 0, .int 0, .int 1, .ref q_16, .ref q_25])), (q_16, .inr (7, [.ref q0_21, .ref q1_22, .ref q2_23, .int 0, .int 0, .int 0])), (q_25, .inr (7, [.ref q0_30, .ref q1_31, .ref q2_32, .int 0, .int 0, .int 0]))]) [0, 4, 5] (by decide) rfl
  have hK9 := hK.sub (tys' := []) [] rfl
  refine W.widen (k := 11) (n := 526) (Nat.le_of_ble_eq_true rfl) (Nat.le_of_ble_eq_true rfl) ?_
  exact W.vret hx hb hr (fun t ht hW => ⟨⟨(), rfl, trivial, ⟨q_1, q_5, q_9, q_16, q_25, q0_21, q1_22, q2_23, q0_30, q1_31, q2_32, by rw [ht]; exact hP9, va_K.moved hW.alike hK9, hD9⟩⟩, hS.F ht⟩) hS.2.2 dX8_init_70
def u_c_X11_init : List Cond := .code yX11_init cX11_init 1 none :: ([.methodLink RX11 1 objectInit, .instanceMethod objectInit, .code objectInit ⟨#[0xb1]⟩ 1 none, .classLink RX11 7 RX10, .instantiable RX10 11, .initialized RX10, .code yX10_init cX10_init 1 none, .methodLink RX10 3 objectInit, .arrayClass .int, .fieldLink RX10 11 "ShellHeap$Tape" "bytes" "[I", .fieldLink RX10 15 "ShellHeap$Tape" "text" "I", .fieldLink RX10 19 "ShellHeap$Tape" "at" "I", .fieldLink RX10 22 "ShellHeap$Tape" "digitsJoin" "Z", .fieldLink RX10 26 "ShellHeap$Tape" "fed" "I", .fieldLink RX10 29 "ShellHeap$Tape" "start" "I", .fieldLink RX10 32 "ShellHeap$Tape" "end" "I", .fieldLink RX10 35 "ShellHeap$Tape" "sort" "I", .fieldLink RX10 38 "ShellHeap$Tape" "sign" "I", .fieldLink RX10 41 "ShellHeap$Tape" "faultSort" "I", .fieldLink RX10 44 "ShellHeap$Tape" "faultPlace" "I", .instanceMethod yX10_init, .fieldLink RX11 10 "ShellHeap" "tape" "LShellHeap$Tape;", .classLink RX11 16 RX0, .instantiable RX0 6, .initialized RX0, .code yX0_init cX0_init 1 none, .methodLink RX0 3 objectInit, .fieldLink RX0 9 "ShellHeap$Book" "sort" "[I", .fieldLink RX0 15 "ShellHeap$Book" "a" "[I", .fieldLink RX0 18 "ShellHeap$Book" "b" "[I", .fieldLink RX0 21 "ShellHeap$Book" "c" "[I", .fieldLink RX0 24 "ShellHeap$Book" "notes" "I", .fieldLink RX0 28 "ShellHeap$Book" "layers" "I", .instanceMethod yX0_init, .fieldLink RX11 19 "ShellHeap" "book" "LShellHeap$Book;", .classLink RX11 23 RX4, .instantiable RX4 10, .initialized RX4, .code yX4_init cX4_init 2 none, .methodLink RX4 3 objectInit, .fieldLink RX4 9 "ShellHeap$Known" "notesSeen" "I", .fieldLink RX4 15 "ShellHeap$Known" "layersSeen" "I", .arrayClass .boolean, .fieldLink RX4 18 "ShellHeap$Known" "struck" "[Z", .fieldLink RX4 22 "ShellHeap$Known" "later" "[I", .fieldLink RX4 26 "ShellHeap$Known" "ranks" "[I", .fieldLink RX4 29 "ShellHeap$Known" "bedOf" "[I", .fieldLink RX4 32 "ShellHeap$Known" "least" "[I", .fieldLink RX4 35 "ShellHeap$Known" "greatest" "[I", .fieldLink RX4 38 "ShellHeap$Known" "clash" "I", .fieldLink RX4 41 "ShellHeap$Known" "book" "LShellHeap$Book;", .instanceMethod yX4_init, .methodLink RX11 25 yX4_init, .fieldLink RX11 28 "ShellHeap" "known" "LShellHeap$Known;", .classLink RX11 32 RX2, .instantiable RX2 11, .initialized RX2, .code yX2_init cX2_init 1 none, .methodLink RX2 3 objectInit, .fieldLink RX2 9 "ShellHeap$Ground" "w" "I", .fieldLink RX2 15 "ShellHeap$Ground" "h" "I", .fieldLink RX2 18 "ShellHeap$Ground" "xs" "[I", .fieldLink RX2 22 "ShellHeap$Ground" "ys" "[I", .fieldLink RX2 25 "ShellHeap$Ground" "ofBed" "[I", .fieldLink RX2 28 "ShellHeap$Ground" "without" "[I", .fieldLink RX2 31 "ShellHeap$Ground" "thickness" "[I", .fieldLink RX2 34 "ShellHeap$Ground" "columns" "I", .fieldLink RX2 37 "ShellHeap$Ground" "whole" "I", .fieldLink RX2 40 "ShellHeap$Ground" "least" "I", .fieldLink RX2 43 "ShellHeap$Ground" "greatest" "I", .instanceMethod yX2_init, .fieldLink RX11 35 "ShellHeap" "ground" "LShellHeap$Ground;", .classLink RX11 39 RX5, .instantiable RX5 10, .initialized RX5, .code yX5_init cX5_init 1 none, .methodLink RX5 5 objectInit, .fieldLink RX5 11 "ShellHeap$Pantry" "meats" "[I", .fieldLink RX5 15 "ShellHeap$Pantry" "valvesOf" "[I", .fieldLink RX5 18 "ShellHeap$Pantry" "found" "[I", .arrayClass .long, .fieldLink RX5 21 "ShellHeap$Pantry" "ofBed" "[J", .fieldLink RX5 25 "ShellHeap$Pantry" "keeps" "[I", .fieldLink RX5 28 "ShellHeap$Pantry" "leastNumber" "[J", .fieldLink RX5 31 "ShellHeap$Pantry" "righted" "[J", .fieldLink RX5 34 "ShellHeap$Pantry" "food" "J", .fieldLink RX5 38 "ShellHeap$Pantry" "lost" "J", .fieldLink RX5 41 "ShellHeap$Pantry" "kinds" "I", .instanceMethod yX5_init, .fieldLink RX11 42 "ShellHeap" "pantry" "LShellHeap$Pantry;", .classLink RX11 46 RX6, .instantiable RX6 7, .initialized RX6, .code yX6_init cX6_init 3 none, .methodLink RX6 3 objectInit, .fieldLink RX6 11 "ShellHeap$Readers" "rows" "[I", .fieldLink RX6 15 "ShellHeap$Readers" "told" "[I", .fieldLink RX6 18 "ShellHeap$Readers" "ofBed" "[I", .fieldLink RX6 21 "ShellHeap$Readers" "gaps" "[I", .fieldLink RX6 24 "ShellHeap$Readers" "steps" "[I", .fieldLink RX6 27 "ShellHeap$Readers" "died" "[I", .fieldLink RX6 30 "ShellHeap$Readers" "miss" "I", .instanceMethod yX6_init, .methodLink RX11 48 yX6_init, .fieldLink RX11 49 "ShellHeap" "readers" "LShellHeap$Readers;", .classLink RX11 53 RX9, .instantiable RX9 4, .initialized RX9, .code yX9_init cX9_init 1 none, .methodLink RX9 3 objectInit, .fieldLink RX9 11 "ShellHeap$Sizes" "layerOf" "[I", .fieldLink RX9 15 "ShellHeap$Sizes" "marks" "[I", .fieldLink RX9 18 "ShellHeap$Sizes" "tally" "[I", .fieldLink RX9 21 "ShellHeap$Sizes" "measured" "I", .instanceMethod yX9_init, .fieldLink RX11 56 "ShellHeap" "sizes" "LShellHeap$Sizes;", .classLink RX11 60 RX1, .instantiable RX1 6, .initialized RX1, .code yX1_init cX1_init 3 none, .methodLink RX1 3 objectInit, .fieldLink RX1 9 "ShellHeap$FindsReader" "note" "I", .fieldLink RX1 15 "ShellHeap$FindsReader" "kind" "I", .fieldLink RX1 18 "ShellHeap$FindsReader" "sieve" "I", .fieldLink RX1 21 "ShellHeap$FindsReader" "toldParts" "I", .fieldLink RX1 24 "ShellHeap$FindsReader" "tape" "LShellHeap$Tape;", .fieldLink RX1 28 "ShellHeap$FindsReader" "pantry" "LShellHeap$Pantry;", .instanceMethod yX1_init, .methodLink RX11 62 yX1_init, .fieldLink RX11 65 "ShellHeap" "findsReader" "LShellHeap$FindsReader;", .classLink RX11 69 RX8, .instantiable RX8 9, .initialized RX8, .code yX8_init cX8_init 2 none, .methodLink RX8 3 objectInit, .fieldLink RX8 11 "ShellHeap$RulesReader" "titleStarts" "[I", .fieldLink RX8 17 "ShellHeap$RulesReader" "titleLengths" "[I", .fieldLink RX8 20 "ShellHeap$RulesReader" "waiting" "[I", .fieldLink RX8 23 "ShellHeap$RulesReader" "waits" "I", .fieldLink RX8 27 "ShellHeap$RulesReader" "open" "I", .fieldLink RX8 30 "ShellHeap$RulesReader" "wantsPart" "Z", .classLink RX8 9 RX7, .instantiable RX7 6, .initialized RX7, .code yX7_init cX7_init 1 none, .methodLink RX7 1 objectInit, .fieldLink RX7 9 "ShellHeap$Rules" "steps" "[I", .fieldLink RX7 13 "ShellHeap$Rules" "worths" "[I", .fieldLink RX7 16 "ShellHeap$Rules" "begins" "[I", .fieldLink RX7 19 "ShellHeap$Rules" "length" "I", .fieldLink RX7 23 "ShellHeap$Rules" "causes" "I", .fieldLink RX7 26 "ShellHeap$Rules" "knots" "I", .instanceMethod yX7_init, .fieldLink RX8 35 "ShellHeap$RulesReader" "draft" "LShellHeap$Rules;", .fieldLink RX8 39 "ShellHeap$RulesReader" "standing" "LShellHeap$Rules;", .fieldLink RX8 42 "ShellHeap$RulesReader" "tape" "LShellHeap$Tape;", .instanceMethod yX8_init, .methodLink RX11 71 yX8_init, .fieldLink RX11 74 "ShellHeap" "rulesReader" "LShellHeap$RulesReader;", .classLink RX11 78 RX3, .instantiable RX3 10, .initialized RX3, .code yX3_init cX3_init 6 none, .methodLink RX3 3 objectInit, .fieldLink RX3 11 "ShellHeap$Judge" "values" "[J", .fieldLink RX3 15 "ShellHeap$Judge" "isWorked" "[Z", .fieldLink RX3 21 "ShellHeap$Judge" "stack" "[J", .fieldLink RX3 24 "ShellHeap$Judge" "own" "I", .fieldLink RX3 28 "ShellHeap$Judge" "ahead" "I", .fieldLink RX3 31 "ShellHeap$Judge" "known" "LShellHeap$Known;", .fieldLink RX3 35 "ShellHeap$Judge" "ground" "LShellHeap$Ground;", .fieldLink RX3 39 "ShellHeap$Judge" "pantry" "LShellHeap$Pantry;", .fieldLink RX3 43 "ShellHeap$Judge" "readers" "LShellHeap$Readers;", .fieldLink RX3 47 "ShellHeap$Judge" "sizes" "LShellHeap$Sizes;", .instanceMethod yX3_init, .methodLink RX11 80 yX3_init, .fieldLink RX11 83 "ShellHeap" "judge" "LShellHeap$Judge;"] ++ wsX100 ++ wsX110 ++ wsX00 ++ wsX40 ++ wsX20 ++ wsX50 ++ wsX60 ++ wsX90 ++ wsX10 ++ wsX80 ++ wsX70 ++ wsX30)
set_option maxRecDepth 20000 in
theorem gw_c_X11_init_c_X10_init_9 : GoodIn u_c_X11_init u_c_X10_init := goodIn_r _ [7, 8, 2, 3, 9, 10, 11, 12, 13, 14, 15, 16, 17, 18, 19, 20, 178, 179, 180, 181, 182, 183, 184, 185, 186, 187, 188] (by decide +kernel) (by decide +kernel)
set_option maxRecDepth 20000 in
theorem gw_c_X11_init_c_X0_init_18 : GoodIn u_c_X11_init u_c_X0_init := goodIn_r _ [26, 27, 2, 3, 9, 28, 29, 30, 31, 32, 33, 199, 200, 201, 202, 203, 204] (by decide +kernel) (by decide +kernel)
set_option maxRecDepth 20000 in
theorem gw_c_X11_init_c_X4_init_25 : GoodIn u_c_X11_init u_c_X4_init := goodIn_r _ [39, 40, 2, 3, 41, 42, 43, 44, 9, 45, 46, 47, 48, 49, 50, 51, 205, 206, 207, 208, 209, 210, 211, 212, 213, 214] (by decide +kernel) (by decide +kernel)
set_option maxRecDepth 20000 in
theorem gw_c_X11_init_c_X2_init_34 : GoodIn u_c_X11_init u_c_X2_init := goodIn_r _ [58, 59, 2, 3, 60, 61, 9, 62, 63, 64, 65, 66, 67, 68, 69, 70, 215, 216, 217, 218, 219, 220, 221, 222, 223, 224, 225] (by decide +kernel) (by decide +kernel)
set_option maxRecDepth 20000 in
theorem gw_c_X11_init_c_X5_init_41 : GoodIn u_c_X11_init u_c_X5_init := goodIn_r _ [76, 77, 2, 3, 9, 78, 79, 80, 81, 82, 83, 84, 85, 86, 87, 88, 226, 227, 228, 229, 230, 231, 232, 233, 234, 235] (by decide +kernel) (by decide +kernel)
set_option maxRecDepth 20000 in
theorem gw_c_X11_init_c_X6_init_48 : GoodIn u_c_X11_init u_c_X6_init := goodIn_r _ [94, 95, 2, 3, 9, 96, 97, 98, 99, 100, 101, 102, 236, 237, 238, 239, 240, 241, 242] (by decide +kernel) (by decide +kernel)
set_option maxRecDepth 20000 in
theorem gw_c_X11_init_c_X9_init_55 : GoodIn u_c_X11_init u_c_X9_init := goodIn_r _ [109, 110, 2, 3, 9, 111, 112, 113, 114, 243, 244, 245, 246] (by decide +kernel) (by decide +kernel)
set_option maxRecDepth 20000 in
theorem gw_c_X11_init_c_X1_init_62 : GoodIn u_c_X11_init u_c_X1_init := goodIn_r _ [120, 121, 2, 3, 122, 123, 124, 125, 126, 127, 247, 248, 249, 250, 251, 252] (by decide +kernel) (by decide +kernel)
set_option maxRecDepth 20000 in
theorem gw_c_X11_init_c_X8_init_71 : GoodIn u_c_X11_init u_c_X8_init := goodIn_r _ [134, 135, 2, 3, 9, 136, 137, 138, 139, 140, 141, 142, 143, 144, 145, 146, 147, 148, 149, 150, 151, 152, 153, 154, 155, 156, 253, 254, 255, 256, 257, 258, 259, 260, 261, 262, 263, 264, 265, 266, 267] (by decide +kernel) (by decide +kernel)
set_option maxRecDepth 20000 in
theorem gw_c_X11_init_c_X3_init_80 : GoodIn u_c_X11_init u_c_X3_init := goodIn_r _ [163, 164, 2, 3, 81, 165, 43, 166, 167, 168, 169, 170, 171, 172, 173, 174, 268, 269, 270, 271, 272, 273, 274, 275, 276, 277] (by decide +kernel) (by decide +kernel)
set_option maxHeartbeats 4000000 in
set_option maxRecDepth 100000 in
theorem c_X11_init (l : Launch) (dC : Nat → ClassId) (dI : Nat → Nat → Nat) (sz : Nat) (h0 : Nat) : Met l yX11_init u_c_X11_init ({ frames := 3, cells := 56, slots := 14886, locals := 53 }) (va_Pc [.ref h0] (z_CN (dC, dI) vwCl [(h0, .inr (11, [.null, .null, .null, .null, .null, .null, .null, .null, .null, .null]))] [] sz [(RX11, 9, yX10_init), (RX11, 18, yX0_init), (RX11, 34, yX2_init), (RX11, 41, yX5_init), (RX11, 55, yX9_init), (RX8, 34, yX7_init)])) (va_Qv (fun (_ : Unit) => True) (fun (_ : Unit) (t : State) => ∃ (r_tape : Nat), ∃ (r_book : Nat), ∃ (r_known : Nat), ∃ (r_ground : Nat), ∃ (r_pantry : Nat), ∃ (r_readers : Nat), ∃ (r_sizes : Nat), ∃ (r_findsReader : Nat), ∃ (r_rulesReader : Nat), ∃ (r_judge : Nat), ∃ (ta0 : Nat), ∃ (tac0 : ClassId), ∃ (bo0 : Nat), ∃ (bo1 : Nat), ∃ (bo2 : Nat), ∃ (bo3 : Nat), ∃ (kn3 : Nat), ∃ (kn4 : Nat), ∃ (kn5 : Nat), ∃ (kn6 : Nat), ∃ (kn7 : Nat), ∃ (kn8 : Nat), ∃ (gr2 : Nat), ∃ (gr3 : Nat), ∃ (gr4 : Nat), ∃ (gr5 : Nat), ∃ (gr6 : Nat), ∃ (grc2 : ClassId), ∃ (grc3 : ClassId), ∃ (grc6 : ClassId), ∃ (pa0 : Nat), ∃ (pa1 : Nat), ∃ (pa2 : Nat), ∃ (pa3 : Nat), ∃ (pa4 : Nat), ∃ (pa5 : Nat), ∃ (pa6 : Nat), ∃ (pac0 : ClassId), ∃ (pac1 : ClassId), ∃ (pac4 : ClassId), ∃ (re0 : Nat), ∃ (re1 : Nat), ∃ (re2 : Nat), ∃ (re3 : Nat), ∃ (re4 : Nat), ∃ (re5 : Nat), ∃ (rec0 : ClassId), ∃ (reg : Nat → Int32), ∃ (si0 : Nat), ∃ (si1 : Nat), ∃ (si2 : Nat), ∃ (rr1 : Nat), ∃ (rr2 : Nat), ∃ (rr3 : Nat), ∃ (rr7 : Nat), ∃ (rr8 : Nat), ∃ (rd0 : Nat), ∃ (rd1 : Nat), ∃ (rd2 : Nat), ∃ (rs0 : Nat), ∃ (rs1 : Nat), ∃ (rs2 : Nat), va_P (dC, dI) vwCl [(h0, .inr (11, [.ref r_tape, .ref r_book, .ref r_known, .ref r_ground, .ref r_pantry, .ref r_readers, .ref r_sizes, .ref r_findsReader, .ref r_rulesReader, .ref r_judge])), (r_tape, .inr (10, [.ref ta0, .int 0, .int 0, .int 0, .int 0, .int 0, .int 0, .int 0, .int (-1), .int 0, .int (-1)])), (ta0, .inl (tac0, 700, .inl (fun _ => 0))), (r_book, .inr (0, [.ref bo0, .ref bo1, .ref bo2, .ref bo3, .int 0, .int 0])), (r_known, .inr (4, [.ref r_book, .int (-1), .int (-1), .ref kn3, .ref kn4, .ref kn5, .ref kn6, .ref kn7, .ref kn8, .int 0])), (r_ground, .inr (2, [.int 6, .int 6, .ref gr2, .ref gr3, .ref gr4, .ref gr5, .ref gr6, .int 0, .int 0, .int 0, .int 0])), (gr2, .inl (grc2, 10, .inl (fun _ => 0))), (gr3, .inl (grc3, 10, .inl (fun _ => 0))), (gr6, .inl (grc6, 120, .inl (fun _ => 0))), (r_pantry, .inr (5, [.ref pa0, .ref pa1, .ref pa2, .ref pa3, .ref pa4, .ref pa5, .ref pa6, .long 0, .long 0, .int 0])), (pa0, .inl (pac0, 6, .inl (fun _ => 0))), (pa1, .inl (pac1, 6, .inl (fun _ => 0))), (pa4, .inl (pac4, 24, .inl (fun _ => 0))), (r_readers, .inr (6, [.ref re0, .ref re1, .ref re2, .ref re3, .ref re4, .ref re5, .int (-1)])), (re0, .inl (rec0, 48, .inl reg)), (r_sizes, .inr (9, [.ref si0, .ref si1, .ref si2, .int 0])), (r_rulesReader, .inr (8, [.ref r_tape, .ref rr1, .ref rr2, .ref rr3, .int 0, .int 0, .int 1, .ref rr7, .ref rr8])), (rr7, .inr (7, [.ref rd0, .ref rd1, .ref rd2, .int 0, .int 0, .int 0])), (rr8, .inr (7, [.ref rs0, .ref rs1, .ref rs2, .int 0, .int 0, .int 0]))] t.heap ∧ va_K (dC, dI) vwCl [(tac0, .int), (grc2, .int), (grc3, .int), (grc6, .int), (pac0, .int), (pac1, .int), (pac4, .int), (rec0, .int)] t ∧ va_D (va_A [(h0, .inr (11, [.null, .null, .null, .null, .null, .null, .null, .null, .null, .null]))] sz) [(h0, .inr (11, [.ref r_tape, .ref r_book, .ref r_known, .ref r_ground, .ref r_pantry, .ref r_readers, .ref r_sizes, .ref r_findsReader, .ref r_rulesReader, .ref r_judge])), (r_tape, .inr (10, [.ref ta0, .int 0, .int 0, .int 0, .int 0, .int 0, .int 0, .int 0, .int (-1), .int 0, .int (-1)])), (ta0, .inl (tac0, 700, .inl (fun _ => 0))), (r_book, .inr (0, [.ref bo0, .ref bo1, .ref bo2, .ref bo3, .int 0, .int 0])), (r_known, .inr (4, [.ref r_book, .int (-1), .int (-1), .ref kn3, .ref kn4, .ref kn5, .ref kn6, .ref kn7, .ref kn8, .int 0])), (r_ground, .inr (2, [.int 6, .int 6, .ref gr2, .ref gr3, .ref gr4, .ref gr5, .ref gr6, .int 0, .int 0, .int 0, .int 0])), (gr2, .inl (grc2, 10, .inl (fun _ => 0))), (gr3, .inl (grc3, 10, .inl (fun _ => 0))), (gr6, .inl (grc6, 120, .inl (fun _ => 0))), (r_pantry, .inr (5, [.ref pa0, .ref pa1, .ref pa2, .ref pa3, .ref pa4, .ref pa5, .ref pa6, .long 0, .long 0, .int 0])), (pa0, .inl (pac0, 6, .inl (fun _ => 0))), (pa1, .inl (pac1, 6, .inl (fun _ => 0))), (pa4, .inl (pac4, 24, .inl (fun _ => 0))), (r_readers, .inr (6, [.ref re0, .ref re1, .ref re2, .ref re3, .ref re4, .ref re5, .int (-1)])), (re0, .inl (rec0, 48, .inl reg)), (r_sizes, .inr (9, [.ref si0, .ref si1, .ref si2, .int 0])), (r_rulesReader, .inr (8, [.ref r_tape, .ref rr1, .ref rr2, .ref rr3, .int 0, .int 0, .int 1, .ref rr7, .ref rr8])), (rr7, .inr (7, [.ref rd0, .ref rd1, .ref rd2, .int 0, .int 0, .int 0])), (rr8, .inr (7, [.ref rs0, .ref rs1, .ref rs2, .int 0, .int 0, .int 0]))]) (va_A [(h0, .inr (11, [.null, .null, .null, .null, .null, .null, .null, .null, .null, .null]))] sz)) 56 14886 (va_A [(h0, .inr (11, [.null, .null, .null, .null, .null, .null, .null, .null, .null, .null]))] sz) := by
  refine Met.ofW (cc := cX11_init) (maxL := 1) (ret := none) (by decide) rfl ?_
  intro p e s m args below meth c s₁ B hml hv
  obtain ⟨rfl, ⟨hsz, hP, hK, hD0⟩, hNW⟩ := hv
  have hx := B.exec
  have hb := B.bytes
  have hr := B.returns
  have hts := atoms_spec (ws := u_c_X11_init) B.pre
  have hown : s.vm.findClass RX11 = some m.cls := findClass_of_methodNamed B.named
  have hlocks := B.notSynchronized
  have hin : meth.name = "<init>" := (name_of_methodNamed B.named B.method).1
  subst hsz
  have hD := hD0.self (sz := s.heap.size)
  generalize hAe : va_A [(h0, .inr (11, [.null, .null, .null, .null, .null, .null, .null, .null, .null, .null]))] s.heap.size = A at hD ⊢
  have hA : ∀ q : Nat, s.heap.size ≤ q → A q := fun q h => by rw [← hAe]; exact Or.inr h
  have hS : va_S A s.heap s.heap [] := va_S.rf
  have hP : va_P (dC, dI) vwCl [(h0, .inr (11, [.null, .null, .null, .null, .null, .null, .null, .null, .null, .null]))] s.heap := hP
  have w__methodLink_RX11_1_objectInit := hts (.methodLink RX11 1 objectInit) (by decide +kernel)
  have w__instanceMethod_objectInit := hts (.instanceMethod objectInit) (by decide +kernel)
  have w__code_objectInit_0xb1_1_none := hts (.code objectInit ⟨#[0xb1]⟩ 1 none) (by decide +kernel)
  have w__classLink_RX11_7_RX10 := hts (.classLink RX11 7 RX10) (by decide +kernel)
  have w__instantiable_RX10_11 := hts (.instantiable RX10 11) (by decide +kernel)
  have w__initialized_RX10 := hts (.initialized RX10) (by decide +kernel)
  have hiX10 := show ∀ w ∈ u_ws RX10 TX10 11, w ∈ u_c_X11_init by decide +kernel
  have w__instanceMethod_yX10_init := hts (.instanceMethod yX10_init) (by decide +kernel)
  have w__fieldLink_RX11_10_ShellHeap_tape_LShellHeap_Tape_ := hts (.fieldLink RX11 10 "ShellHeap" "tape" "LShellHeap$Tape;") (by decide +kernel)
  have hiX11 := show ∀ w ∈ u_ws RX11 TX11 10, w ∈ u_c_X11_init by decide +kernel
  have w__classLink_RX11_16_RX0 := hts (.classLink RX11 16 RX0) (by decide +kernel)
  have w__instantiable_RX0_6 := hts (.instantiable RX0 6) (by decide +kernel)
  have w__initialized_RX0 := hts (.initialized RX0) (by decide +kernel)
  have hiX0 := show ∀ w ∈ u_ws RX0 TX0 6, w ∈ u_c_X11_init by decide +kernel
  have w__instanceMethod_yX0_init := hts (.instanceMethod yX0_init) (by decide +kernel)
  have w__fieldLink_RX11_19_ShellHeap_book_LShellHeap_Book_ := hts (.fieldLink RX11 19 "ShellHeap" "book" "LShellHeap$Book;") (by decide +kernel)
  have w__classLink_RX11_23_RX4 := hts (.classLink RX11 23 RX4) (by decide +kernel)
  have w__instantiable_RX4_10 := hts (.instantiable RX4 10) (by decide +kernel)
  have w__initialized_RX4 := hts (.initialized RX4) (by decide +kernel)
  have hiX4 := show ∀ w ∈ u_ws RX4 TX4 10, w ∈ u_c_X11_init by decide +kernel
  have w__instanceMethod_yX4_init := hts (.instanceMethod yX4_init) (by decide +kernel)
  have w__methodLink_RX11_25_yX4_init := hts (.methodLink RX11 25 yX4_init) (by decide +kernel)
  have w__fieldLink_RX11_28_ShellHeap_known_LShellHeap_Known_ := hts (.fieldLink RX11 28 "ShellHeap" "known" "LShellHeap$Known;") (by decide +kernel)
  have w__classLink_RX11_32_RX2 := hts (.classLink RX11 32 RX2) (by decide +kernel)
  have w__instantiable_RX2_11 := hts (.instantiable RX2 11) (by decide +kernel)
  have w__initialized_RX2 := hts (.initialized RX2) (by decide +kernel)
  have hiX2 := show ∀ w ∈ u_ws RX2 TX2 11, w ∈ u_c_X11_init by decide +kernel
  have w__instanceMethod_yX2_init := hts (.instanceMethod yX2_init) (by decide +kernel)
  have w__fieldLink_RX11_35_ShellHeap_ground_LShellHeap_Ground_ := hts (.fieldLink RX11 35 "ShellHeap" "ground" "LShellHeap$Ground;") (by decide +kernel)
  have w__classLink_RX11_39_RX5 := hts (.classLink RX11 39 RX5) (by decide +kernel)
  have w__instantiable_RX5_10 := hts (.instantiable RX5 10) (by decide +kernel)
  have w__initialized_RX5 := hts (.initialized RX5) (by decide +kernel)
  have hiX5 := show ∀ w ∈ u_ws RX5 TX5 10, w ∈ u_c_X11_init by decide +kernel
  have w__instanceMethod_yX5_init := hts (.instanceMethod yX5_init) (by decide +kernel)
  have w__fieldLink_RX11_42_ShellHeap_pantry_LShellHeap_Pantry_ := hts (.fieldLink RX11 42 "ShellHeap" "pantry" "LShellHeap$Pantry;") (by decide +kernel)
  have w__classLink_RX11_46_RX6 := hts (.classLink RX11 46 RX6) (by decide +kernel)
  have w__instantiable_RX6_7 := hts (.instantiable RX6 7) (by decide +kernel)
  have w__initialized_RX6 := hts (.initialized RX6) (by decide +kernel)
  have hiX6 := show ∀ w ∈ u_ws RX6 TX6 7, w ∈ u_c_X11_init by decide +kernel
  have w__instanceMethod_yX6_init := hts (.instanceMethod yX6_init) (by decide +kernel)
  have w__methodLink_RX11_48_yX6_init := hts (.methodLink RX11 48 yX6_init) (by decide +kernel)
  have w__fieldLink_RX11_49_ShellHeap_readers_LShellHeap_Readers_ := hts (.fieldLink RX11 49 "ShellHeap" "readers" "LShellHeap$Readers;") (by decide +kernel)
  have w__classLink_RX11_53_RX9 := hts (.classLink RX11 53 RX9) (by decide +kernel)
  have w__instantiable_RX9_4 := hts (.instantiable RX9 4) (by decide +kernel)
  have w__initialized_RX9 := hts (.initialized RX9) (by decide +kernel)
  have hiX9 := show ∀ w ∈ u_ws RX9 TX9 4, w ∈ u_c_X11_init by decide +kernel
  have w__instanceMethod_yX9_init := hts (.instanceMethod yX9_init) (by decide +kernel)
  have w__fieldLink_RX11_56_ShellHeap_sizes_LShellHeap_Sizes_ := hts (.fieldLink RX11 56 "ShellHeap" "sizes" "LShellHeap$Sizes;") (by decide +kernel)
  have w__classLink_RX11_60_RX1 := hts (.classLink RX11 60 RX1) (by decide +kernel)
  have w__instantiable_RX1_6 := hts (.instantiable RX1 6) (by decide +kernel)
  have w__initialized_RX1 := hts (.initialized RX1) (by decide +kernel)
  have hiX1 := show ∀ w ∈ u_ws RX1 TX1 6, w ∈ u_c_X11_init by decide +kernel
  have w__instanceMethod_yX1_init := hts (.instanceMethod yX1_init) (by decide +kernel)
  have w__methodLink_RX11_62_yX1_init := hts (.methodLink RX11 62 yX1_init) (by decide +kernel)
  have w__fieldLink_RX11_65_ShellHeap_findsReader_LShellHeap_FindsReader_ := hts (.fieldLink RX11 65 "ShellHeap" "findsReader" "LShellHeap$FindsReader;") (by decide +kernel)
  have w__classLink_RX11_69_RX8 := hts (.classLink RX11 69 RX8) (by decide +kernel)
  have w__instantiable_RX8_9 := hts (.instantiable RX8 9) (by decide +kernel)
  have w__initialized_RX8 := hts (.initialized RX8) (by decide +kernel)
  have hiX8 := show ∀ w ∈ u_ws RX8 TX8 9, w ∈ u_c_X11_init by decide +kernel
  have w__instanceMethod_yX8_init := hts (.instanceMethod yX8_init) (by decide +kernel)
  have w__methodLink_RX11_71_yX8_init := hts (.methodLink RX11 71 yX8_init) (by decide +kernel)
  have w__fieldLink_RX11_74_ShellHeap_rulesReader_LShellHeap_RulesReader_ := hts (.fieldLink RX11 74 "ShellHeap" "rulesReader" "LShellHeap$RulesReader;") (by decide +kernel)
  have w__classLink_RX11_78_RX3 := hts (.classLink RX11 78 RX3) (by decide +kernel)
  have w__instantiable_RX3_10 := hts (.instantiable RX3 10) (by decide +kernel)
  have w__initialized_RX3 := hts (.initialized RX3) (by decide +kernel)
  have hiX3 := show ∀ w ∈ u_ws RX3 TX3 10, w ∈ u_c_X11_init by decide +kernel
  have w__instanceMethod_yX3_init := hts (.instanceMethod yX3_init) (by decide +kernel)
  have w__methodLink_RX11_80_yX3_init := hts (.methodLink RX11 80 yX3_init) (by decide +kernel)
  have w__fieldLink_RX11_83_ShellHeap_judge_LShellHeap_Judge_ := hts (.fieldLink RX11 83 "ShellHeap" "judge" "LShellHeap$Judge;") (by decide +kernel)
  have hl := lv_entry ([.ref h0]) (n := 1) (Nat.le_of_ble_eq_true rfl)
  rw [lg_entry_eq]
  generalize (lg_sl ([.ref h0]) ++ List.replicate (1 - (lg_sl ([.ref h0])).length) Slot.unset).toArray = ls at hl ⊢
  have hl : lv_has ls 1 [(0, .ref h0)] := hl
  refine lv_aload_n hx hb dX11_init_0 rfl (lv_at hl 0 rfl) ?_
  refine W.objInit hx hb hown w__methodLink_RX11_1_objectInit w__instanceMethod_objectInit w__code_objectInit_0xb1_1_none rfl (by rw [hml]; exact hl.1) rfl dX11_init_1 (Nat.le_of_ble_eq_true rfl) (Nat.le_of_ble_eq_true rfl) ?_
  refine W.eq (g2 := F0 m 4 ls []) rfl ?_
  refine lv_aload_n hx hb dX11_init_4 rfl (lv_at hl 0 rfl) ?_
  refine va_new (ci := 10) (fs := [.null, .int 0, .int 0, .int 0, .int 0, .int 0, .int 0, .int 0, .int 0, .int 0, .int 0]) (C := RX10) (T := TX10) (N := 11) hx hb hts hiX10 tyX10 tyX10_ok hown w__classLink_RX11_7_RX10 w__instantiable_RX10_11 w__initialized_RX10 hK hP hD hS hA rfl (fun j hj => match j, hj with | 0, _ => rfl | 1, _ => rfl | 2, _ => rfl | 3, _ => rfl | 4, _ => rfl | 5, _ => rfl | 6, _ => rfl | 7, _ => rfl | 8, _ => rfl | 9, _ => rfl | 10, _ => rfl | k + 11, h => absurd h (by omega)) (Nat.le_of_ble_eq_true rfl) (Nat.le_of_ble_eq_true rfl) dX11_init_5 (fun q_1 H_2 hP hD hS => ?_)
  have hP : va_P (dC, dI) vwCl [(h0, .inr (11, [.null, .null, .null, .null, .null, .null, .null, .null, .null, .null])), (q_1, .inr (10, [.null, .int 0, .int 0, .int 0, .int 0, .int 0, .int 0, .int 0, .int 0, .int 0, .int 0]))] H_2 := hP
  have hD : va_D A [(h0, .inr (11, [.null, .null, .null, .null, .null, .null, .null, .null, .null, .null])), (q_1, .inr (10, [.null, .int 0, .int 0, .int 0, .int 0, .int 0, .int 0, .int 0, .int 0, .int 0, .int 0]))] := hD
  refine lv_dup hx hb dX11_init_8 rfl ?_
  have hPc := hP.sub (ws' := [(q_1, .inr (10, [.null, .int 0, .int 0, .int 0, .int 0, .int 0, .int 0, .int 0, .int 0, .int 0, .int 0]))]) [1] rfl
  have hDc := hD.sub (ws' := [(q_1, .inr (10, [.null, .int 0, .int 0, .int 0, .int 0, .int 0, .int 0, .int 0, .int 0, .int 0, .int 0]))]) [1] (by decide) rfl
  have hKc := hK.sub (tys' := []) [] rfl
  have hFc := va_free (wc := [(q_1, .inr (10, [.null, .int 0, .int 0, .int 0, .int 0, .int 0, .int 0, .int 0, .int 0, .int 0, .int 0]))]) hD hS hA [1] rfl
  refine va_callv (va_runIN (As := []) (rest := [.ref q_1, .ref h0]) ⟨hx, hb, hml, hown, hts⟩ (c_X10_init l dC dI H_2.size q_1) ⟨va_cnB 0 hts gw_c_X11_init_c_X10_init_9 rfl rfl rfl (hNW (RX11, 9, yX10_init) (by decide +kernel)) w__initialized_RX10 (by decide +kernel) ⟨Nat.le_of_ble_eq_true rfl, Nat.le_of_ble_eq_true rfl⟩, rfl, w__instanceMethod_yX10_init⟩ ⟨z_blind, z_pre hPc hKc hDc⟩ rfl rfl hl.1 rfl (lv_room (Nat.le_of_ble_eq_true rfl)) dX11_init_9 ⟨Nat.le_of_ble_eq_true rfl, Nat.le_of_ble_eq_true rfl⟩) hS (fun q _ h => hFc q h) hFc (fun u t H_3 locs ht hvm hw_5 hB hz1 hk1 hS => ?_)
  obtain ⟨q0_6, qc0_7, hP1, hK1, hD1⟩ := hB
  rw [ht] at hP1
  have hK1 := va_K.moved hvm.symm hK1
  obtain ⟨hP, hD⟩ := va_join (wr := [(h0, .inr (11, [.null, .null, .null, .null, .null, .null, .null, .null, .null, .null]))]) (w1 := [(q_1, .inr (10, [.ref q0_6, .int 0, .int 0, .int 0, .int 0, .int 0, .int 0, .int 0, .int (-1), .int 0, .int (-1)])), (q0_6, .inl (qc0_7, 700, .inl (fun _ => 0)))]) hP hD [1] [0] rfl rfl (by decide) (by decide) hk1 hFc hP1 hD1
  have hK := hK.app hK1
  have hK : va_K (dC, dI) vwCl [(qc0_7, .int)] s := hK
  have hP : va_P (dC, dI) vwCl [(h0, .inr (11, [.null, .null, .null, .null, .null, .null, .null, .null, .null, .null])), (q_1, .inr (10, [.ref q0_6, .int 0, .int 0, .int 0, .int 0, .int 0, .int 0, .int 0, .int (-1), .int 0, .int (-1)])), (q0_6, .inl (qc0_7, 700, .inl (fun _ => 0)))] H_3 := hP
  have hD : va_D A [(h0, .inr (11, [.null, .null, .null, .null, .null, .null, .null, .null, .null, .null])), (q_1, .inr (10, [.ref q0_6, .int 0, .int 0, .int 0, .int 0, .int 0, .int 0, .int 0, .int (-1), .int 0, .int (-1)])), (q0_6, .inl (qc0_7, 700, .inl (fun _ => 0)))] := hD
  clear hPc hDc hKc
  refine va_putF (D := (dC, dI)) (ci := 11) (v := .ref q_1) (ty := .object "ShellHeap$Tape") (C := RX11) (T := TX11) (N := 10) hx hb hts hiX11 tyX11 tyX11_ok nmX11 hown hK hP hD hS 0 rfl rfl 0 (by decide) w__fieldLink_RX11_10_ShellHeap_tape_LShellHeap_Tape_ (fun _ h9 => h9) rfl hin rfl (by decide +kernel) rfl rfl (Nat.le_of_ble_eq_true rfl) dX11_init_12 (fun H_8 locs hP hD hS => ?_)
  have hP : va_P (dC, dI) vwCl [(h0, .inr (11, [.ref q_1, .null, .null, .null, .null, .null, .null, .null, .null, .null])), (q_1, .inr (10, [.ref q0_6, .int 0, .int 0, .int 0, .int 0, .int 0, .int 0, .int 0, .int (-1), .int 0, .int (-1)])), (q0_6, .inl (qc0_7, 700, .inl (fun _ => 0)))] H_8 := hP
  have hD : va_D A [(h0, .inr (11, [.ref q_1, .null, .null, .null, .null, .null, .null, .null, .null, .null])), (q_1, .inr (10, [.ref q0_6, .int 0, .int 0, .int 0, .int 0, .int 0, .int 0, .int 0, .int (-1), .int 0, .int (-1)])), (q0_6, .inl (qc0_7, 700, .inl (fun _ => 0)))] := hD
  refine lv_aload_n hx hb dX11_init_15 rfl (lv_at hl 0 rfl) ?_
  refine va_new (ci := 0) (fs := [.null, .null, .null, .null, .int 0, .int 0]) (C := RX0) (T := TX0) (N := 6) hx hb hts hiX0 tyX0 tyX0_ok hown w__classLink_RX11_16_RX0 w__instantiable_RX0_6 w__initialized_RX0 hK hP hD hS hA rfl (fun j hj => match j, hj with | 0, _ => rfl | 1, _ => rfl | 2, _ => rfl | 3, _ => rfl | 4, _ => rfl | 5, _ => rfl | k + 6, h => absurd h (by omega)) (Nat.le_of_ble_eq_true rfl) (Nat.le_of_ble_eq_true rfl) dX11_init_16 (fun q_9 H_10 hP hD hS => ?_)
  have hP : va_P (dC, dI) vwCl [(h0, .inr (11, [.ref q_1, .null, .null, .null, .null, .null, .null, .null, .null, .null])), (q_1, .inr (10, [.ref q0_6, .int 0, .int 0, .int 0, .int 0, .int 0, .int 0, .int 0, .int (-1), .int 0, .int (-1)])), (q0_6, .inl (qc0_7, 700, .inl (fun _ => 0))), (q_9, .inr (0, [.null, .null, .null, .null, .int 0, .int 0]))] H_10 := hP
  have hD : va_D A [(h0, .inr (11, [.ref q_1, .null, .null, .null, .null, .null, .null, .null, .null, .null])), (q_1, .inr (10, [.ref q0_6, .int 0, .int 0, .int 0, .int 0, .int 0, .int 0, .int 0, .int (-1), .int 0, .int (-1)])), (q0_6, .inl (qc0_7, 700, .inl (fun _ => 0))), (q_9, .inr (0, [.null, .null, .null, .null, .int 0, .int 0]))] := hD
  refine lv_dup hx hb dX11_init_19 rfl ?_
  have hPc := hP.sub (ws' := [(q_9, .inr (0, [.null, .null, .null, .null, .int 0, .int 0]))]) [3] rfl
  have hDc := hD.sub (ws' := [(q_9, .inr (0, [.null, .null, .null, .null, .int 0, .int 0]))]) [3] (by decide) rfl
  have hKc := hK.sub (tys' := []) [] rfl
  have hFc := va_free (wc := [(q_9, .inr (0, [.null, .null, .null, .null, .int 0, .int 0]))]) hD hS hA [3] rfl
  refine va_callv (va_runIN (As := []) (rest := [.ref q_9, .ref h0]) ⟨hx, hb, hml, hown, hts⟩ (c_X0_init l dC dI H_10.size q_9) ⟨va_cnB 0 hts gw_c_X11_init_c_X0_init_18 rfl rfl rfl (hNW (RX11, 18, yX0_init) (by decide +kernel)) w__initialized_RX0 (by decide +kernel) ⟨Nat.le_of_ble_eq_true rfl, Nat.le_of_ble_eq_true rfl⟩, rfl, w__instanceMethod_yX0_init⟩ ⟨z_blind, z_pre hPc hKc hDc⟩ rfl rfl hl.1 rfl (lv_room (Nat.le_of_ble_eq_true rfl)) dX11_init_20 ⟨Nat.le_of_ble_eq_true rfl, Nat.le_of_ble_eq_true rfl⟩) hS (fun q _ h => hFc q h) hFc (fun u t H_11 locs ht hvm hw_13 hB hz1 hk1 hS => ?_)
  obtain ⟨q0_14, q1_15, q2_16, q3_17, hP1, hK1, hD1⟩ := hB
  rw [ht] at hP1
  have hK1 := va_K.moved hvm.symm hK1
  obtain ⟨hP, hD⟩ := va_join (wr := [(h0, .inr (11, [.ref q_1, .null, .null, .null, .null, .null, .null, .null, .null, .null])), (q_1, .inr (10, [.ref q0_6, .int 0, .int 0, .int 0, .int 0, .int 0, .int 0, .int 0, .int (-1), .int 0, .int (-1)])), (q0_6, .inl (qc0_7, 700, .inl (fun _ => 0)))]) (w1 := [(q_9, .inr (0, [.ref q0_14, .ref q1_15, .ref q2_16, .ref q3_17, .int 0, .int 0]))]) hP hD [3] [0, 1, 2] rfl rfl (by decide) (by decide) hk1 hFc hP1 hD1
  have hP : va_P (dC, dI) vwCl [(h0, .inr (11, [.ref q_1, .null, .null, .null, .null, .null, .null, .null, .null, .null])), (q_1, .inr (10, [.ref q0_6, .int 0, .int 0, .int 0, .int 0, .int 0, .int 0, .int 0, .int (-1), .int 0, .int (-1)])), (q0_6, .inl (qc0_7, 700, .inl (fun _ => 0))), (q_9, .inr (0, [.ref q0_14, .ref q1_15, .ref q2_16, .ref q3_17, .int 0, .int 0]))] H_11 := hP
  have hD : va_D A [(h0, .inr (11, [.ref q_1, .null, .null, .null, .null, .null, .null, .null, .null, .null])), (q_1, .inr (10, [.ref q0_6, .int 0, .int 0, .int 0, .int 0, .int 0, .int 0, .int 0, .int (-1), .int 0, .int (-1)])), (q0_6, .inl (qc0_7, 700, .inl (fun _ => 0))), (q_9, .inr (0, [.ref q0_14, .ref q1_15, .ref q2_16, .ref q3_17, .int 0, .int 0]))] := hD
  clear hPc hDc hKc
  refine va_putF (D := (dC, dI)) (ci := 11) (v := .ref q_9) (ty := .object "ShellHeap$Book") (C := RX11) (T := TX11) (N := 10) hx hb hts hiX11 tyX11 tyX11_ok nmX11 hown hK hP hD hS 0 rfl rfl 1 (by decide) w__fieldLink_RX11_19_ShellHeap_book_LShellHeap_Book_ (fun _ h9 => h9) rfl hin rfl (by decide +kernel) rfl rfl (Nat.le_of_ble_eq_true rfl) dX11_init_23 (fun H_18 locs hP hD hS => ?_)
  have hP : va_P (dC, dI) vwCl [(h0, .inr (11, [.ref q_1, .ref q_9, .null, .null, .null, .null, .null, .null, .null, .null])), (q_1, .inr (10, [.ref q0_6, .int 0, .int 0, .int 0, .int 0, .int 0, .int 0, .int 0, .int (-1), .int 0, .int (-1)])), (q0_6, .inl (qc0_7, 700, .inl (fun _ => 0))), (q_9, .inr (0, [.ref q0_14, .ref q1_15, .ref q2_16, .ref q3_17, .int 0, .int 0]))] H_18 := hP
  have hD : va_D A [(h0, .inr (11, [.ref q_1, .ref q_9, .null, .null, .null, .null, .null, .null, .null, .null])), (q_1, .inr (10, [.ref q0_6, .int 0, .int 0, .int 0, .int 0, .int 0, .int 0, .int 0, .int (-1), .int 0, .int (-1)])), (q0_6, .inl (qc0_7, 700, .inl (fun _ => 0))), (q_9, .inr (0, [.ref q0_14, .ref q1_15, .ref q2_16, .ref q3_17, .int 0, .int 0]))] := hD
  refine lv_aload_n hx hb dX11_init_26 rfl (lv_at hl 0 rfl) ?_
  refine va_new (ci := 4) (fs := [.null, .int 0, .int 0, .null, .null, .null, .null, .null, .null, .int 0]) (C := RX4) (T := TX4) (N := 10) hx hb hts hiX4 tyX4 tyX4_ok hown w__classLink_RX11_23_RX4 w__instantiable_RX4_10 w__initialized_RX4 hK hP hD hS hA rfl (fun j hj => match j, hj with | 0, _ => rfl | 1, _ => rfl | 2, _ => rfl | 3, _ => rfl | 4, _ => rfl | 5, _ => rfl | 6, _ => rfl | 7, _ => rfl | 8, _ => rfl | 9, _ => rfl | k + 10, h => absurd h (by omega)) (Nat.le_of_ble_eq_true rfl) (Nat.le_of_ble_eq_true rfl) dX11_init_27 (fun q_19 H_20 hP hD hS => ?_)
  have hP : va_P (dC, dI) vwCl [(h0, .inr (11, [.ref q_1, .ref q_9, .null, .null, .null, .null, .null, .null, .null, .null])), (q_1, .inr (10, [.ref q0_6, .int 0, .int 0, .int 0, .int 0, .int 0, .int 0, .int 0, .int (-1), .int 0, .int (-1)])), (q0_6, .inl (qc0_7, 700, .inl (fun _ => 0))), (q_9, .inr (0, [.ref q0_14, .ref q1_15, .ref q2_16, .ref q3_17, .int 0, .int 0])), (q_19, .inr (4, [.null, .int 0, .int 0, .null, .null, .null, .null, .null, .null, .int 0]))] H_20 := hP
  have hD : va_D A [(h0, .inr (11, [.ref q_1, .ref q_9, .null, .null, .null, .null, .null, .null, .null, .null])), (q_1, .inr (10, [.ref q0_6, .int 0, .int 0, .int 0, .int 0, .int 0, .int 0, .int 0, .int (-1), .int 0, .int (-1)])), (q0_6, .inl (qc0_7, 700, .inl (fun _ => 0))), (q_9, .inr (0, [.ref q0_14, .ref q1_15, .ref q2_16, .ref q3_17, .int 0, .int 0])), (q_19, .inr (4, [.null, .int 0, .int 0, .null, .null, .null, .null, .null, .null, .int 0]))] := hD
  refine lv_dup hx hb dX11_init_30 rfl ?_
  refine lv_aload_n hx hb dX11_init_31 rfl (lv_at hl 0 rfl) ?_
  refine va_get (D := (dC, dI)) (ci := 11) (v := .ref q_9) (C := RX11) (T := TX11) (N := 10) hx hb hts hiX11 hown hK hP 0 rfl rfl 1 (by decide) w__fieldLink_RX11_19_ShellHeap_book_LShellHeap_Book_ (fun _ h9 => h9) rfl dX11_init_32 ?_
  have hPc := hP.sub (ws' := [(q_19, .inr (4, [.null, .int 0, .int 0, .null, .null, .null, .null, .null, .null, .int 0]))]) [4] rfl
  have hDc := hD.sub (ws' := [(q_19, .inr (4, [.null, .int 0, .int 0, .null, .null, .null, .null, .null, .null, .int 0]))]) [4] (by decide) rfl
  have hKc := hK.sub (tys' := []) [] rfl
  have hFc := va_free (wc := [(q_19, .inr (4, [.null, .int 0, .int 0, .null, .null, .null, .null, .null, .null, .int 0]))]) hD hS hA [4] rfl
  refine va_callv (va_runI (As := [.ref q_9]) (rest := [.ref q_19, .ref h0]) ⟨hx, hb, hml, hown, hts⟩ (c_X4_init l dC dI H_20.size q_19 q_9) (cwI 1 hts gw_c_X11_init_c_X4_init_25 rfl rfl rfl w__initialized_RX4 w__methodLink_RX11_25_yX4_init w__instanceMethod_yX4_init rfl (by decide +kernel) ⟨Nat.le_of_ble_eq_true rfl, Nat.le_of_ble_eq_true rfl⟩) ⟨z_blind, z_pre hPc hKc hDc⟩ rfl rfl hl.1 rfl (lv_room (Nat.le_of_ble_eq_true rfl)) dX11_init_35 ⟨Nat.le_of_ble_eq_true rfl, Nat.le_of_ble_eq_true rfl⟩) hS (fun q _ h => hFc q h) hFc (fun u t H_21 locs ht hvm hw_23 hB hz1 hk1 hS => ?_)
  obtain ⟨q3_24, q4_25, q5_26, q6_27, q7_28, q8_29, hP1, hK1, hD1⟩ := hB
  rw [ht] at hP1
  have hK1 := va_K.moved hvm.symm hK1
  obtain ⟨hP, hD⟩ := va_join (wr := [(h0, .inr (11, [.ref q_1, .ref q_9, .null, .null, .null, .null, .null, .null, .null, .null])), (q_1, .inr (10, [.ref q0_6, .int 0, .int 0, .int 0, .int 0, .int 0, .int 0, .int 0, .int (-1), .int 0, .int (-1)])), (q0_6, .inl (qc0_7, 700, .inl (fun _ => 0))), (q_9, .inr (0, [.ref q0_14, .ref q1_15, .ref q2_16, .ref q3_17, .int 0, .int 0]))]) (w1 := [(q_19, .inr (4, [.ref q_9, .int (-1), .int (-1), .ref q3_24, .ref q4_25, .ref q5_26, .ref q6_27, .ref q7_28, .ref q8_29, .int 0]))]) hP hD [4] [0, 1, 2, 3] rfl rfl (by decide) (by decide) hk1 hFc hP1 hD1
  have hP : va_P (dC, dI) vwCl [(h0, .inr (11, [.ref q_1, .ref q_9, .null, .null, .null, .null, .null, .null, .null, .null])), (q_1, .inr (10, [.ref q0_6, .int 0, .int 0, .int 0, .int 0, .int 0, .int 0, .int 0, .int (-1), .int 0, .int (-1)])), (q0_6, .inl (qc0_7, 700, .inl (fun _ => 0))), (q_9, .inr (0, [.ref q0_14, .ref q1_15, .ref q2_16, .ref q3_17, .int 0, .int 0])), (q_19, .inr (4, [.ref q_9, .int (-1), .int (-1), .ref q3_24, .ref q4_25, .ref q5_26, .ref q6_27, .ref q7_28, .ref q8_29, .int 0]))] H_21 := hP
  have hD : va_D A [(h0, .inr (11, [.ref q_1, .ref q_9, .null, .null, .null, .null, .null, .null, .null, .null])), (q_1, .inr (10, [.ref q0_6, .int 0, .int 0, .int 0, .int 0, .int 0, .int 0, .int 0, .int (-1), .int 0, .int (-1)])), (q0_6, .inl (qc0_7, 700, .inl (fun _ => 0))), (q_9, .inr (0, [.ref q0_14, .ref q1_15, .ref q2_16, .ref q3_17, .int 0, .int 0])), (q_19, .inr (4, [.ref q_9, .int (-1), .int (-1), .ref q3_24, .ref q4_25, .ref q5_26, .ref q6_27, .ref q7_28, .ref q8_29, .int 0]))] := hD
  clear hPc hDc hKc
  refine va_putF (D := (dC, dI)) (ci := 11) (v := .ref q_19) (ty := .object "ShellHeap$Known") (C := RX11) (T := TX11) (N := 10) hx hb hts hiX11 tyX11 tyX11_ok nmX11 hown hK hP hD hS 0 rfl rfl 2 (by decide) w__fieldLink_RX11_28_ShellHeap_known_LShellHeap_Known_ (fun _ h9 => h9) rfl hin rfl (by decide +kernel) rfl rfl (Nat.le_of_ble_eq_true rfl) dX11_init_38 (fun H_30 locs hP hD hS => ?_)
  have hP : va_P (dC, dI) vwCl [(h0, .inr (11, [.ref q_1, .ref q_9, .ref q_19, .null, .null, .null, .null, .null, .null, .null])), (q_1, .inr (10, [.ref q0_6, .int 0, .int 0, .int 0, .int 0, .int 0, .int 0, .int 0, .int (-1), .int 0, .int (-1)])), (q0_6, .inl (qc0_7, 700, .inl (fun _ => 0))), (q_9, .inr (0, [.ref q0_14, .ref q1_15, .ref q2_16, .ref q3_17, .int 0, .int 0])), (q_19, .inr (4, [.ref q_9, .int (-1), .int (-1), .ref q3_24, .ref q4_25, .ref q5_26, .ref q6_27, .ref q7_28, .ref q8_29, .int 0]))] H_30 := hP
  have hD : va_D A [(h0, .inr (11, [.ref q_1, .ref q_9, .ref q_19, .null, .null, .null, .null, .null, .null, .null])), (q_1, .inr (10, [.ref q0_6, .int 0, .int 0, .int 0, .int 0, .int 0, .int 0, .int 0, .int (-1), .int 0, .int (-1)])), (q0_6, .inl (qc0_7, 700, .inl (fun _ => 0))), (q_9, .inr (0, [.ref q0_14, .ref q1_15, .ref q2_16, .ref q3_17, .int 0, .int 0])), (q_19, .inr (4, [.ref q_9, .int (-1), .int (-1), .ref q3_24, .ref q4_25, .ref q5_26, .ref q6_27, .ref q7_28, .ref q8_29, .int 0]))] := hD
  refine lv_aload_n hx hb dX11_init_41 rfl (lv_at hl 0 rfl) ?_
  refine va_new (ci := 2) (fs := [.int 0, .int 0, .null, .null, .null, .null, .null, .int 0, .int 0, .int 0, .int 0]) (C := RX2) (T := TX2) (N := 11) hx hb hts hiX2 tyX2 tyX2_ok hown w__classLink_RX11_32_RX2 w__instantiable_RX2_11 w__initialized_RX2 hK hP hD hS hA rfl (fun j hj => match j, hj with | 0, _ => rfl | 1, _ => rfl | 2, _ => rfl | 3, _ => rfl | 4, _ => rfl | 5, _ => rfl | 6, _ => rfl | 7, _ => rfl | 8, _ => rfl | 9, _ => rfl | 10, _ => rfl | k + 11, h => absurd h (by omega)) (Nat.le_of_ble_eq_true rfl) (Nat.le_of_ble_eq_true rfl) dX11_init_42 (fun q_31 H_32 hP hD hS => ?_)
  have hP : va_P (dC, dI) vwCl [(h0, .inr (11, [.ref q_1, .ref q_9, .ref q_19, .null, .null, .null, .null, .null, .null, .null])), (q_1, .inr (10, [.ref q0_6, .int 0, .int 0, .int 0, .int 0, .int 0, .int 0, .int 0, .int (-1), .int 0, .int (-1)])), (q0_6, .inl (qc0_7, 700, .inl (fun _ => 0))), (q_9, .inr (0, [.ref q0_14, .ref q1_15, .ref q2_16, .ref q3_17, .int 0, .int 0])), (q_19, .inr (4, [.ref q_9, .int (-1), .int (-1), .ref q3_24, .ref q4_25, .ref q5_26, .ref q6_27, .ref q7_28, .ref q8_29, .int 0])), (q_31, .inr (2, [.int 0, .int 0, .null, .null, .null, .null, .null, .int 0, .int 0, .int 0, .int 0]))] H_32 := hP
  have hD : va_D A [(h0, .inr (11, [.ref q_1, .ref q_9, .ref q_19, .null, .null, .null, .null, .null, .null, .null])), (q_1, .inr (10, [.ref q0_6, .int 0, .int 0, .int 0, .int 0, .int 0, .int 0, .int 0, .int (-1), .int 0, .int (-1)])), (q0_6, .inl (qc0_7, 700, .inl (fun _ => 0))), (q_9, .inr (0, [.ref q0_14, .ref q1_15, .ref q2_16, .ref q3_17, .int 0, .int 0])), (q_19, .inr (4, [.ref q_9, .int (-1), .int (-1), .ref q3_24, .ref q4_25, .ref q5_26, .ref q6_27, .ref q7_28, .ref q8_29, .int 0])), (q_31, .inr (2, [.int 0, .int 0, .null, .null, .null, .null, .null, .int 0, .int 0, .int 0, .int 0]))] := hD
  refine lv_dup hx hb dX11_init_45 rfl ?_
  have hPc := hP.sub (ws' := [(q_31, .inr (2, [.int 0, .int 0, .null, .null, .null, .null, .null, .int 0, .int 0, .int 0, .int 0]))]) [5] rfl
  have hDc := hD.sub (ws' := [(q_31, .inr (2, [.int 0, .int 0, .null, .null, .null, .null, .null, .int 0, .int 0, .int 0, .int 0]))]) [5] (by decide) rfl
  have hKc := hK.sub (tys' := []) [] rfl
  have hFc := va_free (wc := [(q_31, .inr (2, [.int 0, .int 0, .null, .null, .null, .null, .null, .int 0, .int 0, .int 0, .int 0]))]) hD hS hA [5] rfl
  refine va_callv (va_runIN (As := []) (rest := [.ref q_31, .ref h0]) ⟨hx, hb, hml, hown, hts⟩ (c_X2_init l dC dI H_32.size q_31) ⟨va_cnB 0 hts gw_c_X11_init_c_X2_init_34 rfl rfl rfl (hNW (RX11, 34, yX2_init) (by decide +kernel)) w__initialized_RX2 (by decide +kernel) ⟨Nat.le_of_ble_eq_true rfl, Nat.le_of_ble_eq_true rfl⟩, rfl, w__instanceMethod_yX2_init⟩ ⟨z_blind, z_pre hPc hKc hDc⟩ rfl rfl hl.1 rfl (lv_room (Nat.le_of_ble_eq_true rfl)) dX11_init_46 ⟨Nat.le_of_ble_eq_true rfl, Nat.le_of_ble_eq_true rfl⟩) hS (fun q _ h => hFc q h) hFc (fun u t H_33 locs ht hvm hw_35 hB hz1 hk1 hS => ?_)
  obtain ⟨q2_36, q3_37, q4_38, q5_39, q6_40, qc2_41, qc3_42, qc6_43, hP1, hK1, hD1⟩ := hB
  rw [ht] at hP1
  have hK1 := va_K.moved hvm.symm hK1
  obtain ⟨hP, hD⟩ := va_join (wr := [(h0, .inr (11, [.ref q_1, .ref q_9, .ref q_19, .null, .null, .null, .null, .null, .null, .null])), (q_1, .inr (10, [.ref q0_6, .int 0, .int 0, .int 0, .int 0, .int 0, .int 0, .int 0, .int (-1), .int 0, .int (-1)])), (q0_6, .inl (qc0_7, 700, .inl (fun _ => 0))), (q_9, .inr (0, [.ref q0_14, .ref q1_15, .ref q2_16, .ref q3_17, .int 0, .int 0])), (q_19, .inr (4, [.ref q_9, .int (-1), .int (-1), .ref q3_24, .ref q4_25, .ref q5_26, .ref q6_27, .ref q7_28, .ref q8_29, .int 0]))]) (w1 := [(q_31, .inr (2, [.int 6, .int 6, .ref q2_36, .ref q3_37, .ref q4_38, .ref q5_39, .ref q6_40, .int 0, .int 0, .int 0, .int 0])), (q2_36, .inl (qc2_41, 10, .inl (fun _ => 0))), (q3_37, .inl (qc3_42, 10, .inl (fun _ => 0))), (q6_40, .inl (qc6_43, 120, .inl (fun _ => 0)))]) hP hD [5] [0, 1, 2, 3, 4] rfl rfl (by decide) (by decide) hk1 hFc hP1 hD1
  have hK := hK.app hK1
  have hK : va_K (dC, dI) vwCl [(qc0_7, .int), (qc2_41, .int), (qc3_42, .int), (qc6_43, .int)] s := hK
  have hP : va_P (dC, dI) vwCl [(h0, .inr (11, [.ref q_1, .ref q_9, .ref q_19, .null, .null, .null, .null, .null, .null, .null])), (q_1, .inr (10, [.ref q0_6, .int 0, .int 0, .int 0, .int 0, .int 0, .int 0, .int 0, .int (-1), .int 0, .int (-1)])), (q0_6, .inl (qc0_7, 700, .inl (fun _ => 0))), (q_9, .inr (0, [.ref q0_14, .ref q1_15, .ref q2_16, .ref q3_17, .int 0, .int 0])), (q_19, .inr (4, [.ref q_9, .int (-1), .int (-1), .ref q3_24, .ref q4_25, .ref q5_26, .ref q6_27, .ref q7_28, .ref q8_29, .int 0])), (q_31, .inr (2, [.int 6, .int 6, .ref q2_36, .ref q3_37, .ref q4_38, .ref q5_39, .ref q6_40, .int 0, .int 0, .int 0, .int 0])), (q2_36, .inl (qc2_41, 10, .inl (fun _ => 0))), (q3_37, .inl (qc3_42, 10, .inl (fun _ => 0))), (q6_40, .inl (qc6_43, 120, .inl (fun _ => 0)))] H_33 := hP
  have hD : va_D A [(h0, .inr (11, [.ref q_1, .ref q_9, .ref q_19, .null, .null, .null, .null, .null, .null, .null])), (q_1, .inr (10, [.ref q0_6, .int 0, .int 0, .int 0, .int 0, .int 0, .int 0, .int 0, .int (-1), .int 0, .int (-1)])), (q0_6, .inl (qc0_7, 700, .inl (fun _ => 0))), (q_9, .inr (0, [.ref q0_14, .ref q1_15, .ref q2_16, .ref q3_17, .int 0, .int 0])), (q_19, .inr (4, [.ref q_9, .int (-1), .int (-1), .ref q3_24, .ref q4_25, .ref q5_26, .ref q6_27, .ref q7_28, .ref q8_29, .int 0])), (q_31, .inr (2, [.int 6, .int 6, .ref q2_36, .ref q3_37, .ref q4_38, .ref q5_39, .ref q6_40, .int 0, .int 0, .int 0, .int 0])), (q2_36, .inl (qc2_41, 10, .inl (fun _ => 0))), (q3_37, .inl (qc3_42, 10, .inl (fun _ => 0))), (q6_40, .inl (qc6_43, 120, .inl (fun _ => 0)))] := hD
  clear hPc hDc hKc
  refine va_putF (D := (dC, dI)) (ci := 11) (v := .ref q_31) (ty := .object "ShellHeap$Ground") (C := RX11) (T := TX11) (N := 10) hx hb hts hiX11 tyX11 tyX11_ok nmX11 hown hK hP hD hS 0 rfl rfl 3 (by decide) w__fieldLink_RX11_35_ShellHeap_ground_LShellHeap_Ground_ (fun _ h9 => h9) rfl hin rfl (by decide +kernel) rfl rfl (Nat.le_of_ble_eq_true rfl) dX11_init_49 (fun H_44 locs hP hD hS => ?_)
  have hP : va_P (dC, dI) vwCl [(h0, .inr (11, [.ref q_1, .ref q_9, .ref q_19, .ref q_31, .null, .null, .null, .null, .null, .null])), (q_1, .inr (10, [.ref q0_6, .int 0, .int 0, .int 0, .int 0, .int 0, .int 0, .int 0, .int (-1), .int 0, .int (-1)])), (q0_6, .inl (qc0_7, 700, .inl (fun _ => 0))), (q_9, .inr (0, [.ref q0_14, .ref q1_15, .ref q2_16, .ref q3_17, .int 0, .int 0])), (q_19, .inr (4, [.ref q_9, .int (-1), .int (-1), .ref q3_24, .ref q4_25, .ref q5_26, .ref q6_27, .ref q7_28, .ref q8_29, .int 0])), (q_31, .inr (2, [.int 6, .int 6, .ref q2_36, .ref q3_37, .ref q4_38, .ref q5_39, .ref q6_40, .int 0, .int 0, .int 0, .int 0])), (q2_36, .inl (qc2_41, 10, .inl (fun _ => 0))), (q3_37, .inl (qc3_42, 10, .inl (fun _ => 0))), (q6_40, .inl (qc6_43, 120, .inl (fun _ => 0)))] H_44 := hP
  have hD : va_D A [(h0, .inr (11, [.ref q_1, .ref q_9, .ref q_19, .ref q_31, .null, .null, .null, .null, .null, .null])), (q_1, .inr (10, [.ref q0_6, .int 0, .int 0, .int 0, .int 0, .int 0, .int 0, .int 0, .int (-1), .int 0, .int (-1)])), (q0_6, .inl (qc0_7, 700, .inl (fun _ => 0))), (q_9, .inr (0, [.ref q0_14, .ref q1_15, .ref q2_16, .ref q3_17, .int 0, .int 0])), (q_19, .inr (4, [.ref q_9, .int (-1), .int (-1), .ref q3_24, .ref q4_25, .ref q5_26, .ref q6_27, .ref q7_28, .ref q8_29, .int 0])), (q_31, .inr (2, [.int 6, .int 6, .ref q2_36, .ref q3_37, .ref q4_38, .ref q5_39, .ref q6_40, .int 0, .int 0, .int 0, .int 0])), (q2_36, .inl (qc2_41, 10, .inl (fun _ => 0))), (q3_37, .inl (qc3_42, 10, .inl (fun _ => 0))), (q6_40, .inl (qc6_43, 120, .inl (fun _ => 0)))] := hD
  refine lv_aload_n hx hb dX11_init_52 rfl (lv_at hl 0 rfl) ?_
  refine va_new (ci := 5) (fs := [.null, .null, .null, .null, .null, .null, .null, .long 0, .long 0, .int 0]) (C := RX5) (T := TX5) (N := 10) hx hb hts hiX5 tyX5 tyX5_ok hown w__classLink_RX11_39_RX5 w__instantiable_RX5_10 w__initialized_RX5 hK hP hD hS hA rfl (fun j hj => match j, hj with | 0, _ => rfl | 1, _ => rfl | 2, _ => rfl | 3, _ => rfl | 4, _ => rfl | 5, _ => rfl | 6, _ => rfl | 7, _ => rfl | 8, _ => rfl | 9, _ => rfl | k + 10, h => absurd h (by omega)) (Nat.le_of_ble_eq_true rfl) (Nat.le_of_ble_eq_true rfl) dX11_init_53 (fun q_45 H_46 hP hD hS => ?_)
  have hP : va_P (dC, dI) vwCl [(h0, .inr (11, [.ref q_1, .ref q_9, .ref q_19, .ref q_31, .null, .null, .null, .null, .null, .null])), (q_1, .inr (10, [.ref q0_6, .int 0, .int 0, .int 0, .int 0, .int 0, .int 0, .int 0, .int (-1), .int 0, .int (-1)])), (q0_6, .inl (qc0_7, 700, .inl (fun _ => 0))), (q_9, .inr (0, [.ref q0_14, .ref q1_15, .ref q2_16, .ref q3_17, .int 0, .int 0])), (q_19, .inr (4, [.ref q_9, .int (-1), .int (-1), .ref q3_24, .ref q4_25, .ref q5_26, .ref q6_27, .ref q7_28, .ref q8_29, .int 0])), (q_31, .inr (2, [.int 6, .int 6, .ref q2_36, .ref q3_37, .ref q4_38, .ref q5_39, .ref q6_40, .int 0, .int 0, .int 0, .int 0])), (q2_36, .inl (qc2_41, 10, .inl (fun _ => 0))), (q3_37, .inl (qc3_42, 10, .inl (fun _ => 0))), (q6_40, .inl (qc6_43, 120, .inl (fun _ => 0))), (q_45, .inr (5, [.null, .null, .null, .null, .null, .null, .null, .long 0, .long 0, .int 0]))] H_46 := hP
  have hD : va_D A [(h0, .inr (11, [.ref q_1, .ref q_9, .ref q_19, .ref q_31, .null, .null, .null, .null, .null, .null])), (q_1, .inr (10, [.ref q0_6, .int 0, .int 0, .int 0, .int 0, .int 0, .int 0, .int 0, .int (-1), .int 0, .int (-1)])), (q0_6, .inl (qc0_7, 700, .inl (fun _ => 0))), (q_9, .inr (0, [.ref q0_14, .ref q1_15, .ref q2_16, .ref q3_17, .int 0, .int 0])), (q_19, .inr (4, [.ref q_9, .int (-1), .int (-1), .ref q3_24, .ref q4_25, .ref q5_26, .ref q6_27, .ref q7_28, .ref q8_29, .int 0])), (q_31, .inr (2, [.int 6, .int 6, .ref q2_36, .ref q3_37, .ref q4_38, .ref q5_39, .ref q6_40, .int 0, .int 0, .int 0, .int 0])), (q2_36, .inl (qc2_41, 10, .inl (fun _ => 0))), (q3_37, .inl (qc3_42, 10, .inl (fun _ => 0))), (q6_40, .inl (qc6_43, 120, .inl (fun _ => 0))), (q_45, .inr (5, [.null, .null, .null, .null, .null, .null, .null, .long 0, .long 0, .int 0]))] := hD
  refine lv_dup hx hb dX11_init_56 rfl ?_
  have hPc := hP.sub (ws' := [(q_45, .inr (5, [.null, .null, .null, .null, .null, .null, .null, .long 0, .long 0, .int 0]))]) [9] rfl
  have hDc := hD.sub (ws' := [(q_45, .inr (5, [.null, .null, .null, .null, .null, .null, .null, .long 0, .long 0, .int 0]))]) [9] (by decide) rfl
  have hKc := hK.sub (tys' := []) [] rfl
  have hFc := va_free (wc := [(q_45, .inr (5, [.null, .null, .null, .null, .null, .null, .null, .long 0, .long 0, .int 0]))]) hD hS hA [9] rfl
  refine va_callv (va_runIN (As := []) (rest := [.ref q_45, .ref h0]) ⟨hx, hb, hml, hown, hts⟩ (c_X5_init l dC dI H_46.size q_45) ⟨va_cnB 0 hts gw_c_X11_init_c_X5_init_41 rfl rfl rfl (hNW (RX11, 41, yX5_init) (by decide +kernel)) w__initialized_RX5 (by decide +kernel) ⟨Nat.le_of_ble_eq_true rfl, Nat.le_of_ble_eq_true rfl⟩, rfl, w__instanceMethod_yX5_init⟩ ⟨z_blind, z_pre hPc hKc hDc⟩ rfl rfl hl.1 rfl (lv_room (Nat.le_of_ble_eq_true rfl)) dX11_init_57 ⟨Nat.le_of_ble_eq_true rfl, Nat.le_of_ble_eq_true rfl⟩) hS (fun q _ h => hFc q h) hFc (fun u t H_47 locs ht hvm hw_49 hB hz1 hk1 hS => ?_)
  obtain ⟨q0_50, q1_51, q2_52, q3_53, q4_54, q5_55, q6_56, qc0_57, qc1_58, qc4_59, hP1, hK1, hD1⟩ := hB
  rw [ht] at hP1
  have hK1 := va_K.moved hvm.symm hK1
  obtain ⟨hP, hD⟩ := va_join (wr := [(h0, .inr (11, [.ref q_1, .ref q_9, .ref q_19, .ref q_31, .null, .null, .null, .null, .null, .null])), (q_1, .inr (10, [.ref q0_6, .int 0, .int 0, .int 0, .int 0, .int 0, .int 0, .int 0, .int (-1), .int 0, .int (-1)])), (q0_6, .inl (qc0_7, 700, .inl (fun _ => 0))), (q_9, .inr (0, [.ref q0_14, .ref q1_15, .ref q2_16, .ref q3_17, .int 0, .int 0])), (q_19, .inr (4, [.ref q_9, .int (-1), .int (-1), .ref q3_24, .ref q4_25, .ref q5_26, .ref q6_27, .ref q7_28, .ref q8_29, .int 0])), (q_31, .inr (2, [.int 6, .int 6, .ref q2_36, .ref q3_37, .ref q4_38, .ref q5_39, .ref q6_40, .int 0, .int 0, .int 0, .int 0])), (q2_36, .inl (qc2_41, 10, .inl (fun _ => 0))), (q3_37, .inl (qc3_42, 10, .inl (fun _ => 0))), (q6_40, .inl (qc6_43, 120, .inl (fun _ => 0)))]) (w1 := [(q_45, .inr (5, [.ref q0_50, .ref q1_51, .ref q2_52, .ref q3_53, .ref q4_54, .ref q5_55, .ref q6_56, .long 0, .long 0, .int 0])), (q0_50, .inl (qc0_57, 6, .inl (fun _ => 0))), (q1_51, .inl (qc1_58, 6, .inl (fun _ => 0))), (q4_54, .inl (qc4_59, 24, .inl (fun _ => 0)))]) hP hD [9] [0, 1, 2, 3, 4, 5, 6, 7, 8] rfl rfl (by decide) (by decide) hk1 hFc hP1 hD1
  have hK := hK.app hK1
  have hK : va_K (dC, dI) vwCl [(qc0_7, .int), (qc2_41, .int), (qc3_42, .int), (qc6_43, .int), (qc0_57, .int), (qc1_58, .int), (qc4_59, .int)] s := hK
  have hP : va_P (dC, dI) vwCl [(h0, .inr (11, [.ref q_1, .ref q_9, .ref q_19, .ref q_31, .null, .null, .null, .null, .null, .null])), (q_1, .inr (10, [.ref q0_6, .int 0, .int 0, .int 0, .int 0, .int 0, .int 0, .int 0, .int (-1), .int 0, .int (-1)])), (q0_6, .inl (qc0_7, 700, .inl (fun _ => 0))), (q_9, .inr (0, [.ref q0_14, .ref q1_15, .ref q2_16, .ref q3_17, .int 0, .int 0])), (q_19, .inr (4, [.ref q_9, .int (-1), .int (-1), .ref q3_24, .ref q4_25, .ref q5_26, .ref q6_27, .ref q7_28, .ref q8_29, .int 0])), (q_31, .inr (2, [.int 6, .int 6, .ref q2_36, .ref q3_37, .ref q4_38, .ref q5_39, .ref q6_40, .int 0, .int 0, .int 0, .int 0])), (q2_36, .inl (qc2_41, 10, .inl (fun _ => 0))), (q3_37, .inl (qc3_42, 10, .inl (fun _ => 0))), (q6_40, .inl (qc6_43, 120, .inl (fun _ => 0))), (q_45, .inr (5, [.ref q0_50, .ref q1_51, .ref q2_52, .ref q3_53, .ref q4_54, .ref q5_55, .ref q6_56, .long 0, .long 0, .int 0])), (q0_50, .inl (qc0_57, 6, .inl (fun _ => 0))), (q1_51, .inl (qc1_58, 6, .inl (fun _ => 0))), (q4_54, .inl (qc4_59, 24, .inl (fun _ => 0)))] H_47 := hP
  have hD : va_D A [(h0, .inr (11, [.ref q_1, .ref q_9, .ref q_19, .ref q_31, .null, .null, .null, .null, .null, .null])), (q_1, .inr (10, [.ref q0_6, .int 0, .int 0, .int 0, .int 0, .int 0, .int 0, .int 0, .int (-1), .int 0, .int (-1)])), (q0_6, .inl (qc0_7, 700, .inl (fun _ => 0))), (q_9, .inr (0, [.ref q0_14, .ref q1_15, .ref q2_16, .ref q3_17, .int 0, .int 0])), (q_19, .inr (4, [.ref q_9, .int (-1), .int (-1), .ref q3_24, .ref q4_25, .ref q5_26, .ref q6_27, .ref q7_28, .ref q8_29, .int 0])), (q_31, .inr (2, [.int 6, .int 6, .ref q2_36, .ref q3_37, .ref q4_38, .ref q5_39, .ref q6_40, .int 0, .int 0, .int 0, .int 0])), (q2_36, .inl (qc2_41, 10, .inl (fun _ => 0))), (q3_37, .inl (qc3_42, 10, .inl (fun _ => 0))), (q6_40, .inl (qc6_43, 120, .inl (fun _ => 0))), (q_45, .inr (5, [.ref q0_50, .ref q1_51, .ref q2_52, .ref q3_53, .ref q4_54, .ref q5_55, .ref q6_56, .long 0, .long 0, .int 0])), (q0_50, .inl (qc0_57, 6, .inl (fun _ => 0))), (q1_51, .inl (qc1_58, 6, .inl (fun _ => 0))), (q4_54, .inl (qc4_59, 24, .inl (fun _ => 0)))] := hD
  clear hPc hDc hKc
  refine va_putF (D := (dC, dI)) (ci := 11) (v := .ref q_45) (ty := .object "ShellHeap$Pantry") (C := RX11) (T := TX11) (N := 10) hx hb hts hiX11 tyX11 tyX11_ok nmX11 hown hK hP hD hS 0 rfl rfl 4 (by decide) w__fieldLink_RX11_42_ShellHeap_pantry_LShellHeap_Pantry_ (fun _ h9 => h9) rfl hin rfl (by decide +kernel) rfl rfl (Nat.le_of_ble_eq_true rfl) dX11_init_60 (fun H_60 locs hP hD hS => ?_)
  have hP : va_P (dC, dI) vwCl [(h0, .inr (11, [.ref q_1, .ref q_9, .ref q_19, .ref q_31, .ref q_45, .null, .null, .null, .null, .null])), (q_1, .inr (10, [.ref q0_6, .int 0, .int 0, .int 0, .int 0, .int 0, .int 0, .int 0, .int (-1), .int 0, .int (-1)])), (q0_6, .inl (qc0_7, 700, .inl (fun _ => 0))), (q_9, .inr (0, [.ref q0_14, .ref q1_15, .ref q2_16, .ref q3_17, .int 0, .int 0])), (q_19, .inr (4, [.ref q_9, .int (-1), .int (-1), .ref q3_24, .ref q4_25, .ref q5_26, .ref q6_27, .ref q7_28, .ref q8_29, .int 0])), (q_31, .inr (2, [.int 6, .int 6, .ref q2_36, .ref q3_37, .ref q4_38, .ref q5_39, .ref q6_40, .int 0, .int 0, .int 0, .int 0])), (q2_36, .inl (qc2_41, 10, .inl (fun _ => 0))), (q3_37, .inl (qc3_42, 10, .inl (fun _ => 0))), (q6_40, .inl (qc6_43, 120, .inl (fun _ => 0))), (q_45, .inr (5, [.ref q0_50, .ref q1_51, .ref q2_52, .ref q3_53, .ref q4_54, .ref q5_55, .ref q6_56, .long 0, .long 0, .int 0])), (q0_50, .inl (qc0_57, 6, .inl (fun _ => 0))), (q1_51, .inl (qc1_58, 6, .inl (fun _ => 0))), (q4_54, .inl (qc4_59, 24, .inl (fun _ => 0)))] H_60 := hP
  have hD : va_D A [(h0, .inr (11, [.ref q_1, .ref q_9, .ref q_19, .ref q_31, .ref q_45, .null, .null, .null, .null, .null])), (q_1, .inr (10, [.ref q0_6, .int 0, .int 0, .int 0, .int 0, .int 0, .int 0, .int 0, .int (-1), .int 0, .int (-1)])), (q0_6, .inl (qc0_7, 700, .inl (fun _ => 0))), (q_9, .inr (0, [.ref q0_14, .ref q1_15, .ref q2_16, .ref q3_17, .int 0, .int 0])), (q_19, .inr (4, [.ref q_9, .int (-1), .int (-1), .ref q3_24, .ref q4_25, .ref q5_26, .ref q6_27, .ref q7_28, .ref q8_29, .int 0])), (q_31, .inr (2, [.int 6, .int 6, .ref q2_36, .ref q3_37, .ref q4_38, .ref q5_39, .ref q6_40, .int 0, .int 0, .int 0, .int 0])), (q2_36, .inl (qc2_41, 10, .inl (fun _ => 0))), (q3_37, .inl (qc3_42, 10, .inl (fun _ => 0))), (q6_40, .inl (qc6_43, 120, .inl (fun _ => 0))), (q_45, .inr (5, [.ref q0_50, .ref q1_51, .ref q2_52, .ref q3_53, .ref q4_54, .ref q5_55, .ref q6_56, .long 0, .long 0, .int 0])), (q0_50, .inl (qc0_57, 6, .inl (fun _ => 0))), (q1_51, .inl (qc1_58, 6, .inl (fun _ => 0))), (q4_54, .inl (qc4_59, 24, .inl (fun _ => 0)))] := hD
  refine lv_aload_n hx hb dX11_init_63 rfl (lv_at hl 0 rfl) ?_
  refine va_new (ci := 6) (fs := [.null, .null, .null, .null, .null, .null, .int 0]) (C := RX6) (T := TX6) (N := 7) hx hb hts hiX6 tyX6 tyX6_ok hown w__classLink_RX11_46_RX6 w__instantiable_RX6_7 w__initialized_RX6 hK hP hD hS hA rfl (fun j hj => match j, hj with | 0, _ => rfl | 1, _ => rfl | 2, _ => rfl | 3, _ => rfl | 4, _ => rfl | 5, _ => rfl | 6, _ => rfl | k + 7, h => absurd h (by omega)) (Nat.le_of_ble_eq_true rfl) (Nat.le_of_ble_eq_true rfl) dX11_init_64 (fun q_61 H_62 hP hD hS => ?_)
  have hP : va_P (dC, dI) vwCl [(h0, .inr (11, [.ref q_1, .ref q_9, .ref q_19, .ref q_31, .ref q_45, .null, .null, .null, .null, .null])), (q_1, .inr (10, [.ref q0_6, .int 0, .int 0, .int 0, .int 0, .int 0, .int 0, .int 0, .int (-1), .int 0, .int (-1)])), (q0_6, .inl (qc0_7, 700, .inl (fun _ => 0))), (q_9, .inr (0, [.ref q0_14, .ref q1_15, .ref q2_16, .ref q3_17, .int 0, .int 0])), (q_19, .inr (4, [.ref q_9, .int (-1), .int (-1), .ref q3_24, .ref q4_25, .ref q5_26, .ref q6_27, .ref q7_28, .ref q8_29, .int 0])), (q_31, .inr (2, [.int 6, .int 6, .ref q2_36, .ref q3_37, .ref q4_38, .ref q5_39, .ref q6_40, .int 0, .int 0, .int 0, .int 0])), (q2_36, .inl (qc2_41, 10, .inl (fun _ => 0))), (q3_37, .inl (qc3_42, 10, .inl (fun _ => 0))), (q6_40, .inl (qc6_43, 120, .inl (fun _ => 0))), (q_45, .inr (5, [.ref q0_50, .ref q1_51, .ref q2_52, .ref q3_53, .ref q4_54, .ref q5_55, .ref q6_56, .long 0, .long 0, .int 0])), (q0_50, .inl (qc0_57, 6, .inl (fun _ => 0))), (q1_51, .inl (qc1_58, 6, .inl (fun _ => 0))), (q4_54, .inl (qc4_59, 24, .inl (fun _ => 0))), (q_61, .inr (6, [.null, .null, .null, .null, .null, .null, .int 0]))] H_62 := hP
  have hD : va_D A [(h0, .inr (11, [.ref q_1, .ref q_9, .ref q_19, .ref q_31, .ref q_45, .null, .null, .null, .null, .null])), (q_1, .inr (10, [.ref q0_6, .int 0, .int 0, .int 0, .int 0, .int 0, .int 0, .int 0, .int (-1), .int 0, .int (-1)])), (q0_6, .inl (qc0_7, 700, .inl (fun _ => 0))), (q_9, .inr (0, [.ref q0_14, .ref q1_15, .ref q2_16, .ref q3_17, .int 0, .int 0])), (q_19, .inr (4, [.ref q_9, .int (-1), .int (-1), .ref q3_24, .ref q4_25, .ref q5_26, .ref q6_27, .ref q7_28, .ref q8_29, .int 0])), (q_31, .inr (2, [.int 6, .int 6, .ref q2_36, .ref q3_37, .ref q4_38, .ref q5_39, .ref q6_40, .int 0, .int 0, .int 0, .int 0])), (q2_36, .inl (qc2_41, 10, .inl (fun _ => 0))), (q3_37, .inl (qc3_42, 10, .inl (fun _ => 0))), (q6_40, .inl (qc6_43, 120, .inl (fun _ => 0))), (q_45, .inr (5, [.ref q0_50, .ref q1_51, .ref q2_52, .ref q3_53, .ref q4_54, .ref q5_55, .ref q6_56, .long 0, .long 0, .int 0])), (q0_50, .inl (qc0_57, 6, .inl (fun _ => 0))), (q1_51, .inl (qc1_58, 6, .inl (fun _ => 0))), (q4_54, .inl (qc4_59, 24, .inl (fun _ => 0))), (q_61, .inr (6, [.null, .null, .null, .null, .null, .null, .int 0]))] := hD
  refine lv_dup hx hb dX11_init_67 rfl ?_
  have hPc := hP.sub (ws' := [(q_61, .inr (6, [.null, .null, .null, .null, .null, .null, .int 0]))]) [13] rfl
  have hDc := hD.sub (ws' := [(q_61, .inr (6, [.null, .null, .null, .null, .null, .null, .int 0]))]) [13] (by decide) rfl
  have hKc := hK.sub (tys' := []) [] rfl
  have hFc := va_free (wc := [(q_61, .inr (6, [.null, .null, .null, .null, .null, .null, .int 0]))]) hD hS hA [13] rfl
  refine va_callv (va_runI (As := []) (rest := [.ref q_61, .ref h0]) ⟨hx, hb, hml, hown, hts⟩ (c_X6_init l dC dI H_62.size q_61) (cwI 0 hts gw_c_X11_init_c_X6_init_48 rfl rfl rfl w__initialized_RX6 w__methodLink_RX11_48_yX6_init w__instanceMethod_yX6_init rfl (by decide +kernel) ⟨Nat.le_of_ble_eq_true rfl, Nat.le_of_ble_eq_true rfl⟩) ⟨z_blind, z_pre hPc hKc hDc⟩ rfl rfl hl.1 rfl (lv_room (Nat.le_of_ble_eq_true rfl)) dX11_init_68 ⟨Nat.le_of_ble_eq_true rfl, Nat.le_of_ble_eq_true rfl⟩) hS (fun q _ h => hFc q h) hFc (fun u t H_63 locs ht hvm hw_65 hB hz1 hk1 hS => ?_)
  obtain ⟨q0_66, q1_67, q2_68, q3_69, q4_70, q5_71, qc0_72, g_73, hP1, hK1, hD1⟩ := hB
  rw [ht] at hP1
  have hK1 := va_K.moved hvm.symm hK1
  obtain ⟨hP, hD⟩ := va_join (wr := [(h0, .inr (11, [.ref q_1, .ref q_9, .ref q_19, .ref q_31, .ref q_45, .null, .null, .null, .null, .null])), (q_1, .inr (10, [.ref q0_6, .int 0, .int 0, .int 0, .int 0, .int 0, .int 0, .int 0, .int (-1), .int 0, .int (-1)])), (q0_6, .inl (qc0_7, 700, .inl (fun _ => 0))), (q_9, .inr (0, [.ref q0_14, .ref q1_15, .ref q2_16, .ref q3_17, .int 0, .int 0])), (q_19, .inr (4, [.ref q_9, .int (-1), .int (-1), .ref q3_24, .ref q4_25, .ref q5_26, .ref q6_27, .ref q7_28, .ref q8_29, .int 0])), (q_31, .inr (2, [.int 6, .int 6, .ref q2_36, .ref q3_37, .ref q4_38, .ref q5_39, .ref q6_40, .int 0, .int 0, .int 0, .int 0])), (q2_36, .inl (qc2_41, 10, .inl (fun _ => 0))), (q3_37, .inl (qc3_42, 10, .inl (fun _ => 0))), (q6_40, .inl (qc6_43, 120, .inl (fun _ => 0))), (q_45, .inr (5, [.ref q0_50, .ref q1_51, .ref q2_52, .ref q3_53, .ref q4_54, .ref q5_55, .ref q6_56, .long 0, .long 0, .int 0])), (q0_50, .inl (qc0_57, 6, .inl (fun _ => 0))), (q1_51, .inl (qc1_58, 6, .inl (fun _ => 0))), (q4_54, .inl (qc4_59, 24, .inl (fun _ => 0)))]) (w1 := [(q_61, .inr (6, [.ref q0_66, .ref q1_67, .ref q2_68, .ref q3_69, .ref q4_70, .ref q5_71, .int (-1)])), (q0_66, .inl (qc0_72, 48, .inl g_73))]) hP hD [13] [0, 1, 2, 3, 4, 5, 6, 7, 8, 9, 10, 11, 12] rfl rfl (by decide) (by decide) hk1 hFc hP1 hD1
  have hK := hK.app hK1
  have hK : va_K (dC, dI) vwCl [(qc0_7, .int), (qc2_41, .int), (qc3_42, .int), (qc6_43, .int), (qc0_57, .int), (qc1_58, .int), (qc4_59, .int), (qc0_72, .int)] s := hK
  have hP : va_P (dC, dI) vwCl [(h0, .inr (11, [.ref q_1, .ref q_9, .ref q_19, .ref q_31, .ref q_45, .null, .null, .null, .null, .null])), (q_1, .inr (10, [.ref q0_6, .int 0, .int 0, .int 0, .int 0, .int 0, .int 0, .int 0, .int (-1), .int 0, .int (-1)])), (q0_6, .inl (qc0_7, 700, .inl (fun _ => 0))), (q_9, .inr (0, [.ref q0_14, .ref q1_15, .ref q2_16, .ref q3_17, .int 0, .int 0])), (q_19, .inr (4, [.ref q_9, .int (-1), .int (-1), .ref q3_24, .ref q4_25, .ref q5_26, .ref q6_27, .ref q7_28, .ref q8_29, .int 0])), (q_31, .inr (2, [.int 6, .int 6, .ref q2_36, .ref q3_37, .ref q4_38, .ref q5_39, .ref q6_40, .int 0, .int 0, .int 0, .int 0])), (q2_36, .inl (qc2_41, 10, .inl (fun _ => 0))), (q3_37, .inl (qc3_42, 10, .inl (fun _ => 0))), (q6_40, .inl (qc6_43, 120, .inl (fun _ => 0))), (q_45, .inr (5, [.ref q0_50, .ref q1_51, .ref q2_52, .ref q3_53, .ref q4_54, .ref q5_55, .ref q6_56, .long 0, .long 0, .int 0])), (q0_50, .inl (qc0_57, 6, .inl (fun _ => 0))), (q1_51, .inl (qc1_58, 6, .inl (fun _ => 0))), (q4_54, .inl (qc4_59, 24, .inl (fun _ => 0))), (q_61, .inr (6, [.ref q0_66, .ref q1_67, .ref q2_68, .ref q3_69, .ref q4_70, .ref q5_71, .int (-1)])), (q0_66, .inl (qc0_72, 48, .inl g_73))] H_63 := hP
  have hD : va_D A [(h0, .inr (11, [.ref q_1, .ref q_9, .ref q_19, .ref q_31, .ref q_45, .null, .null, .null, .null, .null])), (q_1, .inr (10, [.ref q0_6, .int 0, .int 0, .int 0, .int 0, .int 0, .int 0, .int 0, .int (-1), .int 0, .int (-1)])), (q0_6, .inl (qc0_7, 700, .inl (fun _ => 0))), (q_9, .inr (0, [.ref q0_14, .ref q1_15, .ref q2_16, .ref q3_17, .int 0, .int 0])), (q_19, .inr (4, [.ref q_9, .int (-1), .int (-1), .ref q3_24, .ref q4_25, .ref q5_26, .ref q6_27, .ref q7_28, .ref q8_29, .int 0])), (q_31, .inr (2, [.int 6, .int 6, .ref q2_36, .ref q3_37, .ref q4_38, .ref q5_39, .ref q6_40, .int 0, .int 0, .int 0, .int 0])), (q2_36, .inl (qc2_41, 10, .inl (fun _ => 0))), (q3_37, .inl (qc3_42, 10, .inl (fun _ => 0))), (q6_40, .inl (qc6_43, 120, .inl (fun _ => 0))), (q_45, .inr (5, [.ref q0_50, .ref q1_51, .ref q2_52, .ref q3_53, .ref q4_54, .ref q5_55, .ref q6_56, .long 0, .long 0, .int 0])), (q0_50, .inl (qc0_57, 6, .inl (fun _ => 0))), (q1_51, .inl (qc1_58, 6, .inl (fun _ => 0))), (q4_54, .inl (qc4_59, 24, .inl (fun _ => 0))), (q_61, .inr (6, [.ref q0_66, .ref q1_67, .ref q2_68, .ref q3_69, .ref q4_70, .ref q5_71, .int (-1)])), (q0_66, .inl (qc0_72, 48, .inl g_73))] := hD
  clear hPc hDc hKc
  refine va_putF (D := (dC, dI)) (ci := 11) (v := .ref q_61) (ty := .object "ShellHeap$Readers") (C := RX11) (T := TX11) (N := 10) hx hb hts hiX11 tyX11 tyX11_ok nmX11 hown hK hP hD hS 0 rfl rfl 5 (by decide) w__fieldLink_RX11_49_ShellHeap_readers_LShellHeap_Readers_ (fun _ h9 => h9) rfl hin rfl (by decide +kernel) rfl rfl (Nat.le_of_ble_eq_true rfl) dX11_init_71 (fun H_74 locs hP hD hS => ?_)
  have hP : va_P (dC, dI) vwCl [(h0, .inr (11, [.ref q_1, .ref q_9, .ref q_19, .ref q_31, .ref q_45, .ref q_61, .null, .null, .null, .null])), (q_1, .inr (10, [.ref q0_6, .int 0, .int 0, .int 0, .int 0, .int 0, .int 0, .int 0, .int (-1), .int 0, .int (-1)])), (q0_6, .inl (qc0_7, 700, .inl (fun _ => 0))), (q_9, .inr (0, [.ref q0_14, .ref q1_15, .ref q2_16, .ref q3_17, .int 0, .int 0])), (q_19, .inr (4, [.ref q_9, .int (-1), .int (-1), .ref q3_24, .ref q4_25, .ref q5_26, .ref q6_27, .ref q7_28, .ref q8_29, .int 0])), (q_31, .inr (2, [.int 6, .int 6, .ref q2_36, .ref q3_37, .ref q4_38, .ref q5_39, .ref q6_40, .int 0, .int 0, .int 0, .int 0])), (q2_36, .inl (qc2_41, 10, .inl (fun _ => 0))), (q3_37, .inl (qc3_42, 10, .inl (fun _ => 0))), (q6_40, .inl (qc6_43, 120, .inl (fun _ => 0))), (q_45, .inr (5, [.ref q0_50, .ref q1_51, .ref q2_52, .ref q3_53, .ref q4_54, .ref q5_55, .ref q6_56, .long 0, .long 0, .int 0])), (q0_50, .inl (qc0_57, 6, .inl (fun _ => 0))), (q1_51, .inl (qc1_58, 6, .inl (fun _ => 0))), (q4_54, .inl (qc4_59, 24, .inl (fun _ => 0))), (q_61, .inr (6, [.ref q0_66, .ref q1_67, .ref q2_68, .ref q3_69, .ref q4_70, .ref q5_71, .int (-1)])), (q0_66, .inl (qc0_72, 48, .inl g_73))] H_74 := hP
  have hD : va_D A [(h0, .inr (11, [.ref q_1, .ref q_9, .ref q_19, .ref q_31, .ref q_45, .ref q_61, .null, .null, .null, .null])), (q_1, .inr (10, [.ref q0_6, .int 0, .int 0, .int 0, .int 0, .int 0, .int 0, .int 0, .int (-1), .int 0, .int (-1)])), (q0_6, .inl (qc0_7, 700, .inl (fun _ => 0))), (q_9, .inr (0, [.ref q0_14, .ref q1_15, .ref q2_16, .ref q3_17, .int 0, .int 0])), (q_19, .inr (4, [.ref q_9, .int (-1), .int (-1), .ref q3_24, .ref q4_25, .ref q5_26, .ref q6_27, .ref q7_28, .ref q8_29, .int 0])), (q_31, .inr (2, [.int 6, .int 6, .ref q2_36, .ref q3_37, .ref q4_38, .ref q5_39, .ref q6_40, .int 0, .int 0, .int 0, .int 0])), (q2_36, .inl (qc2_41, 10, .inl (fun _ => 0))), (q3_37, .inl (qc3_42, 10, .inl (fun _ => 0))), (q6_40, .inl (qc6_43, 120, .inl (fun _ => 0))), (q_45, .inr (5, [.ref q0_50, .ref q1_51, .ref q2_52, .ref q3_53, .ref q4_54, .ref q5_55, .ref q6_56, .long 0, .long 0, .int 0])), (q0_50, .inl (qc0_57, 6, .inl (fun _ => 0))), (q1_51, .inl (qc1_58, 6, .inl (fun _ => 0))), (q4_54, .inl (qc4_59, 24, .inl (fun _ => 0))), (q_61, .inr (6, [.ref q0_66, .ref q1_67, .ref q2_68, .ref q3_69, .ref q4_70, .ref q5_71, .int (-1)])), (q0_66, .inl (qc0_72, 48, .inl g_73))] := hD
  refine lv_aload_n hx hb dX11_init_74 rfl (lv_at hl 0 rfl) ?_
  refine va_new (ci := 9) (fs := [.null, .null, .null, .int 0]) (C := RX9) (T := TX9) (N := 4) hx hb hts hiX9 tyX9 tyX9_ok hown w__classLink_RX11_53_RX9 w__instantiable_RX9_4 w__initialized_RX9 hK hP hD hS hA rfl (fun j hj => match j, hj with | 0, _ => rfl | 1, _ => rfl | 2, _ => rfl | 3, _ => rfl | k + 4, h => absurd h (by omega)) (Nat.le_of_ble_eq_true rfl) (Nat.le_of_ble_eq_true rfl) dX11_init_75 (fun q_75 H_76 hP hD hS => ?_)
  have hP : va_P (dC, dI) vwCl [(h0, .inr (11, [.ref q_1, .ref q_9, .ref q_19, .ref q_31, .ref q_45, .ref q_61, .null, .null, .null, .null])), (q_1, .inr (10, [.ref q0_6, .int 0, .int 0, .int 0, .int 0, .int 0, .int 0, .int 0, .int (-1), .int 0, .int (-1)])), (q0_6, .inl (qc0_7, 700, .inl (fun _ => 0))), (q_9, .inr (0, [.ref q0_14, .ref q1_15, .ref q2_16, .ref q3_17, .int 0, .int 0])), (q_19, .inr (4, [.ref q_9, .int (-1), .int (-1), .ref q3_24, .ref q4_25, .ref q5_26, .ref q6_27, .ref q7_28, .ref q8_29, .int 0])), (q_31, .inr (2, [.int 6, .int 6, .ref q2_36, .ref q3_37, .ref q4_38, .ref q5_39, .ref q6_40, .int 0, .int 0, .int 0, .int 0])), (q2_36, .inl (qc2_41, 10, .inl (fun _ => 0))), (q3_37, .inl (qc3_42, 10, .inl (fun _ => 0))), (q6_40, .inl (qc6_43, 120, .inl (fun _ => 0))), (q_45, .inr (5, [.ref q0_50, .ref q1_51, .ref q2_52, .ref q3_53, .ref q4_54, .ref q5_55, .ref q6_56, .long 0, .long 0, .int 0])), (q0_50, .inl (qc0_57, 6, .inl (fun _ => 0))), (q1_51, .inl (qc1_58, 6, .inl (fun _ => 0))), (q4_54, .inl (qc4_59, 24, .inl (fun _ => 0))), (q_61, .inr (6, [.ref q0_66, .ref q1_67, .ref q2_68, .ref q3_69, .ref q4_70, .ref q5_71, .int (-1)])), (q0_66, .inl (qc0_72, 48, .inl g_73)), (q_75, .inr (9, [.null, .null, .null, .int 0]))] H_76 := hP
  have hD : va_D A [(h0, .inr (11, [.ref q_1, .ref q_9, .ref q_19, .ref q_31, .ref q_45, .ref q_61, .null, .null, .null, .null])), (q_1, .inr (10, [.ref q0_6, .int 0, .int 0, .int 0, .int 0, .int 0, .int 0, .int 0, .int (-1), .int 0, .int (-1)])), (q0_6, .inl (qc0_7, 700, .inl (fun _ => 0))), (q_9, .inr (0, [.ref q0_14, .ref q1_15, .ref q2_16, .ref q3_17, .int 0, .int 0])), (q_19, .inr (4, [.ref q_9, .int (-1), .int (-1), .ref q3_24, .ref q4_25, .ref q5_26, .ref q6_27, .ref q7_28, .ref q8_29, .int 0])), (q_31, .inr (2, [.int 6, .int 6, .ref q2_36, .ref q3_37, .ref q4_38, .ref q5_39, .ref q6_40, .int 0, .int 0, .int 0, .int 0])), (q2_36, .inl (qc2_41, 10, .inl (fun _ => 0))), (q3_37, .inl (qc3_42, 10, .inl (fun _ => 0))), (q6_40, .inl (qc6_43, 120, .inl (fun _ => 0))), (q_45, .inr (5, [.ref q0_50, .ref q1_51, .ref q2_52, .ref q3_53, .ref q4_54, .ref q5_55, .ref q6_56, .long 0, .long 0, .int 0])), (q0_50, .inl (qc0_57, 6, .inl (fun _ => 0))), (q1_51, .inl (qc1_58, 6, .inl (fun _ => 0))), (q4_54, .inl (qc4_59, 24, .inl (fun _ => 0))), (q_61, .inr (6, [.ref q0_66, .ref q1_67, .ref q2_68, .ref q3_69, .ref q4_70, .ref q5_71, .int (-1)])), (q0_66, .inl (qc0_72, 48, .inl g_73)), (q_75, .inr (9, [.null, .null, .null, .int 0]))] := hD
  refine lv_dup hx hb dX11_init_78 rfl ?_
  have hPc := hP.sub (ws' := [(q_75, .inr (9, [.null, .null, .null, .int 0]))]) [15] rfl
  have hDc := hD.sub (ws' := [(q_75, .inr (9, [.null, .null, .null, .int 0]))]) [15] (by decide) rfl
  have hKc := hK.sub (tys' := []) [] rfl
  have hFc := va_free (wc := [(q_75, .inr (9, [.null, .null, .null, .int 0]))]) hD hS hA [15] rfl
  refine va_callv (va_runIN (As := []) (rest := [.ref q_75, .ref h0]) ⟨hx, hb, hml, hown, hts⟩ (c_X9_init l dC dI H_76.size q_75) ⟨va_cnB 0 hts gw_c_X11_init_c_X9_init_55 rfl rfl rfl (hNW (RX11, 55, yX9_init) (by decide +kernel)) w__initialized_RX9 (by decide +kernel) ⟨Nat.le_of_ble_eq_true rfl, Nat.le_of_ble_eq_true rfl⟩, rfl, w__instanceMethod_yX9_init⟩ ⟨z_blind, z_pre hPc hKc hDc⟩ rfl rfl hl.1 rfl (lv_room (Nat.le_of_ble_eq_true rfl)) dX11_init_79 ⟨Nat.le_of_ble_eq_true rfl, Nat.le_of_ble_eq_true rfl⟩) hS (fun q _ h => hFc q h) hFc (fun u t H_77 locs ht hvm hw_79 hB hz1 hk1 hS => ?_)
  obtain ⟨q0_80, q1_81, q2_82, hP1, hK1, hD1⟩ := hB
  rw [ht] at hP1
  have hK1 := va_K.moved hvm.symm hK1
  obtain ⟨hP, hD⟩ := va_join (wr := [(h0, .inr (11, [.ref q_1, .ref q_9, .ref q_19, .ref q_31, .ref q_45, .ref q_61, .null, .null, .null, .null])), (q_1, .inr (10, [.ref q0_6, .int 0, .int 0, .int 0, .int 0, .int 0, .int 0, .int 0, .int (-1), .int 0, .int (-1)])), (q0_6, .inl (qc0_7, 700, .inl (fun _ => 0))), (q_9, .inr (0, [.ref q0_14, .ref q1_15, .ref q2_16, .ref q3_17, .int 0, .int 0])), (q_19, .inr (4, [.ref q_9, .int (-1), .int (-1), .ref q3_24, .ref q4_25, .ref q5_26, .ref q6_27, .ref q7_28, .ref q8_29, .int 0])), (q_31, .inr (2, [.int 6, .int 6, .ref q2_36, .ref q3_37, .ref q4_38, .ref q5_39, .ref q6_40, .int 0, .int 0, .int 0, .int 0])), (q2_36, .inl (qc2_41, 10, .inl (fun _ => 0))), (q3_37, .inl (qc3_42, 10, .inl (fun _ => 0))), (q6_40, .inl (qc6_43, 120, .inl (fun _ => 0))), (q_45, .inr (5, [.ref q0_50, .ref q1_51, .ref q2_52, .ref q3_53, .ref q4_54, .ref q5_55, .ref q6_56, .long 0, .long 0, .int 0])), (q0_50, .inl (qc0_57, 6, .inl (fun _ => 0))), (q1_51, .inl (qc1_58, 6, .inl (fun _ => 0))), (q4_54, .inl (qc4_59, 24, .inl (fun _ => 0))), (q_61, .inr (6, [.ref q0_66, .ref q1_67, .ref q2_68, .ref q3_69, .ref q4_70, .ref q5_71, .int (-1)])), (q0_66, .inl (qc0_72, 48, .inl g_73))]) (w1 := [(q_75, .inr (9, [.ref q0_80, .ref q1_81, .ref q2_82, .int 0]))]) hP hD [15] [0, 1, 2, 3, 4, 5, 6, 7, 8, 9, 10, 11, 12, 13, 14] rfl rfl (by decide) (by decide) hk1 hFc hP1 hD1
  have hP : va_P (dC, dI) vwCl [(h0, .inr (11, [.ref q_1, .ref q_9, .ref q_19, .ref q_31, .ref q_45, .ref q_61, .null, .null, .null, .null])), (q_1, .inr (10, [.ref q0_6, .int 0, .int 0, .int 0, .int 0, .int 0, .int 0, .int 0, .int (-1), .int 0, .int (-1)])), (q0_6, .inl (qc0_7, 700, .inl (fun _ => 0))), (q_9, .inr (0, [.ref q0_14, .ref q1_15, .ref q2_16, .ref q3_17, .int 0, .int 0])), (q_19, .inr (4, [.ref q_9, .int (-1), .int (-1), .ref q3_24, .ref q4_25, .ref q5_26, .ref q6_27, .ref q7_28, .ref q8_29, .int 0])), (q_31, .inr (2, [.int 6, .int 6, .ref q2_36, .ref q3_37, .ref q4_38, .ref q5_39, .ref q6_40, .int 0, .int 0, .int 0, .int 0])), (q2_36, .inl (qc2_41, 10, .inl (fun _ => 0))), (q3_37, .inl (qc3_42, 10, .inl (fun _ => 0))), (q6_40, .inl (qc6_43, 120, .inl (fun _ => 0))), (q_45, .inr (5, [.ref q0_50, .ref q1_51, .ref q2_52, .ref q3_53, .ref q4_54, .ref q5_55, .ref q6_56, .long 0, .long 0, .int 0])), (q0_50, .inl (qc0_57, 6, .inl (fun _ => 0))), (q1_51, .inl (qc1_58, 6, .inl (fun _ => 0))), (q4_54, .inl (qc4_59, 24, .inl (fun _ => 0))), (q_61, .inr (6, [.ref q0_66, .ref q1_67, .ref q2_68, .ref q3_69, .ref q4_70, .ref q5_71, .int (-1)])), (q0_66, .inl (qc0_72, 48, .inl g_73)), (q_75, .inr (9, [.ref q0_80, .ref q1_81, .ref q2_82, .int 0]))] H_77 := hP
  have hD : va_D A [(h0, .inr (11, [.ref q_1, .ref q_9, .ref q_19, .ref q_31, .ref q_45, .ref q_61, .null, .null, .null, .null])), (q_1, .inr (10, [.ref q0_6, .int 0, .int 0, .int 0, .int 0, .int 0, .int 0, .int 0, .int (-1), .int 0, .int (-1)])), (q0_6, .inl (qc0_7, 700, .inl (fun _ => 0))), (q_9, .inr (0, [.ref q0_14, .ref q1_15, .ref q2_16, .ref q3_17, .int 0, .int 0])), (q_19, .inr (4, [.ref q_9, .int (-1), .int (-1), .ref q3_24, .ref q4_25, .ref q5_26, .ref q6_27, .ref q7_28, .ref q8_29, .int 0])), (q_31, .inr (2, [.int 6, .int 6, .ref q2_36, .ref q3_37, .ref q4_38, .ref q5_39, .ref q6_40, .int 0, .int 0, .int 0, .int 0])), (q2_36, .inl (qc2_41, 10, .inl (fun _ => 0))), (q3_37, .inl (qc3_42, 10, .inl (fun _ => 0))), (q6_40, .inl (qc6_43, 120, .inl (fun _ => 0))), (q_45, .inr (5, [.ref q0_50, .ref q1_51, .ref q2_52, .ref q3_53, .ref q4_54, .ref q5_55, .ref q6_56, .long 0, .long 0, .int 0])), (q0_50, .inl (qc0_57, 6, .inl (fun _ => 0))), (q1_51, .inl (qc1_58, 6, .inl (fun _ => 0))), (q4_54, .inl (qc4_59, 24, .inl (fun _ => 0))), (q_61, .inr (6, [.ref q0_66, .ref q1_67, .ref q2_68, .ref q3_69, .ref q4_70, .ref q5_71, .int (-1)])), (q0_66, .inl (qc0_72, 48, .inl g_73)), (q_75, .inr (9, [.ref q0_80, .ref q1_81, .ref q2_82, .int 0]))] := hD
  clear hPc hDc hKc
  refine va_putF (D := (dC, dI)) (ci := 11) (v := .ref q_75) (ty := .object "ShellHeap$Sizes") (C := RX11) (T := TX11) (N := 10) hx hb hts hiX11 tyX11 tyX11_ok nmX11 hown hK hP hD hS 0 rfl rfl 6 (by decide) w__fieldLink_RX11_56_ShellHeap_sizes_LShellHeap_Sizes_ (fun _ h9 => h9) rfl hin rfl (by decide +kernel) rfl rfl (Nat.le_of_ble_eq_true rfl) dX11_init_82 (fun H_83 locs hP hD hS => ?_)
  have hP : va_P (dC, dI) vwCl [(h0, .inr (11, [.ref q_1, .ref q_9, .ref q_19, .ref q_31, .ref q_45, .ref q_61, .ref q_75, .null, .null, .null])), (q_1, .inr (10, [.ref q0_6, .int 0, .int 0, .int 0, .int 0, .int 0, .int 0, .int 0, .int (-1), .int 0, .int (-1)])), (q0_6, .inl (qc0_7, 700, .inl (fun _ => 0))), (q_9, .inr (0, [.ref q0_14, .ref q1_15, .ref q2_16, .ref q3_17, .int 0, .int 0])), (q_19, .inr (4, [.ref q_9, .int (-1), .int (-1), .ref q3_24, .ref q4_25, .ref q5_26, .ref q6_27, .ref q7_28, .ref q8_29, .int 0])), (q_31, .inr (2, [.int 6, .int 6, .ref q2_36, .ref q3_37, .ref q4_38, .ref q5_39, .ref q6_40, .int 0, .int 0, .int 0, .int 0])), (q2_36, .inl (qc2_41, 10, .inl (fun _ => 0))), (q3_37, .inl (qc3_42, 10, .inl (fun _ => 0))), (q6_40, .inl (qc6_43, 120, .inl (fun _ => 0))), (q_45, .inr (5, [.ref q0_50, .ref q1_51, .ref q2_52, .ref q3_53, .ref q4_54, .ref q5_55, .ref q6_56, .long 0, .long 0, .int 0])), (q0_50, .inl (qc0_57, 6, .inl (fun _ => 0))), (q1_51, .inl (qc1_58, 6, .inl (fun _ => 0))), (q4_54, .inl (qc4_59, 24, .inl (fun _ => 0))), (q_61, .inr (6, [.ref q0_66, .ref q1_67, .ref q2_68, .ref q3_69, .ref q4_70, .ref q5_71, .int (-1)])), (q0_66, .inl (qc0_72, 48, .inl g_73)), (q_75, .inr (9, [.ref q0_80, .ref q1_81, .ref q2_82, .int 0]))] H_83 := hP
  have hD : va_D A [(h0, .inr (11, [.ref q_1, .ref q_9, .ref q_19, .ref q_31, .ref q_45, .ref q_61, .ref q_75, .null, .null, .null])), (q_1, .inr (10, [.ref q0_6, .int 0, .int 0, .int 0, .int 0, .int 0, .int 0, .int 0, .int (-1), .int 0, .int (-1)])), (q0_6, .inl (qc0_7, 700, .inl (fun _ => 0))), (q_9, .inr (0, [.ref q0_14, .ref q1_15, .ref q2_16, .ref q3_17, .int 0, .int 0])), (q_19, .inr (4, [.ref q_9, .int (-1), .int (-1), .ref q3_24, .ref q4_25, .ref q5_26, .ref q6_27, .ref q7_28, .ref q8_29, .int 0])), (q_31, .inr (2, [.int 6, .int 6, .ref q2_36, .ref q3_37, .ref q4_38, .ref q5_39, .ref q6_40, .int 0, .int 0, .int 0, .int 0])), (q2_36, .inl (qc2_41, 10, .inl (fun _ => 0))), (q3_37, .inl (qc3_42, 10, .inl (fun _ => 0))), (q6_40, .inl (qc6_43, 120, .inl (fun _ => 0))), (q_45, .inr (5, [.ref q0_50, .ref q1_51, .ref q2_52, .ref q3_53, .ref q4_54, .ref q5_55, .ref q6_56, .long 0, .long 0, .int 0])), (q0_50, .inl (qc0_57, 6, .inl (fun _ => 0))), (q1_51, .inl (qc1_58, 6, .inl (fun _ => 0))), (q4_54, .inl (qc4_59, 24, .inl (fun _ => 0))), (q_61, .inr (6, [.ref q0_66, .ref q1_67, .ref q2_68, .ref q3_69, .ref q4_70, .ref q5_71, .int (-1)])), (q0_66, .inl (qc0_72, 48, .inl g_73)), (q_75, .inr (9, [.ref q0_80, .ref q1_81, .ref q2_82, .int 0]))] := hD
  refine lv_aload_n hx hb dX11_init_85 rfl (lv_at hl 0 rfl) ?_
  refine va_new (ci := 1) (fs := [.null, .null, .int 0, .int 0, .int 0, .int 0]) (C := RX1) (T := TX1) (N := 6) hx hb hts hiX1 tyX1 tyX1_ok hown w__classLink_RX11_60_RX1 w__instantiable_RX1_6 w__initialized_RX1 hK hP hD hS hA rfl (fun j hj => match j, hj with | 0, _ => rfl | 1, _ => rfl | 2, _ => rfl | 3, _ => rfl | 4, _ => rfl | 5, _ => rfl | k + 6, h => absurd h (by omega)) (Nat.le_of_ble_eq_true rfl) (Nat.le_of_ble_eq_true rfl) dX11_init_86 (fun q_84 H_85 hP hD hS => ?_)
  have hP : va_P (dC, dI) vwCl [(h0, .inr (11, [.ref q_1, .ref q_9, .ref q_19, .ref q_31, .ref q_45, .ref q_61, .ref q_75, .null, .null, .null])), (q_1, .inr (10, [.ref q0_6, .int 0, .int 0, .int 0, .int 0, .int 0, .int 0, .int 0, .int (-1), .int 0, .int (-1)])), (q0_6, .inl (qc0_7, 700, .inl (fun _ => 0))), (q_9, .inr (0, [.ref q0_14, .ref q1_15, .ref q2_16, .ref q3_17, .int 0, .int 0])), (q_19, .inr (4, [.ref q_9, .int (-1), .int (-1), .ref q3_24, .ref q4_25, .ref q5_26, .ref q6_27, .ref q7_28, .ref q8_29, .int 0])), (q_31, .inr (2, [.int 6, .int 6, .ref q2_36, .ref q3_37, .ref q4_38, .ref q5_39, .ref q6_40, .int 0, .int 0, .int 0, .int 0])), (q2_36, .inl (qc2_41, 10, .inl (fun _ => 0))), (q3_37, .inl (qc3_42, 10, .inl (fun _ => 0))), (q6_40, .inl (qc6_43, 120, .inl (fun _ => 0))), (q_45, .inr (5, [.ref q0_50, .ref q1_51, .ref q2_52, .ref q3_53, .ref q4_54, .ref q5_55, .ref q6_56, .long 0, .long 0, .int 0])), (q0_50, .inl (qc0_57, 6, .inl (fun _ => 0))), (q1_51, .inl (qc1_58, 6, .inl (fun _ => 0))), (q4_54, .inl (qc4_59, 24, .inl (fun _ => 0))), (q_61, .inr (6, [.ref q0_66, .ref q1_67, .ref q2_68, .ref q3_69, .ref q4_70, .ref q5_71, .int (-1)])), (q0_66, .inl (qc0_72, 48, .inl g_73)), (q_75, .inr (9, [.ref q0_80, .ref q1_81, .ref q2_82, .int 0])), (q_84, .inr (1, [.null, .null, .int 0, .int 0, .int 0, .int 0]))] H_85 := hP
  have hD : va_D A [(h0, .inr (11, [.ref q_1, .ref q_9, .ref q_19, .ref q_31, .ref q_45, .ref q_61, .ref q_75, .null, .null, .null])), (q_1, .inr (10, [.ref q0_6, .int 0, .int 0, .int 0, .int 0, .int 0, .int 0, .int 0, .int (-1), .int 0, .int (-1)])), (q0_6, .inl (qc0_7, 700, .inl (fun _ => 0))), (q_9, .inr (0, [.ref q0_14, .ref q1_15, .ref q2_16, .ref q3_17, .int 0, .int 0])), (q_19, .inr (4, [.ref q_9, .int (-1), .int (-1), .ref q3_24, .ref q4_25, .ref q5_26, .ref q6_27, .ref q7_28, .ref q8_29, .int 0])), (q_31, .inr (2, [.int 6, .int 6, .ref q2_36, .ref q3_37, .ref q4_38, .ref q5_39, .ref q6_40, .int 0, .int 0, .int 0, .int 0])), (q2_36, .inl (qc2_41, 10, .inl (fun _ => 0))), (q3_37, .inl (qc3_42, 10, .inl (fun _ => 0))), (q6_40, .inl (qc6_43, 120, .inl (fun _ => 0))), (q_45, .inr (5, [.ref q0_50, .ref q1_51, .ref q2_52, .ref q3_53, .ref q4_54, .ref q5_55, .ref q6_56, .long 0, .long 0, .int 0])), (q0_50, .inl (qc0_57, 6, .inl (fun _ => 0))), (q1_51, .inl (qc1_58, 6, .inl (fun _ => 0))), (q4_54, .inl (qc4_59, 24, .inl (fun _ => 0))), (q_61, .inr (6, [.ref q0_66, .ref q1_67, .ref q2_68, .ref q3_69, .ref q4_70, .ref q5_71, .int (-1)])), (q0_66, .inl (qc0_72, 48, .inl g_73)), (q_75, .inr (9, [.ref q0_80, .ref q1_81, .ref q2_82, .int 0])), (q_84, .inr (1, [.null, .null, .int 0, .int 0, .int 0, .int 0]))] := hD
  refine lv_dup hx hb dX11_init_89 rfl ?_
  refine lv_aload_n hx hb dX11_init_90 rfl (lv_at hl 0 rfl) ?_
  refine va_get (D := (dC, dI)) (ci := 11) (v := .ref q_1) (C := RX11) (T := TX11) (N := 10) hx hb hts hiX11 hown hK hP 0 rfl rfl 0 (by decide) w__fieldLink_RX11_10_ShellHeap_tape_LShellHeap_Tape_ (fun _ h9 => h9) rfl dX11_init_91 ?_
  refine lv_aload_n hx hb dX11_init_94 rfl (lv_at hl 0 rfl) ?_
  refine va_get (D := (dC, dI)) (ci := 11) (v := .ref q_45) (C := RX11) (T := TX11) (N := 10) hx hb hts hiX11 hown hK hP 0 rfl rfl 4 (by decide) w__fieldLink_RX11_42_ShellHeap_pantry_LShellHeap_Pantry_ (fun _ h9 => h9) rfl dX11_init_95 ?_
  have hPc := hP.sub (ws' := [(q_84, .inr (1, [.null, .null, .int 0, .int 0, .int 0, .int 0]))]) [16] rfl
  have hDc := hD.sub (ws' := [(q_84, .inr (1, [.null, .null, .int 0, .int 0, .int 0, .int 0]))]) [16] (by decide) rfl
  have hKc := hK.sub (tys' := []) [] rfl
  have hFc := va_free (wc := [(q_84, .inr (1, [.null, .null, .int 0, .int 0, .int 0, .int 0]))]) hD hS hA [16] rfl
  refine va_callv (va_runI (As := [.ref q_1, .ref q_45]) (rest := [.ref q_84, .ref h0]) ⟨hx, hb, hml, hown, hts⟩ (c_X1_init l dC dI H_85.size q_84 q_1 q_45) (cwI 2 hts gw_c_X11_init_c_X1_init_62 rfl rfl rfl w__initialized_RX1 w__methodLink_RX11_62_yX1_init w__instanceMethod_yX1_init rfl (by decide +kernel) ⟨Nat.le_of_ble_eq_true rfl, Nat.le_of_ble_eq_true rfl⟩) ⟨z_blind, z_pre hPc hKc hDc⟩ rfl rfl hl.1 rfl (lv_room (Nat.le_of_ble_eq_true rfl)) dX11_init_98 ⟨Nat.le_of_ble_eq_true rfl, Nat.le_of_ble_eq_true rfl⟩) hS (fun q _ h => hFc q h) hFc (fun u t H_86 locs ht hvm hw_88 hB hz1 hk1 hS => ?_)
  obtain ⟨hP, hD⟩ := va_join (wr := [(h0, .inr (11, [.ref q_1, .ref q_9, .ref q_19, .ref q_31, .ref q_45, .ref q_61, .ref q_75, .null, .null, .null])), (q_1, .inr (10, [.ref q0_6, .int 0, .int 0, .int 0, .int 0, .int 0, .int 0, .int 0, .int (-1), .int 0, .int (-1)])), (q0_6, .inl (qc0_7, 700, .inl (fun _ => 0))), (q_9, .inr (0, [.ref q0_14, .ref q1_15, .ref q2_16, .ref q3_17, .int 0, .int 0])), (q_19, .inr (4, [.ref q_9, .int (-1), .int (-1), .ref q3_24, .ref q4_25, .ref q5_26, .ref q6_27, .ref q7_28, .ref q8_29, .int 0])), (q_31, .inr (2, [.int 6, .int 6, .ref q2_36, .ref q3_37, .ref q4_38, .ref q5_39, .ref q6_40, .int 0, .int 0, .int 0, .int 0])), (q2_36, .inl (qc2_41, 10, .inl (fun _ => 0))), (q3_37, .inl (qc3_42, 10, .inl (fun _ => 0))), (q6_40, .inl (qc6_43, 120, .inl (fun _ => 0))), (q_45, .inr (5, [.ref q0_50, .ref q1_51, .ref q2_52, .ref q3_53, .ref q4_54, .ref q5_55, .ref q6_56, .long 0, .long 0, .int 0])), (q0_50, .inl (qc0_57, 6, .inl (fun _ => 0))), (q1_51, .inl (qc1_58, 6, .inl (fun _ => 0))), (q4_54, .inl (qc4_59, 24, .inl (fun _ => 0))), (q_61, .inr (6, [.ref q0_66, .ref q1_67, .ref q2_68, .ref q3_69, .ref q4_70, .ref q5_71, .int (-1)])), (q0_66, .inl (qc0_72, 48, .inl g_73)), (q_75, .inr (9, [.ref q0_80, .ref q1_81, .ref q2_82, .int 0]))]) (w1 := []) hP hD [16] [0, 1, 2, 3, 4, 5, 6, 7, 8, 9, 10, 11, 12, 13, 14, 15] rfl rfl (by decide) (by decide) hk1 hFc (z_P0 _) (z_D0 _)
  have hP : va_P (dC, dI) vwCl [(h0, .inr (11, [.ref q_1, .ref q_9, .ref q_19, .ref q_31, .ref q_45, .ref q_61, .ref q_75, .null, .null, .null])), (q_1, .inr (10, [.ref q0_6, .int 0, .int 0, .int 0, .int 0, .int 0, .int 0, .int 0, .int (-1), .int 0, .int (-1)])), (q0_6, .inl (qc0_7, 700, .inl (fun _ => 0))), (q_9, .inr (0, [.ref q0_14, .ref q1_15, .ref q2_16, .ref q3_17, .int 0, .int 0])), (q_19, .inr (4, [.ref q_9, .int (-1), .int (-1), .ref q3_24, .ref q4_25, .ref q5_26, .ref q6_27, .ref q7_28, .ref q8_29, .int 0])), (q_31, .inr (2, [.int 6, .int 6, .ref q2_36, .ref q3_37, .ref q4_38, .ref q5_39, .ref q6_40, .int 0, .int 0, .int 0, .int 0])), (q2_36, .inl (qc2_41, 10, .inl (fun _ => 0))), (q3_37, .inl (qc3_42, 10, .inl (fun _ => 0))), (q6_40, .inl (qc6_43, 120, .inl (fun _ => 0))), (q_45, .inr (5, [.ref q0_50, .ref q1_51, .ref q2_52, .ref q3_53, .ref q4_54, .ref q5_55, .ref q6_56, .long 0, .long 0, .int 0])), (q0_50, .inl (qc0_57, 6, .inl (fun _ => 0))), (q1_51, .inl (qc1_58, 6, .inl (fun _ => 0))), (q4_54, .inl (qc4_59, 24, .inl (fun _ => 0))), (q_61, .inr (6, [.ref q0_66, .ref q1_67, .ref q2_68, .ref q3_69, .ref q4_70, .ref q5_71, .int (-1)])), (q0_66, .inl (qc0_72, 48, .inl g_73)), (q_75, .inr (9, [.ref q0_80, .ref q1_81, .ref q2_82, .int 0]))] H_86 := hP
  have hD : va_D A [(h0, .inr (11, [.ref q_1, .ref q_9, .ref q_19, .ref q_31, .ref q_45, .ref q_61, .ref q_75, .null, .null, .null])), (q_1, .inr (10, [.ref q0_6, .int 0, .int 0, .int 0, .int 0, .int 0, .int 0, .int 0, .int (-1), .int 0, .int (-1)])), (q0_6, .inl (qc0_7, 700, .inl (fun _ => 0))), (q_9, .inr (0, [.ref q0_14, .ref q1_15, .ref q2_16, .ref q3_17, .int 0, .int 0])), (q_19, .inr (4, [.ref q_9, .int (-1), .int (-1), .ref q3_24, .ref q4_25, .ref q5_26, .ref q6_27, .ref q7_28, .ref q8_29, .int 0])), (q_31, .inr (2, [.int 6, .int 6, .ref q2_36, .ref q3_37, .ref q4_38, .ref q5_39, .ref q6_40, .int 0, .int 0, .int 0, .int 0])), (q2_36, .inl (qc2_41, 10, .inl (fun _ => 0))), (q3_37, .inl (qc3_42, 10, .inl (fun _ => 0))), (q6_40, .inl (qc6_43, 120, .inl (fun _ => 0))), (q_45, .inr (5, [.ref q0_50, .ref q1_51, .ref q2_52, .ref q3_53, .ref q4_54, .ref q5_55, .ref q6_56, .long 0, .long 0, .int 0])), (q0_50, .inl (qc0_57, 6, .inl (fun _ => 0))), (q1_51, .inl (qc1_58, 6, .inl (fun _ => 0))), (q4_54, .inl (qc4_59, 24, .inl (fun _ => 0))), (q_61, .inr (6, [.ref q0_66, .ref q1_67, .ref q2_68, .ref q3_69, .ref q4_70, .ref q5_71, .int (-1)])), (q0_66, .inl (qc0_72, 48, .inl g_73)), (q_75, .inr (9, [.ref q0_80, .ref q1_81, .ref q2_82, .int 0]))] := hD
  clear hPc hDc hKc
  refine va_putF (D := (dC, dI)) (ci := 11) (v := .ref q_84) (ty := .object "ShellHeap$FindsReader") (C := RX11) (T := TX11) (N := 10) hx hb hts hiX11 tyX11 tyX11_ok nmX11 hown hK hP hD hS 0 rfl rfl 7 (by decide) w__fieldLink_RX11_65_ShellHeap_findsReader_LShellHeap_FindsReader_ (fun _ h9 => h9) rfl hin rfl (by decide +kernel) rfl rfl (Nat.le_of_ble_eq_true rfl) dX11_init_101 (fun H_89 locs hP hD hS => ?_)
  have hP : va_P (dC, dI) vwCl [(h0, .inr (11, [.ref q_1, .ref q_9, .ref q_19, .ref q_31, .ref q_45, .ref q_61, .ref q_75, .ref q_84, .null, .null])), (q_1, .inr (10, [.ref q0_6, .int 0, .int 0, .int 0, .int 0, .int 0, .int 0, .int 0, .int (-1), .int 0, .int (-1)])), (q0_6, .inl (qc0_7, 700, .inl (fun _ => 0))), (q_9, .inr (0, [.ref q0_14, .ref q1_15, .ref q2_16, .ref q3_17, .int 0, .int 0])), (q_19, .inr (4, [.ref q_9, .int (-1), .int (-1), .ref q3_24, .ref q4_25, .ref q5_26, .ref q6_27, .ref q7_28, .ref q8_29, .int 0])), (q_31, .inr (2, [.int 6, .int 6, .ref q2_36, .ref q3_37, .ref q4_38, .ref q5_39, .ref q6_40, .int 0, .int 0, .int 0, .int 0])), (q2_36, .inl (qc2_41, 10, .inl (fun _ => 0))), (q3_37, .inl (qc3_42, 10, .inl (fun _ => 0))), (q6_40, .inl (qc6_43, 120, .inl (fun _ => 0))), (q_45, .inr (5, [.ref q0_50, .ref q1_51, .ref q2_52, .ref q3_53, .ref q4_54, .ref q5_55, .ref q6_56, .long 0, .long 0, .int 0])), (q0_50, .inl (qc0_57, 6, .inl (fun _ => 0))), (q1_51, .inl (qc1_58, 6, .inl (fun _ => 0))), (q4_54, .inl (qc4_59, 24, .inl (fun _ => 0))), (q_61, .inr (6, [.ref q0_66, .ref q1_67, .ref q2_68, .ref q3_69, .ref q4_70, .ref q5_71, .int (-1)])), (q0_66, .inl (qc0_72, 48, .inl g_73)), (q_75, .inr (9, [.ref q0_80, .ref q1_81, .ref q2_82, .int 0]))] H_89 := hP
  have hD : va_D A [(h0, .inr (11, [.ref q_1, .ref q_9, .ref q_19, .ref q_31, .ref q_45, .ref q_61, .ref q_75, .ref q_84, .null, .null])), (q_1, .inr (10, [.ref q0_6, .int 0, .int 0, .int 0, .int 0, .int 0, .int 0, .int 0, .int (-1), .int 0, .int (-1)])), (q0_6, .inl (qc0_7, 700, .inl (fun _ => 0))), (q_9, .inr (0, [.ref q0_14, .ref q1_15, .ref q2_16, .ref q3_17, .int 0, .int 0])), (q_19, .inr (4, [.ref q_9, .int (-1), .int (-1), .ref q3_24, .ref q4_25, .ref q5_26, .ref q6_27, .ref q7_28, .ref q8_29, .int 0])), (q_31, .inr (2, [.int 6, .int 6, .ref q2_36, .ref q3_37, .ref q4_38, .ref q5_39, .ref q6_40, .int 0, .int 0, .int 0, .int 0])), (q2_36, .inl (qc2_41, 10, .inl (fun _ => 0))), (q3_37, .inl (qc3_42, 10, .inl (fun _ => 0))), (q6_40, .inl (qc6_43, 120, .inl (fun _ => 0))), (q_45, .inr (5, [.ref q0_50, .ref q1_51, .ref q2_52, .ref q3_53, .ref q4_54, .ref q5_55, .ref q6_56, .long 0, .long 0, .int 0])), (q0_50, .inl (qc0_57, 6, .inl (fun _ => 0))), (q1_51, .inl (qc1_58, 6, .inl (fun _ => 0))), (q4_54, .inl (qc4_59, 24, .inl (fun _ => 0))), (q_61, .inr (6, [.ref q0_66, .ref q1_67, .ref q2_68, .ref q3_69, .ref q4_70, .ref q5_71, .int (-1)])), (q0_66, .inl (qc0_72, 48, .inl g_73)), (q_75, .inr (9, [.ref q0_80, .ref q1_81, .ref q2_82, .int 0]))] := hD
  refine lv_aload_n hx hb dX11_init_104 rfl (lv_at hl 0 rfl) ?_
  refine va_new (ci := 8) (fs := [.null, .null, .null, .null, .int 0, .int 0, .int 0, .null, .null]) (C := RX8) (T := TX8) (N := 9) hx hb hts hiX8 tyX8 tyX8_ok hown w__classLink_RX11_69_RX8 w__instantiable_RX8_9 w__initialized_RX8 hK hP hD hS hA rfl (fun j hj => match j, hj with | 0, _ => rfl | 1, _ => rfl | 2, _ => rfl | 3, _ => rfl | 4, _ => rfl | 5, _ => rfl | 6, _ => rfl | 7, _ => rfl | 8, _ => rfl | k + 9, h => absurd h (by omega)) (Nat.le_of_ble_eq_true rfl) (Nat.le_of_ble_eq_true rfl) dX11_init_105 (fun q_90 H_91 hP hD hS => ?_)
  have hP : va_P (dC, dI) vwCl [(h0, .inr (11, [.ref q_1, .ref q_9, .ref q_19, .ref q_31, .ref q_45, .ref q_61, .ref q_75, .ref q_84, .null, .null])), (q_1, .inr (10, [.ref q0_6, .int 0, .int 0, .int 0, .int 0, .int 0, .int 0, .int 0, .int (-1), .int 0, .int (-1)])), (q0_6, .inl (qc0_7, 700, .inl (fun _ => 0))), (q_9, .inr (0, [.ref q0_14, .ref q1_15, .ref q2_16, .ref q3_17, .int 0, .int 0])), (q_19, .inr (4, [.ref q_9, .int (-1), .int (-1), .ref q3_24, .ref q4_25, .ref q5_26, .ref q6_27, .ref q7_28, .ref q8_29, .int 0])), (q_31, .inr (2, [.int 6, .int 6, .ref q2_36, .ref q3_37, .ref q4_38, .ref q5_39, .ref q6_40, .int 0, .int 0, .int 0, .int 0])), (q2_36, .inl (qc2_41, 10, .inl (fun _ => 0))), (q3_37, .inl (qc3_42, 10, .inl (fun _ => 0))), (q6_40, .inl (qc6_43, 120, .inl (fun _ => 0))), (q_45, .inr (5, [.ref q0_50, .ref q1_51, .ref q2_52, .ref q3_53, .ref q4_54, .ref q5_55, .ref q6_56, .long 0, .long 0, .int 0])), (q0_50, .inl (qc0_57, 6, .inl (fun _ => 0))), (q1_51, .inl (qc1_58, 6, .inl (fun _ => 0))), (q4_54, .inl (qc4_59, 24, .inl (fun _ => 0))), (q_61, .inr (6, [.ref q0_66, .ref q1_67, .ref q2_68, .ref q3_69, .ref q4_70, .ref q5_71, .int (-1)])), (q0_66, .inl (qc0_72, 48, .inl g_73)), (q_75, .inr (9, [.ref q0_80, .ref q1_81, .ref q2_82, .int 0])), (q_90, .inr (8, [.null, .null, .null, .null, .int 0, .int 0, .int 0, .null, .null]))] H_91 := hP
  have hD : va_D A [(h0, .inr (11, [.ref q_1, .ref q_9, .ref q_19, .ref q_31, .ref q_45, .ref q_61, .ref q_75, .ref q_84, .null, .null])), (q_1, .inr (10, [.ref q0_6, .int 0, .int 0, .int 0, .int 0, .int 0, .int 0, .int 0, .int (-1), .int 0, .int (-1)])), (q0_6, .inl (qc0_7, 700, .inl (fun _ => 0))), (q_9, .inr (0, [.ref q0_14, .ref q1_15, .ref q2_16, .ref q3_17, .int 0, .int 0])), (q_19, .inr (4, [.ref q_9, .int (-1), .int (-1), .ref q3_24, .ref q4_25, .ref q5_26, .ref q6_27, .ref q7_28, .ref q8_29, .int 0])), (q_31, .inr (2, [.int 6, .int 6, .ref q2_36, .ref q3_37, .ref q4_38, .ref q5_39, .ref q6_40, .int 0, .int 0, .int 0, .int 0])), (q2_36, .inl (qc2_41, 10, .inl (fun _ => 0))), (q3_37, .inl (qc3_42, 10, .inl (fun _ => 0))), (q6_40, .inl (qc6_43, 120, .inl (fun _ => 0))), (q_45, .inr (5, [.ref q0_50, .ref q1_51, .ref q2_52, .ref q3_53, .ref q4_54, .ref q5_55, .ref q6_56, .long 0, .long 0, .int 0])), (q0_50, .inl (qc0_57, 6, .inl (fun _ => 0))), (q1_51, .inl (qc1_58, 6, .inl (fun _ => 0))), (q4_54, .inl (qc4_59, 24, .inl (fun _ => 0))), (q_61, .inr (6, [.ref q0_66, .ref q1_67, .ref q2_68, .ref q3_69, .ref q4_70, .ref q5_71, .int (-1)])), (q0_66, .inl (qc0_72, 48, .inl g_73)), (q_75, .inr (9, [.ref q0_80, .ref q1_81, .ref q2_82, .int 0])), (q_90, .inr (8, [.null, .null, .null, .null, .int 0, .int 0, .int 0, .null, .null]))] := hD
  refine lv_dup hx hb dX11_init_108 rfl ?_
  refine lv_aload_n hx hb dX11_init_109 rfl (lv_at hl 0 rfl) ?_
  refine va_get (D := (dC, dI)) (ci := 11) (v := .ref q_1) (C := RX11) (T := TX11) (N := 10) hx hb hts hiX11 hown hK hP 0 rfl rfl 0 (by decide) w__fieldLink_RX11_10_ShellHeap_tape_LShellHeap_Tape_ (fun _ h9 => h9) rfl dX11_init_110 ?_
  have hPc := hP.sub (ws' := [(q_90, .inr (8, [.null, .null, .null, .null, .int 0, .int 0, .int 0, .null, .null]))]) [16] rfl
  have hDc := hD.sub (ws' := [(q_90, .inr (8, [.null, .null, .null, .null, .int 0, .int 0, .int 0, .null, .null]))]) [16] (by decide) rfl
  have hKc := hK.sub (tys' := []) [] rfl
  have hFc := va_free (wc := [(q_90, .inr (8, [.null, .null, .null, .null, .int 0, .int 0, .int 0, .null, .null]))]) hD hS hA [16] rfl
  refine va_callv (va_runI (As := [.ref q_1]) (rest := [.ref q_90, .ref h0]) ⟨hx, hb, hml, hown, hts⟩ (c_X8_init l dC dI H_91.size q_90 q_1) (cwI 1 hts gw_c_X11_init_c_X8_init_71 rfl rfl rfl w__initialized_RX8 w__methodLink_RX11_71_yX8_init w__instanceMethod_yX8_init rfl (by decide +kernel) ⟨Nat.le_of_ble_eq_true rfl, Nat.le_of_ble_eq_true rfl⟩) ⟨z_blindN, z_preN hPc hKc hDc (hNW.sub (by decide +kernel))⟩ rfl rfl hl.1 rfl (lv_room (Nat.le_of_ble_eq_true rfl)) dX11_init_113 ⟨Nat.le_of_ble_eq_true rfl, Nat.le_of_ble_eq_true rfl⟩) hS (fun q _ h => hFc q h) hFc (fun u t H_92 locs ht hvm hw_94 hB hz1 hk1 hS => ?_)
  obtain ⟨q1_95, q2_96, q3_97, q7_98, q8_99, d0_100, d1_101, d2_102, e0_103, e1_104, e2_105, hP1, hK1, hD1⟩ := hB
  rw [ht] at hP1
  have hK1 := va_K.moved hvm.symm hK1
  obtain ⟨hP, hD⟩ := va_join (wr := [(h0, .inr (11, [.ref q_1, .ref q_9, .ref q_19, .ref q_31, .ref q_45, .ref q_61, .ref q_75, .ref q_84, .null, .null])), (q_1, .inr (10, [.ref q0_6, .int 0, .int 0, .int 0, .int 0, .int 0, .int 0, .int 0, .int (-1), .int 0, .int (-1)])), (q0_6, .inl (qc0_7, 700, .inl (fun _ => 0))), (q_9, .inr (0, [.ref q0_14, .ref q1_15, .ref q2_16, .ref q3_17, .int 0, .int 0])), (q_19, .inr (4, [.ref q_9, .int (-1), .int (-1), .ref q3_24, .ref q4_25, .ref q5_26, .ref q6_27, .ref q7_28, .ref q8_29, .int 0])), (q_31, .inr (2, [.int 6, .int 6, .ref q2_36, .ref q3_37, .ref q4_38, .ref q5_39, .ref q6_40, .int 0, .int 0, .int 0, .int 0])), (q2_36, .inl (qc2_41, 10, .inl (fun _ => 0))), (q3_37, .inl (qc3_42, 10, .inl (fun _ => 0))), (q6_40, .inl (qc6_43, 120, .inl (fun _ => 0))), (q_45, .inr (5, [.ref q0_50, .ref q1_51, .ref q2_52, .ref q3_53, .ref q4_54, .ref q5_55, .ref q6_56, .long 0, .long 0, .int 0])), (q0_50, .inl (qc0_57, 6, .inl (fun _ => 0))), (q1_51, .inl (qc1_58, 6, .inl (fun _ => 0))), (q4_54, .inl (qc4_59, 24, .inl (fun _ => 0))), (q_61, .inr (6, [.ref q0_66, .ref q1_67, .ref q2_68, .ref q3_69, .ref q4_70, .ref q5_71, .int (-1)])), (q0_66, .inl (qc0_72, 48, .inl g_73)), (q_75, .inr (9, [.ref q0_80, .ref q1_81, .ref q2_82, .int 0]))]) (w1 := [(q_90, .inr (8, [.ref q_1, .ref q1_95, .ref q2_96, .ref q3_97, .int 0, .int 0, .int 1, .ref q7_98, .ref q8_99])), (q7_98, .inr (7, [.ref d0_100, .ref d1_101, .ref d2_102, .int 0, .int 0, .int 0])), (q8_99, .inr (7, [.ref e0_103, .ref e1_104, .ref e2_105, .int 0, .int 0, .int 0]))]) hP hD [16] [0, 1, 2, 3, 4, 5, 6, 7, 8, 9, 10, 11, 12, 13, 14, 15] rfl rfl (by decide) (by decide) hk1 hFc hP1 hD1
  have hP : va_P (dC, dI) vwCl [(h0, .inr (11, [.ref q_1, .ref q_9, .ref q_19, .ref q_31, .ref q_45, .ref q_61, .ref q_75, .ref q_84, .null, .null])), (q_1, .inr (10, [.ref q0_6, .int 0, .int 0, .int 0, .int 0, .int 0, .int 0, .int 0, .int (-1), .int 0, .int (-1)])), (q0_6, .inl (qc0_7, 700, .inl (fun _ => 0))), (q_9, .inr (0, [.ref q0_14, .ref q1_15, .ref q2_16, .ref q3_17, .int 0, .int 0])), (q_19, .inr (4, [.ref q_9, .int (-1), .int (-1), .ref q3_24, .ref q4_25, .ref q5_26, .ref q6_27, .ref q7_28, .ref q8_29, .int 0])), (q_31, .inr (2, [.int 6, .int 6, .ref q2_36, .ref q3_37, .ref q4_38, .ref q5_39, .ref q6_40, .int 0, .int 0, .int 0, .int 0])), (q2_36, .inl (qc2_41, 10, .inl (fun _ => 0))), (q3_37, .inl (qc3_42, 10, .inl (fun _ => 0))), (q6_40, .inl (qc6_43, 120, .inl (fun _ => 0))), (q_45, .inr (5, [.ref q0_50, .ref q1_51, .ref q2_52, .ref q3_53, .ref q4_54, .ref q5_55, .ref q6_56, .long 0, .long 0, .int 0])), (q0_50, .inl (qc0_57, 6, .inl (fun _ => 0))), (q1_51, .inl (qc1_58, 6, .inl (fun _ => 0))), (q4_54, .inl (qc4_59, 24, .inl (fun _ => 0))), (q_61, .inr (6, [.ref q0_66, .ref q1_67, .ref q2_68, .ref q3_69, .ref q4_70, .ref q5_71, .int (-1)])), (q0_66, .inl (qc0_72, 48, .inl g_73)), (q_75, .inr (9, [.ref q0_80, .ref q1_81, .ref q2_82, .int 0])), (q_90, .inr (8, [.ref q_1, .ref q1_95, .ref q2_96, .ref q3_97, .int 0, .int 0, .int 1, .ref q7_98, .ref q8_99])), (q7_98, .inr (7, [.ref d0_100, .ref d1_101, .ref d2_102, .int 0, .int 0, .int 0])), (q8_99, .inr (7, [.ref e0_103, .ref e1_104, .ref e2_105, .int 0, .int 0, .int 0]))] H_92 := hP
  have hD : va_D A [(h0, .inr (11, [.ref q_1, .ref q_9, .ref q_19, .ref q_31, .ref q_45, .ref q_61, .ref q_75, .ref q_84, .null, .null])), (q_1, .inr (10, [.ref q0_6, .int 0, .int 0, .int 0, .int 0, .int 0, .int 0, .int 0, .int (-1), .int 0, .int (-1)])), (q0_6, .inl (qc0_7, 700, .inl (fun _ => 0))), (q_9, .inr (0, [.ref q0_14, .ref q1_15, .ref q2_16, .ref q3_17, .int 0, .int 0])), (q_19, .inr (4, [.ref q_9, .int (-1), .int (-1), .ref q3_24, .ref q4_25, .ref q5_26, .ref q6_27, .ref q7_28, .ref q8_29, .int 0])), (q_31, .inr (2, [.int 6, .int 6, .ref q2_36, .ref q3_37, .ref q4_38, .ref q5_39, .ref q6_40, .int 0, .int 0, .int 0, .int 0])), (q2_36, .inl (qc2_41, 10, .inl (fun _ => 0))), (q3_37, .inl (qc3_42, 10, .inl (fun _ => 0))), (q6_40, .inl (qc6_43, 120, .inl (fun _ => 0))), (q_45, .inr (5, [.ref q0_50, .ref q1_51, .ref q2_52, .ref q3_53, .ref q4_54, .ref q5_55, .ref q6_56, .long 0, .long 0, .int 0])), (q0_50, .inl (qc0_57, 6, .inl (fun _ => 0))), (q1_51, .inl (qc1_58, 6, .inl (fun _ => 0))), (q4_54, .inl (qc4_59, 24, .inl (fun _ => 0))), (q_61, .inr (6, [.ref q0_66, .ref q1_67, .ref q2_68, .ref q3_69, .ref q4_70, .ref q5_71, .int (-1)])), (q0_66, .inl (qc0_72, 48, .inl g_73)), (q_75, .inr (9, [.ref q0_80, .ref q1_81, .ref q2_82, .int 0])), (q_90, .inr (8, [.ref q_1, .ref q1_95, .ref q2_96, .ref q3_97, .int 0, .int 0, .int 1, .ref q7_98, .ref q8_99])), (q7_98, .inr (7, [.ref d0_100, .ref d1_101, .ref d2_102, .int 0, .int 0, .int 0])), (q8_99, .inr (7, [.ref e0_103, .ref e1_104, .ref e2_105, .int 0, .int 0, .int 0]))] := hD
  clear hPc hDc hKc
  refine va_putF (D := (dC, dI)) (ci := 11) (v := .ref q_90) (ty := .object "ShellHeap$RulesReader") (C := RX11) (T := TX11) (N := 10) hx hb hts hiX11 tyX11 tyX11_ok nmX11 hown hK hP hD hS 0 rfl rfl 8 (by decide) w__fieldLink_RX11_74_ShellHeap_rulesReader_LShellHeap_RulesReader_ (fun _ h9 => h9) rfl hin rfl (by decide +kernel) rfl rfl (Nat.le_of_ble_eq_true rfl) dX11_init_116 (fun H_106 locs hP hD hS => ?_)
  have hP : va_P (dC, dI) vwCl [(h0, .inr (11, [.ref q_1, .ref q_9, .ref q_19, .ref q_31, .ref q_45, .ref q_61, .ref q_75, .ref q_84, .ref q_90, .null])), (q_1, .inr (10, [.ref q0_6, .int 0, .int 0, .int 0, .int 0, .int 0, .int 0, .int 0, .int (-1), .int 0, .int (-1)])), (q0_6, .inl (qc0_7, 700, .inl (fun _ => 0))), (q_9, .inr (0, [.ref q0_14, .ref q1_15, .ref q2_16, .ref q3_17, .int 0, .int 0])), (q_19, .inr (4, [.ref q_9, .int (-1), .int (-1), .ref q3_24, .ref q4_25, .ref q5_26, .ref q6_27, .ref q7_28, .ref q8_29, .int 0])), (q_31, .inr (2, [.int 6, .int 6, .ref q2_36, .ref q3_37, .ref q4_38, .ref q5_39, .ref q6_40, .int 0, .int 0, .int 0, .int 0])), (q2_36, .inl (qc2_41, 10, .inl (fun _ => 0))), (q3_37, .inl (qc3_42, 10, .inl (fun _ => 0))), (q6_40, .inl (qc6_43, 120, .inl (fun _ => 0))), (q_45, .inr (5, [.ref q0_50, .ref q1_51, .ref q2_52, .ref q3_53, .ref q4_54, .ref q5_55, .ref q6_56, .long 0, .long 0, .int 0])), (q0_50, .inl (qc0_57, 6, .inl (fun _ => 0))), (q1_51, .inl (qc1_58, 6, .inl (fun _ => 0))), (q4_54, .inl (qc4_59, 24, .inl (fun _ => 0))), (q_61, .inr (6, [.ref q0_66, .ref q1_67, .ref q2_68, .ref q3_69, .ref q4_70, .ref q5_71, .int (-1)])), (q0_66, .inl (qc0_72, 48, .inl g_73)), (q_75, .inr (9, [.ref q0_80, .ref q1_81, .ref q2_82, .int 0])), (q_90, .inr (8, [.ref q_1, .ref q1_95, .ref q2_96, .ref q3_97, .int 0, .int 0, .int 1, .ref q7_98, .ref q8_99])), (q7_98, .inr (7, [.ref d0_100, .ref d1_101, .ref d2_102, .int 0, .int 0, .int 0])), (q8_99, .inr (7, [.ref e0_103, .ref e1_104, .ref e2_105, .int 0, .int 0, .int 0]))] H_106 := hP
  have hD : va_D A [(h0, .inr (11, [.ref q_1, .ref q_9, .ref q_19, .ref q_31, .ref q_45, .ref q_61, .ref q_75, .ref q_84, .ref q_90, .null])), (q_1, .inr (10, [.ref q0_6, .int 0, .int 0, .int 0, .int 0, .int 0, .int 0, .int 0, .int (-1), .int 0, .int (-1)])), (q0_6, .inl (qc0_7, 700, .inl (fun _ => 0))), (q_9, .inr (0, [.ref q0_14, .ref q1_15, .ref q2_16, .ref q3_17, .int 0, .int 0])), (q_19, .inr (4, [.ref q_9, .int (-1), .int (-1), .ref q3_24, .ref q4_25, .ref q5_26, .ref q6_27, .ref q7_28, .ref q8_29, .int 0])), (q_31, .inr (2, [.int 6, .int 6, .ref q2_36, .ref q3_37, .ref q4_38, .ref q5_39, .ref q6_40, .int 0, .int 0, .int 0, .int 0])), (q2_36, .inl (qc2_41, 10, .inl (fun _ => 0))), (q3_37, .inl (qc3_42, 10, .inl (fun _ => 0))), (q6_40, .inl (qc6_43, 120, .inl (fun _ => 0))), (q_45, .inr (5, [.ref q0_50, .ref q1_51, .ref q2_52, .ref q3_53, .ref q4_54, .ref q5_55, .ref q6_56, .long 0, .long 0, .int 0])), (q0_50, .inl (qc0_57, 6, .inl (fun _ => 0))), (q1_51, .inl (qc1_58, 6, .inl (fun _ => 0))), (q4_54, .inl (qc4_59, 24, .inl (fun _ => 0))), (q_61, .inr (6, [.ref q0_66, .ref q1_67, .ref q2_68, .ref q3_69, .ref q4_70, .ref q5_71, .int (-1)])), (q0_66, .inl (qc0_72, 48, .inl g_73)), (q_75, .inr (9, [.ref q0_80, .ref q1_81, .ref q2_82, .int 0])), (q_90, .inr (8, [.ref q_1, .ref q1_95, .ref q2_96, .ref q3_97, .int 0, .int 0, .int 1, .ref q7_98, .ref q8_99])), (q7_98, .inr (7, [.ref d0_100, .ref d1_101, .ref d2_102, .int 0, .int 0, .int 0])), (q8_99, .inr (7, [.ref e0_103, .ref e1_104, .ref e2_105, .int 0, .int 0, .int 0]))] := hD
  refine lv_aload_n hx hb dX11_init_119 rfl (lv_at hl 0 rfl) ?_
  refine va_new (ci := 3) (fs := [.null, .null, .null, .null, .null, .null, .null, .null, .int 0, .int 0]) (C := RX3) (T := TX3) (N := 10) hx hb hts hiX3 tyX3 tyX3_ok hown w__classLink_RX11_78_RX3 w__instantiable_RX3_10 w__initialized_RX3 hK hP hD hS hA rfl (fun j hj => match j, hj with | 0, _ => rfl | 1, _ => rfl | 2, _ => rfl | 3, _ => rfl | 4, _ => rfl | 5, _ => rfl | 6, _ => rfl | 7, _ => rfl | 8, _ => rfl | 9, _ => rfl | k + 10, h => absurd h (by omega)) (Nat.le_of_ble_eq_true rfl) (Nat.le_of_ble_eq_true rfl) dX11_init_120 (fun q_107 H_108 hP hD hS => ?_)
  have hP : va_P (dC, dI) vwCl [(h0, .inr (11, [.ref q_1, .ref q_9, .ref q_19, .ref q_31, .ref q_45, .ref q_61, .ref q_75, .ref q_84, .ref q_90, .null])), (q_1, .inr (10, [.ref q0_6, .int 0, .int 0, .int 0, .int 0, .int 0, .int 0, .int 0, .int (-1), .int 0, .int (-1)])), (q0_6, .inl (qc0_7, 700, .inl (fun _ => 0))), (q_9, .inr (0, [.ref q0_14, .ref q1_15, .ref q2_16, .ref q3_17, .int 0, .int 0])), (q_19, .inr (4, [.ref q_9, .int (-1), .int (-1), .ref q3_24, .ref q4_25, .ref q5_26, .ref q6_27, .ref q7_28, .ref q8_29, .int 0])), (q_31, .inr (2, [.int 6, .int 6, .ref q2_36, .ref q3_37, .ref q4_38, .ref q5_39, .ref q6_40, .int 0, .int 0, .int 0, .int 0])), (q2_36, .inl (qc2_41, 10, .inl (fun _ => 0))), (q3_37, .inl (qc3_42, 10, .inl (fun _ => 0))), (q6_40, .inl (qc6_43, 120, .inl (fun _ => 0))), (q_45, .inr (5, [.ref q0_50, .ref q1_51, .ref q2_52, .ref q3_53, .ref q4_54, .ref q5_55, .ref q6_56, .long 0, .long 0, .int 0])), (q0_50, .inl (qc0_57, 6, .inl (fun _ => 0))), (q1_51, .inl (qc1_58, 6, .inl (fun _ => 0))), (q4_54, .inl (qc4_59, 24, .inl (fun _ => 0))), (q_61, .inr (6, [.ref q0_66, .ref q1_67, .ref q2_68, .ref q3_69, .ref q4_70, .ref q5_71, .int (-1)])), (q0_66, .inl (qc0_72, 48, .inl g_73)), (q_75, .inr (9, [.ref q0_80, .ref q1_81, .ref q2_82, .int 0])), (q_90, .inr (8, [.ref q_1, .ref q1_95, .ref q2_96, .ref q3_97, .int 0, .int 0, .int 1, .ref q7_98, .ref q8_99])), (q7_98, .inr (7, [.ref d0_100, .ref d1_101, .ref d2_102, .int 0, .int 0, .int 0])), (q8_99, .inr (7, [.ref e0_103, .ref e1_104, .ref e2_105, .int 0, .int 0, .int 0])), (q_107, .inr (3, [.null, .null, .null, .null, .null, .null, .null, .null, .int 0, .int 0]))] H_108 := hP
  have hD : va_D A [(h0, .inr (11, [.ref q_1, .ref q_9, .ref q_19, .ref q_31, .ref q_45, .ref q_61, .ref q_75, .ref q_84, .ref q_90, .null])), (q_1, .inr (10, [.ref q0_6, .int 0, .int 0, .int 0, .int 0, .int 0, .int 0, .int 0, .int (-1), .int 0, .int (-1)])), (q0_6, .inl (qc0_7, 700, .inl (fun _ => 0))), (q_9, .inr (0, [.ref q0_14, .ref q1_15, .ref q2_16, .ref q3_17, .int 0, .int 0])), (q_19, .inr (4, [.ref q_9, .int (-1), .int (-1), .ref q3_24, .ref q4_25, .ref q5_26, .ref q6_27, .ref q7_28, .ref q8_29, .int 0])), (q_31, .inr (2, [.int 6, .int 6, .ref q2_36, .ref q3_37, .ref q4_38, .ref q5_39, .ref q6_40, .int 0, .int 0, .int 0, .int 0])), (q2_36, .inl (qc2_41, 10, .inl (fun _ => 0))), (q3_37, .inl (qc3_42, 10, .inl (fun _ => 0))), (q6_40, .inl (qc6_43, 120, .inl (fun _ => 0))), (q_45, .inr (5, [.ref q0_50, .ref q1_51, .ref q2_52, .ref q3_53, .ref q4_54, .ref q5_55, .ref q6_56, .long 0, .long 0, .int 0])), (q0_50, .inl (qc0_57, 6, .inl (fun _ => 0))), (q1_51, .inl (qc1_58, 6, .inl (fun _ => 0))), (q4_54, .inl (qc4_59, 24, .inl (fun _ => 0))), (q_61, .inr (6, [.ref q0_66, .ref q1_67, .ref q2_68, .ref q3_69, .ref q4_70, .ref q5_71, .int (-1)])), (q0_66, .inl (qc0_72, 48, .inl g_73)), (q_75, .inr (9, [.ref q0_80, .ref q1_81, .ref q2_82, .int 0])), (q_90, .inr (8, [.ref q_1, .ref q1_95, .ref q2_96, .ref q3_97, .int 0, .int 0, .int 1, .ref q7_98, .ref q8_99])), (q7_98, .inr (7, [.ref d0_100, .ref d1_101, .ref d2_102, .int 0, .int 0, .int 0])), (q8_99, .inr (7, [.ref e0_103, .ref e1_104, .ref e2_105, .int 0, .int 0, .int 0])), (q_107, .inr (3, [.null, .null, .null, .null, .null, .null, .null, .null, .int 0, .int 0]))] := hD
  refine lv_dup hx hb dX11_init_123 rfl ?_
  refine lv_aload_n hx hb dX11_init_124 rfl (lv_at hl 0 rfl) ?_
  refine va_get (D := (dC, dI)) (ci := 11) (v := .ref q_19) (C := RX11) (T := TX11) (N := 10) hx hb hts hiX11 hown hK hP 0 rfl rfl 2 (by decide) w__fieldLink_RX11_28_ShellHeap_known_LShellHeap_Known_ (fun _ h9 => h9) rfl dX11_init_125 ?_
  refine lv_aload_n hx hb dX11_init_128 rfl (lv_at hl 0 rfl) ?_
  refine va_get (D := (dC, dI)) (ci := 11) (v := .ref q_31) (C := RX11) (T := TX11) (N := 10) hx hb hts hiX11 hown hK hP 0 rfl rfl 3 (by decide) w__fieldLink_RX11_35_ShellHeap_ground_LShellHeap_Ground_ (fun _ h9 => h9) rfl dX11_init_129 ?_
  refine lv_aload_n hx hb dX11_init_132 rfl (lv_at hl 0 rfl) ?_
  refine va_get (D := (dC, dI)) (ci := 11) (v := .ref q_45) (C := RX11) (T := TX11) (N := 10) hx hb hts hiX11 hown hK hP 0 rfl rfl 4 (by decide) w__fieldLink_RX11_42_ShellHeap_pantry_LShellHeap_Pantry_ (fun _ h9 => h9) rfl dX11_init_133 ?_
  refine lv_aload_n hx hb dX11_init_136 rfl (lv_at hl 0 rfl) ?_
  refine va_get (D := (dC, dI)) (ci := 11) (v := .ref q_61) (C := RX11) (T := TX11) (N := 10) hx hb hts hiX11 hown hK hP 0 rfl rfl 5 (by decide) w__fieldLink_RX11_49_ShellHeap_readers_LShellHeap_Readers_ (fun _ h9 => h9) rfl dX11_init_137 ?_
  refine lv_aload_n hx hb dX11_init_140 rfl (lv_at hl 0 rfl) ?_
  refine va_get (D := (dC, dI)) (ci := 11) (v := .ref q_75) (C := RX11) (T := TX11) (N := 10) hx hb hts hiX11 hown hK hP 0 rfl rfl 6 (by decide) w__fieldLink_RX11_56_ShellHeap_sizes_LShellHeap_Sizes_ (fun _ h9 => h9) rfl dX11_init_141 ?_
  have hPc := hP.sub (ws' := [(q_107, .inr (3, [.null, .null, .null, .null, .null, .null, .null, .null, .int 0, .int 0]))]) [19] rfl
  have hDc := hD.sub (ws' := [(q_107, .inr (3, [.null, .null, .null, .null, .null, .null, .null, .null, .int 0, .int 0]))]) [19] (by decide) rfl
  have hKc := hK.sub (tys' := []) [] rfl
  have hFc := va_free (wc := [(q_107, .inr (3, [.null, .null, .null, .null, .null, .null, .null, .null, .int 0, .int 0]))]) hD hS hA [19] rfl
  refine va_callv (va_runI (As := [.ref q_19, .ref q_31, .ref q_45, .ref q_61, .ref q_75]) (rest := [.ref q_107, .ref h0]) ⟨hx, hb, hml, hown, hts⟩ (c_X3_init l dC dI H_108.size q_107 q_19 q_31 q_45 q_61 q_75) (cwI 5 hts gw_c_X11_init_c_X3_init_80 rfl rfl rfl w__initialized_RX3 w__methodLink_RX11_80_yX3_init w__instanceMethod_yX3_init rfl (by decide +kernel) ⟨Nat.le_of_ble_eq_true rfl, Nat.le_of_ble_eq_true rfl⟩) ⟨z_blind, z_pre hPc hKc hDc⟩ rfl rfl hl.1 rfl (lv_room (Nat.le_of_ble_eq_true rfl)) dX11_init_144 ⟨Nat.le_of_ble_eq_true rfl, Nat.le_of_ble_eq_true rfl⟩) hS (fun q _ h => hFc q h) hFc (fun u t H_109 locs ht hvm hw_111 hB hz1 hk1 hS => ?_)
  obtain ⟨hP, hD⟩ := va_join (wr := [(h0, .inr (11, [.ref q_1, .ref q_9, .ref q_19, .ref q_31, .ref q_45, .ref q_61, .ref q_75, .ref q_84, .ref q_90, .null])), (q_1, .inr (10, [.ref q0_6, .int 0, .int 0, .int 0, .int 0, .int 0, .int 0, .int 0, .int (-1), .int 0, .int (-1)])), (q0_6, .inl (qc0_7, 700, .inl (fun _ => 0))), (q_9, .inr (0, [.ref q0_14, .ref q1_15, .ref q2_16, .ref q3_17, .int 0, .int 0])), (q_19, .inr (4, [.ref q_9, .int (-1), .int (-1), .ref q3_24, .ref q4_25, .ref q5_26, .ref q6_27, .ref q7_28, .ref q8_29, .int 0])), (q_31, .inr (2, [.int 6, .int 6, .ref q2_36, .ref q3_37, .ref q4_38, .ref q5_39, .ref q6_40, .int 0, .int 0, .int 0, .int 0])), (q2_36, .inl (qc2_41, 10, .inl (fun _ => 0))), (q3_37, .inl (qc3_42, 10, .inl (fun _ => 0))), (q6_40, .inl (qc6_43, 120, .inl (fun _ => 0))), (q_45, .inr (5, [.ref q0_50, .ref q1_51, .ref q2_52, .ref q3_53, .ref q4_54, .ref q5_55, .ref q6_56, .long 0, .long 0, .int 0])), (q0_50, .inl (qc0_57, 6, .inl (fun _ => 0))), (q1_51, .inl (qc1_58, 6, .inl (fun _ => 0))), (q4_54, .inl (qc4_59, 24, .inl (fun _ => 0))), (q_61, .inr (6, [.ref q0_66, .ref q1_67, .ref q2_68, .ref q3_69, .ref q4_70, .ref q5_71, .int (-1)])), (q0_66, .inl (qc0_72, 48, .inl g_73)), (q_75, .inr (9, [.ref q0_80, .ref q1_81, .ref q2_82, .int 0])), (q_90, .inr (8, [.ref q_1, .ref q1_95, .ref q2_96, .ref q3_97, .int 0, .int 0, .int 1, .ref q7_98, .ref q8_99])), (q7_98, .inr (7, [.ref d0_100, .ref d1_101, .ref d2_102, .int 0, .int 0, .int 0])), (q8_99, .inr (7, [.ref e0_103, .ref e1_104, .ref e2_105, .int 0, .int 0, .int 0]))]) (w1 := []) hP hD [19] [0, 1, 2, 3, 4, 5, 6, 7, 8, 9, 10, 11, 12, 13, 14, 15, 16, 17, 18] rfl rfl (by decide) (by decide) hk1 hFc (z_P0 _) (z_D0 _)
  have hP : va_P (dC, dI) vwCl [(h0, .inr (11, [.ref q_1, .ref q_9, .ref q_19, .ref q_31, .ref q_45, .ref q_61, .ref q_75, .ref q_84, .ref q_90, .null])), (q_1, .inr (10, [.ref q0_6, .int 0, .int 0, .int 0, .int 0, .int 0, .int 0, .int 0, .int (-1), .int 0, .int (-1)])), (q0_6, .inl (qc0_7, 700, .inl (fun _ => 0))), (q_9, .inr (0, [.ref q0_14, .ref q1_15, .ref q2_16, .ref q3_17, .int 0, .int 0])), (q_19, .inr (4, [.ref q_9, .int (-1), .int (-1), .ref q3_24, .ref q4_25, .ref q5_26, .ref q6_27, .ref q7_28, .ref q8_29, .int 0])), (q_31, .inr (2, [.int 6, .int 6, .ref q2_36, .ref q3_37, .ref q4_38, .ref q5_39, .ref q6_40, .int 0, .int 0, .int 0, .int 0])), (q2_36, .inl (qc2_41, 10, .inl (fun _ => 0))), (q3_37, .inl (qc3_42, 10, .inl (fun _ => 0))), (q6_40, .inl (qc6_43, 120, .inl (fun _ => 0))), (q_45, .inr (5, [.ref q0_50, .ref q1_51, .ref q2_52, .ref q3_53, .ref q4_54, .ref q5_55, .ref q6_56, .long 0, .long 0, .int 0])), (q0_50, .inl (qc0_57, 6, .inl (fun _ => 0))), (q1_51, .inl (qc1_58, 6, .inl (fun _ => 0))), (q4_54, .inl (qc4_59, 24, .inl (fun _ => 0))), (q_61, .inr (6, [.ref q0_66, .ref q1_67, .ref q2_68, .ref q3_69, .ref q4_70, .ref q5_71, .int (-1)])), (q0_66, .inl (qc0_72, 48, .inl g_73)), (q_75, .inr (9, [.ref q0_80, .ref q1_81, .ref q2_82, .int 0])), (q_90, .inr (8, [.ref q_1, .ref q1_95, .ref q2_96, .ref q3_97, .int 0, .int 0, .int 1, .ref q7_98, .ref q8_99])), (q7_98, .inr (7, [.ref d0_100, .ref d1_101, .ref d2_102, .int 0, .int 0, .int 0])), (q8_99, .inr (7, [.ref e0_103, .ref e1_104, .ref e2_105, .int 0, .int 0, .int 0]))] H_109 := hP
  have hD : va_D A [(h0, .inr (11, [.ref q_1, .ref q_9, .ref q_19, .ref q_31, .ref q_45, .ref q_61, .ref q_75, .ref q_84, .ref q_90, .null])), (q_1, .inr (10, [.ref q0_6, .int 0, .int 0, .int 0, .int 0, .int 0, .int 0, .int 0, .int (-1), .int 0, .int (-1)])), (q0_6, .inl (qc0_7, 700, .inl (fun _ => 0))), (q_9, .inr (0, [.ref q0_14, .ref q1_15, .ref q2_16, .ref q3_17, .int 0, .int 0])), (q_19, .inr (4, [.ref q_9, .int (-1), .int (-1), .ref q3_24, .ref q4_25, .ref q5_26, .ref q6_27, .ref q7_28, .ref q8_29, .int 0])), (q_31, .inr (2, [.int 6, .int 6, .ref q2_36, .ref q3_37, .ref q4_38, .ref q5_39, .ref q6_40, .int 0, .int 0, .int 0, .int 0])), (q2_36, .inl (qc2_41, 10, .inl (fun _ => 0))), (q3_37, .inl (qc3_42, 10, .inl (fun _ => 0))), (q6_40, .inl (qc6_43, 120, .inl (fun _ => 0))), (q_45, .inr (5, [.ref q0_50, .ref q1_51, .ref q2_52, .ref q3_53, .ref q4_54, .ref q5_55, .ref q6_56, .long 0, .long 0, .int 0])), (q0_50, .inl (qc0_57, 6, .inl (fun _ => 0))), (q1_51, .inl (qc1_58, 6, .inl (fun _ => 0))), (q4_54, .inl (qc4_59, 24, .inl (fun _ => 0))), (q_61, .inr (6, [.ref q0_66, .ref q1_67, .ref q2_68, .ref q3_69, .ref q4_70, .ref q5_71, .int (-1)])), (q0_66, .inl (qc0_72, 48, .inl g_73)), (q_75, .inr (9, [.ref q0_80, .ref q1_81, .ref q2_82, .int 0])), (q_90, .inr (8, [.ref q_1, .ref q1_95, .ref q2_96, .ref q3_97, .int 0, .int 0, .int 1, .ref q7_98, .ref q8_99])), (q7_98, .inr (7, [.ref d0_100, .ref d1_101, .ref d2_102, .int 0, .int 0, .int 0])), (q8_99, .inr (7, [.ref e0_103, .ref e1_104, .ref e2_105, .int 0, .int 0, .int 0]))] := hD
  clear hPc hDc hKc
  refine va_putF (D := (dC, dI)) (ci := 11) (v := .ref q_107) (ty := .object "ShellHeap$Judge") (C := RX11) (T := TX11) (N := 10) hx hb hts hiX11 tyX11 tyX11_ok nmX11 hown hK hP hD hS 0 rfl rfl 9 (by decide) w__fieldLink_RX11_83_ShellHeap_judge_LShellHeap_Judge_ (fun _ h9 => h9) rfl hin rfl (by decide +kernel) rfl rfl (Nat.le_of_ble_eq_true rfl) dX11_init_147 (fun H_112 locs hP hD hS => ?_)
  have hP : va_P (dC, dI) vwCl [(h0, .inr (11, [.ref q_1, .ref q_9, .ref q_19, .ref q_31, .ref q_45, .ref q_61, .ref q_75, .ref q_84, .ref q_90, .ref q_107])), (q_1, .inr (10, [.ref q0_6, .int 0, .int 0, .int 0, .int 0, .int 0, .int 0, .int 0, .int (-1), .int 0, .int (-1)])), (q0_6, .inl (qc0_7, 700, .inl (fun _ => 0))), (q_9, .inr (0, [.ref q0_14, .ref q1_15, .ref q2_16, .ref q3_17, .int 0, .int 0])), (q_19, .inr (4, [.ref q_9, .int (-1), .int (-1), .ref q3_24, .ref q4_25, .ref q5_26, .ref q6_27, .ref q7_28, .ref q8_29, .int 0])), (q_31, .inr (2, [.int 6, .int 6, .ref q2_36, .ref q3_37, .ref q4_38, .ref q5_39, .ref q6_40, .int 0, .int 0, .int 0, .int 0])), (q2_36, .inl (qc2_41, 10, .inl (fun _ => 0))), (q3_37, .inl (qc3_42, 10, .inl (fun _ => 0))), (q6_40, .inl (qc6_43, 120, .inl (fun _ => 0))), (q_45, .inr (5, [.ref q0_50, .ref q1_51, .ref q2_52, .ref q3_53, .ref q4_54, .ref q5_55, .ref q6_56, .long 0, .long 0, .int 0])), (q0_50, .inl (qc0_57, 6, .inl (fun _ => 0))), (q1_51, .inl (qc1_58, 6, .inl (fun _ => 0))), (q4_54, .inl (qc4_59, 24, .inl (fun _ => 0))), (q_61, .inr (6, [.ref q0_66, .ref q1_67, .ref q2_68, .ref q3_69, .ref q4_70, .ref q5_71, .int (-1)])), (q0_66, .inl (qc0_72, 48, .inl g_73)), (q_75, .inr (9, [.ref q0_80, .ref q1_81, .ref q2_82, .int 0])), (q_90, .inr (8, [.ref q_1, .ref q1_95, .ref q2_96, .ref q3_97, .int 0, .int 0, .int 1, .ref q7_98, .ref q8_99])), (q7_98, .inr (7, [.ref d0_100, .ref d1_101, .ref d2_102, .int 0, .int 0, .int 0])), (q8_99, .inr (7, [.ref e0_103, .ref e1_104, .ref e2_105, .int 0, .int 0, .int 0]))] H_112 := hP
  have hD : va_D A [(h0, .inr (11, [.ref q_1, .ref q_9, .ref q_19, .ref q_31, .ref q_45, .ref q_61, .ref q_75, .ref q_84, .ref q_90, .ref q_107])), (q_1, .inr (10, [.ref q0_6, .int 0, .int 0, .int 0, .int 0, .int 0, .int 0, .int 0, .int (-1), .int 0, .int (-1)])), (q0_6, .inl (qc0_7, 700, .inl (fun _ => 0))), (q_9, .inr (0, [.ref q0_14, .ref q1_15, .ref q2_16, .ref q3_17, .int 0, .int 0])), (q_19, .inr (4, [.ref q_9, .int (-1), .int (-1), .ref q3_24, .ref q4_25, .ref q5_26, .ref q6_27, .ref q7_28, .ref q8_29, .int 0])), (q_31, .inr (2, [.int 6, .int 6, .ref q2_36, .ref q3_37, .ref q4_38, .ref q5_39, .ref q6_40, .int 0, .int 0, .int 0, .int 0])), (q2_36, .inl (qc2_41, 10, .inl (fun _ => 0))), (q3_37, .inl (qc3_42, 10, .inl (fun _ => 0))), (q6_40, .inl (qc6_43, 120, .inl (fun _ => 0))), (q_45, .inr (5, [.ref q0_50, .ref q1_51, .ref q2_52, .ref q3_53, .ref q4_54, .ref q5_55, .ref q6_56, .long 0, .long 0, .int 0])), (q0_50, .inl (qc0_57, 6, .inl (fun _ => 0))), (q1_51, .inl (qc1_58, 6, .inl (fun _ => 0))), (q4_54, .inl (qc4_59, 24, .inl (fun _ => 0))), (q_61, .inr (6, [.ref q0_66, .ref q1_67, .ref q2_68, .ref q3_69, .ref q4_70, .ref q5_71, .int (-1)])), (q0_66, .inl (qc0_72, 48, .inl g_73)), (q_75, .inr (9, [.ref q0_80, .ref q1_81, .ref q2_82, .int 0])), (q_90, .inr (8, [.ref q_1, .ref q1_95, .ref q2_96, .ref q3_97, .int 0, .int 0, .int 1, .ref q7_98, .ref q8_99])), (q7_98, .inr (7, [.ref d0_100, .ref d1_101, .ref d2_102, .int 0, .int 0, .int 0])), (q8_99, .inr (7, [.ref e0_103, .ref e1_104, .ref e2_105, .int 0, .int 0, .int 0]))] := hD
  have hP9 := hP.sub (ws' := [(h0, .inr (11, [.ref q_1, .ref q_9, .ref q_19, .ref q_31, .ref q_45, .ref q_61, .ref q_75, .ref q_84, .ref q_90, .ref q_107])), (q_1, .inr (10, [.ref q0_6, .int 0, .int 0, .int 0, .int 0, .int 0, .int 0, .int 0, .int (-1), .int 0, .int (-1)])), (q0_6, .inl (qc0_7, 700, .inl (fun _ => 0))), (q_9, .inr (0, [.ref q0_14, .ref q1_15, .ref q2_16, .ref q3_17, .int 0, .int 0])), (q_19, .inr (4, [.ref q_9, .int (-1), .int (-1), .ref q3_24, .ref q4_25, .ref q5_26, .ref q6_27, .ref q7_28, .ref q8_29, .int 0])), (q_31, .inr (2, [.int 6, .int 6, .ref q2_36, .ref q3_37, .ref q4_38, .ref q5_39, .ref q6_40, .int 0, .int 0, .int 0, .int 0])), (q2_36, .inl (qc2_41, 10, .inl (fun _ => 0))), (q3_37, .inl (qc3_42, 10, .inl (fun _ => 0))), (q6_40, .inl (qc6_43, 120, .inl (fun _ => 0))), (q_45, .inr (5, [.ref q0_50, .ref q1_51, .ref q2_52, .ref q3_53, .ref q4_54, .ref q5_55, .ref q6_56, .long 0, .long 0, .int 0])), (q0_50, .inl (qc0_57, 6, .inl (fun _ => 0))), (q1_51, .inl (qc1_58, 6, .inl (fun _ => 0))), (q4_54, .inl (qc4_59, 24, .inl (fun _ => 0))), (q_61, .inr (6, [.ref q0_66, .ref q1_67, .ref q2_68, .ref q3_69, .ref q4_70, .ref q5_71, .int (-1)])), (q0_66, .inl (qc0_72, 48, .inl g_73)), (q_75, .inr (9, [.ref q0_80, .ref q1_81, .ref q2_82, .int 0])), (q_90, .inr (8, [.ref q_1, .ref q1_95, .ref q2_96, .ref q3_97, .int 0, .int 0, .int 1, .ref q7_98, .ref q8_99])), (q7_98, .inr (7, [.ref d0_100, .ref d1_101, .ref d2_102, .int 0, .int 0, .int 0])), (q8_99, .inr (7, [.ref e0_103, .ref e1_104, .ref e2_105, .int 0, .int 0, .int 0]))]) [0, 1, 2, 3, 4, 5, 6, 7, 8, 9, 10, 11, 12, 13, 14, 15, 16, 17, 18] rfl
  have hD9 := hD.sub (ws' := [(h0, .inr (11, [.ref q_1, .ref q_9, .ref q_19, .ref q_31, .ref q_45, .ref q_61, .ref q_75, .ref q_84, .ref q_90, .ref q_107])), (q_1, .inr (10, [.ref q0_6, .int 0, .int 0, .int 0, .int 0, .int 0, .int 0, .int 0, .int (-1), .int 0, .int (-1)])), (q0_6, .inl (qc0_7, 700, .inl (fun _ => 0))), (q_9, .inr (0, [.ref q0_14, .ref q1_15, .ref q2_16, .ref q3_17, .int 0, .int 0])), (q_19, .inr (4, [.ref q_9, .int (-1), .int (-1), .ref q3_24, .ref q4_25, .ref q5_26, .ref q6_27, .ref q7_28, .ref q8_29, .int 0])), (q_31, .inr (2, [.int 6, .int 6, .ref q2_36, .ref q3_37, .ref q4_38, .ref q5_39, .ref q6_40, .int 0, .int 0, .int 0, .int 0])), (q2_36, .inl (qc2_41, 10, .inl (fun _ => 0))), (q3_37, .inl (qc3_42, 10, .inl (fun _ => 0))), (q6_40, .inl (qc6_43, 120, .inl (fun _ => 0))), (q_45, .inr (5, [.ref q0_50, .ref q1_51, .ref q2_52, .ref q3_53, .ref q4_54, .ref q5_55, .ref q6_56, .long 0, .long 0, .int 0])), (q0_50, .inl (qc0_57, 6, .inl (fun _ => 0))), (q1_51, .inl (qc1_58, 6, .inl (fun _ => 0))), (q4_54, .inl (qc4_59, 24, .inl (fun _ => 0))), (q_61, .inr (6, [.ref q0_66, .ref q1_67, .ref q2_68, .ref q3_69, .ref q4_70, .ref q5_71, .int (-1)])), (q0_66, .inl (qc0_72, 48, .inl g_73)), (q_75, .inr (9, [.ref q0_80, .ref q1_81, .ref q2_82, .int 0])), (q_90, .inr (8, [.ref q_1, .ref q1_95, .ref q2_96, .ref q3_97, .int 0, .int 0, .int 1, .ref q7_98, .ref q8_99])), (q7_98, .inr (7, [.ref d0_100, .ref d1_101, .ref d2_102, .int 0, .int 0, .int 0])), (q8_99, .inr (7, [.ref e0_103, .ref e1_104, .ref e2_105, .int 0, .int 0, .int 0]))]) [0, 1, 2, 3, 4, 5, 6, 7, 8, 9, 10, 11, 12, 13, 14, 15, 16, 17, 18] (by decide) rfl
  have hK9 := hK.sub (tys' := [(qc0_7, .int), (qc2_41, .int), (qc3_42, .int), (qc6_43, .int), (qc0_57, .int), (qc1_58, .int), (qc4_59, .int), (qc0_72, .int)]) [0, 1, 2, 3, 4, 5, 6, 7] rfl
  refine W.widen (k := 56) (n := 14886) (Nat.le_of_ble_eq_true rfl) (Nat.le_of_ble_eq_true rfl) ?_
  exact W.vret hx hb hr (fun t ht hW => ⟨⟨(), rfl, trivial, ⟨q_1, q_9, q_19, q_31, q_45, q_61, q_75, q_84, q_90, q_107, q0_6, qc0_7, q0_14, q1_15, q2_16, q3_17, q3_24, q4_25, q5_26, q6_27, q7_28, q8_29, q2_36, q3_37, q4_38, q5_39, q6_40, qc2_41, qc3_42, qc6_43, q0_50, q1_51, q2_52, q3_53, q4_54, q5_55, q6_56, qc0_57, qc1_58, qc4_59, q0_66, q1_67, q2_68, q3_69, q4_70, q5_71, qc0_72, g_73, q0_80, q1_81, q2_82, q1_95, q2_96, q3_97, q7_98, q8_99, d0_100, d1_101, d2_102, e0_103, e1_104, e2_105, by rw [ht]; exact hP9, va_K.moved hW.alike hK9, hD9⟩⟩, hS.F ht⟩) hS.2.2 dX11_init_150
