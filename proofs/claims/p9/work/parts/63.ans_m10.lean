def u_s_X10_put3 : List Cond := .code yX10_put cX10_put 3 none :: ([.fieldLink RX10 26 "ShellHeap$Tape" "fed" "I", .fieldLink RX10 11 "ShellHeap$Tape" "bytes" "[I"] ++ (wsX100 ++ []))
theorem gd_s_X10_put3 : z_gd u_s_X10_put3 := z_gdc (by decide +kernel) (z_gda gdX10 (z_gd0))
set_option maxHeartbeats 4000000 in
set_option maxRecDepth 100000 in
theorem s_X10_put3 (l : Launch) (dC : Nat → ClassId) (dI : Nat → Nat → Nat) (sz : Nat) (h0 : Nat) (p1 : Int32) (h1 : Nat) (h0_1 : Value) (h0_2 : Value) (h0_3 : Value) (tf : Int32) (h0_5 : Value) (h0_6 : Value) (h0_7 : Value) (h0_8 : Value) (h0_9 : Value) (h0_10 : Value) (ch1 : ClassId) (fh1 : Nat → Int32) (hB_tf : ((0 : Int) ≤ (tf).toInt ∧ (tf).toInt ≤ (696 : Int))) (hI_h1 : ∀ j : Nat, ((0 : Int) ≤ (fh1 j).toInt ∧ (fh1 j).toInt ≤ (255 : Int))) : Met l yX10_put u_s_X10_put3 ({ frames := 0, cells := 0, slots := 0, locals := 0 }) (va_Pc [.ref h0, .int p1] (z_C (dC, dI) vwCl [(h0, .inr (10, [.ref h1, h0_1, h0_2, h0_3, .int tf, h0_5, h0_6, h0_7, h0_8, h0_9, h0_10])), (h1, .inl (ch1, 700, .inl fh1))] [(ch1, .int)] sz)) (va_Qv (fun (_ : Unit) => True) (fun (_ : Unit) (t : State) => ∃ (n_h0_fed : Int32), ∃ (g_h1 : Nat → Int32), ((4 : Int) ≤ (n_h0_fed).toInt ∧ (n_h0_fed).toInt ≤ (700 : Int)) ∧ (∀ j : Nat, ((0 : Int) ≤ (g_h1 j).toInt ∧ (g_h1 j).toInt ≤ (255 : Int))) ∧ (n_h0_fed.toInt = tf.toInt + 4) ∧ (g_h1 = f_fe fh1 tf.toNatClampNeg (f_b4 p1) 4) ∧ va_P (dC, dI) vwCl [(h0, .inr (10, [.ref h1, h0_1, h0_2, h0_3, .int n_h0_fed, h0_5, h0_6, h0_7, h0_8, h0_9, h0_10])), (h1, .inl (ch1, 700, .inl g_h1))] t.heap ∧ va_K (dC, dI) vwCl [] t ∧ va_D (va_A [(h0, .inr (10, [.ref h1, h0_1, h0_2, h0_3, .int tf, h0_5, h0_6, h0_7, h0_8, h0_9, h0_10])), (h1, .inl (ch1, 700, .inl fh1))] sz) [(h0, .inr (10, [.ref h1, h0_1, h0_2, h0_3, .int n_h0_fed, h0_5, h0_6, h0_7, h0_8, h0_9, h0_10])), (h1, .inl (ch1, 700, .inl g_h1))]) (va_A [(h0, .inr (10, [.ref h1, h0_1, h0_2, h0_3, .int tf, h0_5, h0_6, h0_7, h0_8, h0_9, h0_10])), (h1, .inl (ch1, 700, .inl fh1))] sz)) 0 0 (va_A [(h0, .inr (10, [.ref h1, h0_1, h0_2, h0_3, .int tf, h0_5, h0_6, h0_7, h0_8, h0_9, h0_10])), (h1, .inl (ch1, 700, .inl fh1))] sz) := by
  refine Met.ofW (cc := cX10_put) (maxL := 3) (ret := none) (by decide) rfl ?_
  intro p e s m args below meth c s₁ B hml hv
  obtain ⟨rfl, hsz, hP, hK, hD0⟩ := hv
  have hx := B.exec
  have hb := B.bytes
  have hr := B.returns
  have hts := atoms_spec (ws := u_s_X10_put3) B.pre
  have hown : s.vm.findClass RX10 = some m.cls := findClass_of_methodNamed B.named
  have hlocks := B.notSynchronized
  subst hsz
  have hD := hD0.self (sz := s.heap.size)
  generalize hAe : va_A [(h0, .inr (10, [.ref h1, h0_1, h0_2, h0_3, .int tf, h0_5, h0_6, h0_7, h0_8, h0_9, h0_10])), (h1, .inl (ch1, 700, .inl fh1))] s.heap.size = A at hD ⊢
  have hA : ∀ q : Nat, s.heap.size ≤ q → A q := fun q h => by rw [← hAe]; exact Or.inr h
  have hS : va_S A s.heap s.heap [] := va_S.rf
  have hP : va_P (dC, dI) vwCl [(h0, .inr (10, [.ref h1, h0_1, h0_2, h0_3, .int tf, h0_5, h0_6, h0_7, h0_8, h0_9, h0_10])), (h1, .inl (ch1, 700, .inl fh1))] s.heap := hP
  have w__fieldLink_RX10_26_ShellHeap_Tape_fed_I_ := hts (.fieldLink RX10 26 "ShellHeap$Tape" "fed" "I") (z_mc (z_ml z_m0))
  have hiX10 := show ∀ w ∈ u_ws RX10 TX10 11, w ∈ u_s_X10_put3 from fun w h => z_mc (z_mr (z_ml h))
  have w__fieldLink_RX10_11_ShellHeap_Tape_bytes_I_ := hts (.fieldLink RX10 11 "ShellHeap$Tape" "bytes" "[I") (z_mc (z_ml z_m1))
  have krr_p1 := z_rng p1
  have hl := lv_entry ([.ref h0, .int p1]) (n := 3) (Nat.le_of_ble_eq_true rfl)
  rw [lg_entry_eq]
  generalize (lg_sl ([.ref h0, .int p1]) ++ List.replicate (3 - (lg_sl ([.ref h0, .int p1])).length) Slot.unset).toArray = ls at hl ⊢
  have hl : lv_has ls 3 [(0, .ref h0), (1, .int p1)] := hl
  refine lv_bipush (v := 24) hx hb dX10_put_0 (by decide) ?_
  refine lv_istore_n (lv' := [(2, .int 24), (0, .ref h0), (1, .int p1)]) hx hb dX10_put_2 rfl hl (by decide) rfl (fun ls hl => ?_)
  refine lv_iload_n hx hb dX10_put_3 rfl (lv_at hl 0 rfl) ?_
  refine lv_if_lt (tgt := 49) hx hb dX10_put_4 (by decide) (fun c_1 => absurd c_1 (by decide)) (fun _ => ?_)
  refine lv_aload_n hx hb dX10_put_7 rfl (lv_at hl 1 rfl) ?_
  refine va_get (D := (dC, dI)) (ci := 10) (v := .int tf) (C := RX10) (T := TX10) (N := 11) hx hb hts hiX10 hown hK hP 0 rfl rfl 4 (by decide) w__fieldLink_RX10_26_ShellHeap_Tape_fed_I_ (fun _ h9 => h9) rfl dX10_put_8 ?_
  refine lv_sipush (v := 700) hx hb dX10_put_11 (by decide) ?_
  refine lv_icmp_ge (tgt := 49) hx hb dX10_put_14 (by decide) (fun c_2 => ?_) (fun c_2 => ?_)
  · exfalso
    have k_3 : (700 : Int) ≤ (tf).toInt := z_le c_2
    omega
  refine lv_aload_n hx hb dX10_put_17 rfl (lv_at hl 1 rfl) ?_
  refine va_get (D := (dC, dI)) (ci := 10) (v := .ref h1) (C := RX10) (T := TX10) (N := 11) hx hb hts hiX10 hown hK hP 0 rfl rfl 0 (by decide) w__fieldLink_RX10_11_ShellHeap_Tape_bytes_I_ (fun _ h9 => h9) rfl dX10_put_18 ?_
  refine lv_aload_n hx hb dX10_put_21 rfl (lv_at hl 1 rfl) ?_
  refine va_get (D := (dC, dI)) (ci := 10) (v := .int tf) (C := RX10) (T := TX10) (N := 11) hx hb hts hiX10 hown hK hP 0 rfl rfl 4 (by decide) w__fieldLink_RX10_26_ShellHeap_Tape_fed_I_ (fun _ h9 => h9) rfl dX10_put_22 ?_
  refine lv_iload_n hx hb dX10_put_25 rfl (lv_at hl 2 rfl) ?_
  refine lv_iload_n hx hb dX10_put_26 rfl (lv_at hl 0 rfl) ?_
  refine lv_iushr hx hb dX10_put_27 rfl ?_
  refine lv_topi (fun z_4 ez_4 => ?_)
  refine lv_sipush (v := 255) hx hb dX10_put_28 (by decide) ?_
  refine lv_iand hx hb dX10_put_31 ?_
  refine lv_topi (fun z_5 ez_5 => ?_)
  have kz_5 : (0 : Int) ≤ (z_5).toInt ∧ (z_5).toInt ≤ (255 : Int) := by rw [ez_5]; exact z_and _ 8 (by decide) (by decide)
  refine va_iast hx hb hK hP hD hS 1 0 rfl rfl (z_vpinB hB_tf (by decide) (by decide)) dX10_put_32 (fun H_6 locs hP hD hS => ?_)
  obtain ⟨hP, hD⟩ := z_s_1 hP hD
  have hI_f_7 : ∀ j : Nat, ((0 : Int) ≤ ((upd fh1 (tf : Int32).toNatClampNeg z_5) j).toInt ∧ ((upd fh1 (tf : Int32).toNatClampNeg z_5) j).toInt ≤ (255 : Int)) := z_updP (P := fun v => ((0 : Int) ≤ (v).toInt ∧ (v).toInt ≤ (255 : Int))) hI_h1 (show ((0 : Int) ≤ (z_5).toInt ∧ (z_5).toInt ≤ (255 : Int)) from by first | omega | decide)
  have hfe_8 : (upd fh1 (tf : Int32).toNatClampNeg z_5) = f_fe fh1 (tf).toNatClampNeg (f_b4 p1) 1 := f_fe_s (k := 0) rfl (by have h8 : (tf : Int32).toNatClampNeg = (tf).toInt.toNat := rfl; have h9 : (tf).toNatClampNeg = (tf).toInt.toNat := rfl; omega) (by rw [ez_5, ez_4]; exact f_us0 p1)
  generalize (upd fh1 (tf : Int32).toNatClampNeg z_5) = f_7 at hP hD hI_f_7 hfe_8
  refine lv_aload_n hx hb dX10_put_33 rfl (lv_at hl 1 rfl) ?_
  refine lv_dup hx hb dX10_put_34 rfl ?_
  refine va_get (D := (dC, dI)) (ci := 10) (v := .int tf) (C := RX10) (T := TX10) (N := 11) hx hb hts hiX10 hown hK hP 0 rfl rfl 4 (by decide) w__fieldLink_RX10_26_ShellHeap_Tape_fed_I_ (fun _ h9 => h9) rfl dX10_put_35 ?_
  refine lv_iconst (v := 1) hx hb dX10_put_38 (by decide) ?_
  refine lv_iadd hx hb dX10_put_39 ?_
  refine lv_topi (fun z_9 ez_9 => ?_)
  have kz_9 : (z_9).toInt = (tf).toInt + (1 : Int) := by rw [ez_9]; exact z_add (a := (tf).toInt) (b := (1 : Int)) rfl rfl (z_al hB_tf.1 (by decide)) (z_ah hB_tf.2 (by decide))
  refine va_put (D := (dC, dI)) (ci := 10) (v := .int z_9) (ty := .int) (C := RX10) (T := TX10) (N := 11) hx hb hts hiX10 tyX10 tyX10_ok nmX10 hown hK hP hD hS 0 rfl rfl 4 (by decide) w__fieldLink_RX10_26_ShellHeap_Tape_fed_I_ (fun _ h9 => h9) rfl (by decide +kernel) rfl rfl (Nat.le_of_ble_eq_true rfl) dX10_put_40 (fun H_10 locs hP hD hS => ?_)
  obtain ⟨hP, hD⟩ := z_s_0_4 hP hD
  refine lv_iinc (v := 16) (lv' := [(2, .int 16), (0, .ref h0), (1, .int p1)]) hx hb dX10_put_43 hl (k := 0) rfl (by decide) (by decide) rfl (fun ls hl => ?_)
  refine lv_goto (tgt := 3) hx hb dX10_put_46 (by decide) ?_
  refine lv_iload_n hx hb dX10_put_3 rfl (lv_at hl 0 rfl) ?_
  refine lv_if_lt (tgt := 49) hx hb dX10_put_4 (by decide) (fun c_11 => absurd c_11 (by decide)) (fun _ => ?_)
  refine lv_aload_n hx hb dX10_put_7 rfl (lv_at hl 1 rfl) ?_
  refine va_get (D := (dC, dI)) (ci := 10) (v := .int z_9) (C := RX10) (T := TX10) (N := 11) hx hb hts hiX10 hown hK hP 0 rfl rfl 4 (by decide) w__fieldLink_RX10_26_ShellHeap_Tape_fed_I_ (fun _ h9 => h9) rfl dX10_put_8 ?_
  refine lv_sipush (v := 700) hx hb dX10_put_11 (by decide) ?_
  refine lv_icmp_ge (tgt := 49) hx hb dX10_put_14 (by decide) (fun c_12 => ?_) (fun c_12 => ?_)
  · exfalso
    have k_13 : (700 : Int) ≤ (z_9).toInt := z_le c_12
    omega
  refine lv_aload_n hx hb dX10_put_17 rfl (lv_at hl 1 rfl) ?_
  refine va_get (D := (dC, dI)) (ci := 10) (v := .ref h1) (C := RX10) (T := TX10) (N := 11) hx hb hts hiX10 hown hK hP 0 rfl rfl 0 (by decide) w__fieldLink_RX10_11_ShellHeap_Tape_bytes_I_ (fun _ h9 => h9) rfl dX10_put_18 ?_
  refine lv_aload_n hx hb dX10_put_21 rfl (lv_at hl 1 rfl) ?_
  refine va_get (D := (dC, dI)) (ci := 10) (v := .int z_9) (C := RX10) (T := TX10) (N := 11) hx hb hts hiX10 hown hK hP 0 rfl rfl 4 (by decide) w__fieldLink_RX10_26_ShellHeap_Tape_fed_I_ (fun _ h9 => h9) rfl dX10_put_22 ?_
  refine lv_iload_n hx hb dX10_put_25 rfl (lv_at hl 2 rfl) ?_
  refine lv_iload_n hx hb dX10_put_26 rfl (lv_at hl 0 rfl) ?_
  refine lv_iushr hx hb dX10_put_27 rfl ?_
  refine lv_topi (fun z_14 ez_14 => ?_)
  refine lv_sipush (v := 255) hx hb dX10_put_28 (by decide) ?_
  refine lv_iand hx hb dX10_put_31 ?_
  refine lv_topi (fun z_15 ez_15 => ?_)
  have kz_15 : (0 : Int) ≤ (z_15).toInt ∧ (z_15).toInt ≤ (255 : Int) := by rw [ez_15]; exact z_and _ 8 (by decide) (by decide)
  refine va_iast hx hb hK hP hD hS 1 0 rfl rfl (z_vpin (by omega) (by omega)) dX10_put_32 (fun H_16 locs hP hD hS => ?_)
  obtain ⟨hP, hD⟩ := z_s_1 hP hD
  have hI_f_17 : ∀ j : Nat, ((0 : Int) ≤ ((upd f_7 (z_9 : Int32).toNatClampNeg z_15) j).toInt ∧ ((upd f_7 (z_9 : Int32).toNatClampNeg z_15) j).toInt ≤ (255 : Int)) := z_updP (P := fun v => ((0 : Int) ≤ (v).toInt ∧ (v).toInt ≤ (255 : Int))) hI_f_7 (show ((0 : Int) ≤ (z_15).toInt ∧ (z_15).toInt ≤ (255 : Int)) from by first | omega | decide)
  have hfe_18 : (upd f_7 (z_9 : Int32).toNatClampNeg z_15) = f_fe fh1 (tf).toNatClampNeg (f_b4 p1) 2 := f_fe_s (k := 1) hfe_8 (by have h8 : (z_9 : Int32).toNatClampNeg = (z_9).toInt.toNat := rfl; have h9 : (tf).toNatClampNeg = (tf).toInt.toNat := rfl; omega) (by rw [ez_15, ez_14]; exact f_us1 p1)
  generalize (upd f_7 (z_9 : Int32).toNatClampNeg z_15) = f_17 at hP hD hI_f_17 hfe_18
  refine lv_aload_n hx hb dX10_put_33 rfl (lv_at hl 1 rfl) ?_
  refine lv_dup hx hb dX10_put_34 rfl ?_
  refine va_get (D := (dC, dI)) (ci := 10) (v := .int z_9) (C := RX10) (T := TX10) (N := 11) hx hb hts hiX10 hown hK hP 0 rfl rfl 4 (by decide) w__fieldLink_RX10_26_ShellHeap_Tape_fed_I_ (fun _ h9 => h9) rfl dX10_put_35 ?_
  refine lv_iconst (v := 1) hx hb dX10_put_38 (by decide) ?_
  refine lv_iadd hx hb dX10_put_39 ?_
  refine lv_topi (fun z_19 ez_19 => ?_)
  have kz_19 : (z_19).toInt = (z_9).toInt + (1 : Int) := by rw [ez_19]; exact z_add (a := (z_9).toInt) (b := (1 : Int)) rfl rfl (by omega) (by omega)
  refine va_put (D := (dC, dI)) (ci := 10) (v := .int z_19) (ty := .int) (C := RX10) (T := TX10) (N := 11) hx hb hts hiX10 tyX10 tyX10_ok nmX10 hown hK hP hD hS 0 rfl rfl 4 (by decide) w__fieldLink_RX10_26_ShellHeap_Tape_fed_I_ (fun _ h9 => h9) rfl (by decide +kernel) rfl rfl (Nat.le_of_ble_eq_true rfl) dX10_put_40 (fun H_20 locs hP hD hS => ?_)
  obtain ⟨hP, hD⟩ := z_s_0_4 hP hD
  refine lv_iinc (v := 8) (lv' := [(2, .int 8), (0, .ref h0), (1, .int p1)]) hx hb dX10_put_43 hl (k := 0) rfl (by decide) (by decide) rfl (fun ls hl => ?_)
  refine lv_goto (tgt := 3) hx hb dX10_put_46 (by decide) ?_
  refine lv_iload_n hx hb dX10_put_3 rfl (lv_at hl 0 rfl) ?_
  refine lv_if_lt (tgt := 49) hx hb dX10_put_4 (by decide) (fun c_21 => absurd c_21 (by decide)) (fun _ => ?_)
  refine lv_aload_n hx hb dX10_put_7 rfl (lv_at hl 1 rfl) ?_
  refine va_get (D := (dC, dI)) (ci := 10) (v := .int z_19) (C := RX10) (T := TX10) (N := 11) hx hb hts hiX10 hown hK hP 0 rfl rfl 4 (by decide) w__fieldLink_RX10_26_ShellHeap_Tape_fed_I_ (fun _ h9 => h9) rfl dX10_put_8 ?_
  refine lv_sipush (v := 700) hx hb dX10_put_11 (by decide) ?_
  refine lv_icmp_ge (tgt := 49) hx hb dX10_put_14 (by decide) (fun c_22 => ?_) (fun c_22 => ?_)
  · exfalso
    have k_23 : (700 : Int) ≤ (z_19).toInt := z_le c_22
    omega
  refine lv_aload_n hx hb dX10_put_17 rfl (lv_at hl 1 rfl) ?_
  refine va_get (D := (dC, dI)) (ci := 10) (v := .ref h1) (C := RX10) (T := TX10) (N := 11) hx hb hts hiX10 hown hK hP 0 rfl rfl 0 (by decide) w__fieldLink_RX10_11_ShellHeap_Tape_bytes_I_ (fun _ h9 => h9) rfl dX10_put_18 ?_
  refine lv_aload_n hx hb dX10_put_21 rfl (lv_at hl 1 rfl) ?_
  refine va_get (D := (dC, dI)) (ci := 10) (v := .int z_19) (C := RX10) (T := TX10) (N := 11) hx hb hts hiX10 hown hK hP 0 rfl rfl 4 (by decide) w__fieldLink_RX10_26_ShellHeap_Tape_fed_I_ (fun _ h9 => h9) rfl dX10_put_22 ?_
  refine lv_iload_n hx hb dX10_put_25 rfl (lv_at hl 2 rfl) ?_
  refine lv_iload_n hx hb dX10_put_26 rfl (lv_at hl 0 rfl) ?_
  refine lv_iushr hx hb dX10_put_27 rfl ?_
  refine lv_topi (fun z_24 ez_24 => ?_)
  refine lv_sipush (v := 255) hx hb dX10_put_28 (by decide) ?_
  refine lv_iand hx hb dX10_put_31 ?_
  refine lv_topi (fun z_25 ez_25 => ?_)
  have kz_25 : (0 : Int) ≤ (z_25).toInt ∧ (z_25).toInt ≤ (255 : Int) := by rw [ez_25]; exact z_and _ 8 (by decide) (by decide)
  refine va_iast hx hb hK hP hD hS 1 0 rfl rfl (z_vpin (by omega) (by omega)) dX10_put_32 (fun H_26 locs hP hD hS => ?_)
  obtain ⟨hP, hD⟩ := z_s_1 hP hD
  have hI_f_27 : ∀ j : Nat, ((0 : Int) ≤ ((upd f_17 (z_19 : Int32).toNatClampNeg z_25) j).toInt ∧ ((upd f_17 (z_19 : Int32).toNatClampNeg z_25) j).toInt ≤ (255 : Int)) := z_updP (P := fun v => ((0 : Int) ≤ (v).toInt ∧ (v).toInt ≤ (255 : Int))) hI_f_17 (show ((0 : Int) ≤ (z_25).toInt ∧ (z_25).toInt ≤ (255 : Int)) from by first | omega | decide)
  have hfe_28 : (upd f_17 (z_19 : Int32).toNatClampNeg z_25) = f_fe fh1 (tf).toNatClampNeg (f_b4 p1) 3 := f_fe_s (k := 2) hfe_18 (by have h8 : (z_19 : Int32).toNatClampNeg = (z_19).toInt.toNat := rfl; have h9 : (tf).toNatClampNeg = (tf).toInt.toNat := rfl; omega) (by rw [ez_25, ez_24]; exact f_us2 p1)
  generalize (upd f_17 (z_19 : Int32).toNatClampNeg z_25) = f_27 at hP hD hI_f_27 hfe_28
  refine lv_aload_n hx hb dX10_put_33 rfl (lv_at hl 1 rfl) ?_
  refine lv_dup hx hb dX10_put_34 rfl ?_
  refine va_get (D := (dC, dI)) (ci := 10) (v := .int z_19) (C := RX10) (T := TX10) (N := 11) hx hb hts hiX10 hown hK hP 0 rfl rfl 4 (by decide) w__fieldLink_RX10_26_ShellHeap_Tape_fed_I_ (fun _ h9 => h9) rfl dX10_put_35 ?_
  refine lv_iconst (v := 1) hx hb dX10_put_38 (by decide) ?_
  refine lv_iadd hx hb dX10_put_39 ?_
  refine lv_topi (fun z_29 ez_29 => ?_)
  have kz_29 : (z_29).toInt = (z_19).toInt + (1 : Int) := by rw [ez_29]; exact z_add (a := (z_19).toInt) (b := (1 : Int)) rfl rfl (by omega) (by omega)
  refine va_put (D := (dC, dI)) (ci := 10) (v := .int z_29) (ty := .int) (C := RX10) (T := TX10) (N := 11) hx hb hts hiX10 tyX10 tyX10_ok nmX10 hown hK hP hD hS 0 rfl rfl 4 (by decide) w__fieldLink_RX10_26_ShellHeap_Tape_fed_I_ (fun _ h9 => h9) rfl (by decide +kernel) rfl rfl (Nat.le_of_ble_eq_true rfl) dX10_put_40 (fun H_30 locs hP hD hS => ?_)
  obtain ⟨hP, hD⟩ := z_s_0_4 hP hD
  refine lv_iinc (v := 0) (lv' := [(2, .int 0), (0, .ref h0), (1, .int p1)]) hx hb dX10_put_43 hl (k := 0) rfl (by decide) (by decide) rfl (fun ls hl => ?_)
  refine lv_goto (tgt := 3) hx hb dX10_put_46 (by decide) ?_
  refine lv_iload_n hx hb dX10_put_3 rfl (lv_at hl 0 rfl) ?_
  refine lv_if_lt (tgt := 49) hx hb dX10_put_4 (by decide) (fun c_31 => absurd c_31 (by decide)) (fun _ => ?_)
  refine lv_aload_n hx hb dX10_put_7 rfl (lv_at hl 1 rfl) ?_
  refine va_get (D := (dC, dI)) (ci := 10) (v := .int z_29) (C := RX10) (T := TX10) (N := 11) hx hb hts hiX10 hown hK hP 0 rfl rfl 4 (by decide) w__fieldLink_RX10_26_ShellHeap_Tape_fed_I_ (fun _ h9 => h9) rfl dX10_put_8 ?_
  refine lv_sipush (v := 700) hx hb dX10_put_11 (by decide) ?_
  refine lv_icmp_ge (tgt := 49) hx hb dX10_put_14 (by decide) (fun c_32 => ?_) (fun c_32 => ?_)
  · exfalso
    have k_33 : (700 : Int) ≤ (z_29).toInt := z_le c_32
    omega
  refine lv_aload_n hx hb dX10_put_17 rfl (lv_at hl 1 rfl) ?_
  refine va_get (D := (dC, dI)) (ci := 10) (v := .ref h1) (C := RX10) (T := TX10) (N := 11) hx hb hts hiX10 hown hK hP 0 rfl rfl 0 (by decide) w__fieldLink_RX10_11_ShellHeap_Tape_bytes_I_ (fun _ h9 => h9) rfl dX10_put_18 ?_
  refine lv_aload_n hx hb dX10_put_21 rfl (lv_at hl 1 rfl) ?_
  refine va_get (D := (dC, dI)) (ci := 10) (v := .int z_29) (C := RX10) (T := TX10) (N := 11) hx hb hts hiX10 hown hK hP 0 rfl rfl 4 (by decide) w__fieldLink_RX10_26_ShellHeap_Tape_fed_I_ (fun _ h9 => h9) rfl dX10_put_22 ?_
  refine lv_iload_n hx hb dX10_put_25 rfl (lv_at hl 2 rfl) ?_
  refine lv_iload_n hx hb dX10_put_26 rfl (lv_at hl 0 rfl) ?_
  refine lv_iushr hx hb dX10_put_27 rfl ?_
  refine lv_topi (fun z_34 ez_34 => ?_)
  refine lv_sipush (v := 255) hx hb dX10_put_28 (by decide) ?_
  refine lv_iand hx hb dX10_put_31 ?_
  refine lv_topi (fun z_35 ez_35 => ?_)
  have kz_35 : (0 : Int) ≤ (z_35).toInt ∧ (z_35).toInt ≤ (255 : Int) := by rw [ez_35]; exact z_and _ 8 (by decide) (by decide)
  refine va_iast hx hb hK hP hD hS 1 0 rfl rfl (z_vpin (by omega) (by omega)) dX10_put_32 (fun H_36 locs hP hD hS => ?_)
  obtain ⟨hP, hD⟩ := z_s_1 hP hD
  have hI_f_37 : ∀ j : Nat, ((0 : Int) ≤ ((upd f_27 (z_29 : Int32).toNatClampNeg z_35) j).toInt ∧ ((upd f_27 (z_29 : Int32).toNatClampNeg z_35) j).toInt ≤ (255 : Int)) := z_updP (P := fun v => ((0 : Int) ≤ (v).toInt ∧ (v).toInt ≤ (255 : Int))) hI_f_27 (show ((0 : Int) ≤ (z_35).toInt ∧ (z_35).toInt ≤ (255 : Int)) from by first | omega | decide)
  have hfe_38 : (upd f_27 (z_29 : Int32).toNatClampNeg z_35) = f_fe fh1 (tf).toNatClampNeg (f_b4 p1) 4 := f_fe_s (k := 3) hfe_28 (by have h8 : (z_29 : Int32).toNatClampNeg = (z_29).toInt.toNat := rfl; have h9 : (tf).toNatClampNeg = (tf).toInt.toNat := rfl; omega) (by rw [ez_35, ez_34]; exact f_us3 p1)
  generalize (upd f_27 (z_29 : Int32).toNatClampNeg z_35) = f_37 at hP hD hI_f_37 hfe_38
  refine lv_aload_n hx hb dX10_put_33 rfl (lv_at hl 1 rfl) ?_
  refine lv_dup hx hb dX10_put_34 rfl ?_
  refine va_get (D := (dC, dI)) (ci := 10) (v := .int z_29) (C := RX10) (T := TX10) (N := 11) hx hb hts hiX10 hown hK hP 0 rfl rfl 4 (by decide) w__fieldLink_RX10_26_ShellHeap_Tape_fed_I_ (fun _ h9 => h9) rfl dX10_put_35 ?_
  refine lv_iconst (v := 1) hx hb dX10_put_38 (by decide) ?_
  refine lv_iadd hx hb dX10_put_39 ?_
  refine lv_topi (fun z_39 ez_39 => ?_)
  have kz_39 : (z_39).toInt = (z_29).toInt + (1 : Int) := by rw [ez_39]; exact z_add (a := (z_29).toInt) (b := (1 : Int)) rfl rfl (by omega) (by omega)
  refine va_put (D := (dC, dI)) (ci := 10) (v := .int z_39) (ty := .int) (C := RX10) (T := TX10) (N := 11) hx hb hts hiX10 tyX10 tyX10_ok nmX10 hown hK hP hD hS 0 rfl rfl 4 (by decide) w__fieldLink_RX10_26_ShellHeap_Tape_fed_I_ (fun _ h9 => h9) rfl (by decide +kernel) rfl rfl (Nat.le_of_ble_eq_true rfl) dX10_put_40 (fun H_40 locs hP hD hS => ?_)
  obtain ⟨hP, hD⟩ := z_s_0_4 hP hD
  refine lv_iinc (v := (-8)) (lv' := [(2, .int (-8)), (0, .ref h0), (1, .int p1)]) hx hb dX10_put_43 hl (k := 0) rfl (by decide) (by decide) rfl (fun ls hl => ?_)
  refine lv_goto (tgt := 3) hx hb dX10_put_46 (by decide) ?_
  refine lv_iload_n hx hb dX10_put_3 rfl (lv_at hl 0 rfl) ?_
  refine lv_if_lt (tgt := 49) hx hb dX10_put_4 (by decide) (fun _ => ?_) (fun c_41 => absurd (by decide) c_41)
  have hP9 := hP
  have hD9 := hD
  have hK9 := hK.sub (tys' := []) [] rfl
  refine W.widen (k := 0) (n := 0) (Nat.le_of_ble_eq_true rfl) (Nat.le_of_ble_eq_true rfl) ?_
  exact W.vret hx hb hr (fun t ht hW => ⟨⟨(), rfl, trivial, ⟨z_39, f_37, (by first | omega | decide), hI_f_37, (show z_39.toInt = tf.toInt + 4 by omega), (show f_37 = f_fe fh1 tf.toNatClampNeg (f_b4 p1) 4 from hfe_38), by rw [ht]; exact hP9, va_K.moved hW.alike hK9, hD9⟩⟩, hS.F ht⟩) hS.2.2 dX10_put_49
def u_s_X10_hasRoomA : List Cond := .code yX10_hasRoom cX10_hasRoom 1 (some .boolean) :: ([.fieldLink RX10 26 "ShellHeap$Tape" "fed" "I"] ++ (wsX100 ++ []))
theorem gd_s_X10_hasRoomA : z_gd u_s_X10_hasRoomA := z_gdc (by decide +kernel) (z_gda gdX10 (z_gd0))
set_option maxHeartbeats 4000000 in
set_option maxRecDepth 100000 in
theorem s_X10_hasRoomA (l : Launch) (dC : Nat → ClassId) (dI : Nat → Nat → Nat) (sz : Nat) (h0 : Nat) (h0_0 : Value) (h0_1 : Value) (h0_2 : Value) (h0_3 : Value) (tf : Int32) (h0_5 : Value) (h0_6 : Value) (h0_7 : Value) (h0_8 : Value) (h0_9 : Value) (h0_10 : Value) (hB_tf : ((0 : Int) ≤ (tf).toInt ∧ (tf).toInt ≤ (700 : Int))) : Met l yX10_hasRoom u_s_X10_hasRoomA ({ frames := 0, cells := 0, slots := 0, locals := 0 }) (va_Pc [.ref h0] (z_C (dC, dI) vwCl [(h0, .inr (10, [h0_0, h0_1, h0_2, h0_3, .int tf, h0_5, h0_6, h0_7, h0_8, h0_9, h0_10]))] [] sz)) (va_Qi (fun (r : Int32) (_ : Unit) => (r = 1 ∧ (tf.toInt ≤ 680)) ∨ (r = 0 ∧ (680 < tf.toInt))) (fun (_ : Unit) (_ : State) => True) (va_A [] sz)) 0 0 (va_A [] sz) := by
  refine Met.ofW (cc := cX10_hasRoom) (maxL := 1) (ret := (some .boolean)) (by decide) rfl ?_
  intro p e s m args below meth c s₁ B hml hv
  obtain ⟨rfl, hsz, hP, hK, hD0⟩ := hv
  have hx := B.exec
  have hb := B.bytes
  have hr := B.returns
  have hts := atoms_spec (ws := u_s_X10_hasRoomA) B.pre
  have hown : s.vm.findClass RX10 = some m.cls := findClass_of_methodNamed B.named
  have hlocks := B.notSynchronized
  subst hsz
  have hD := hD0
  generalize hAe : va_A [] s.heap.size = A
  have hA : ∀ q : Nat, s.heap.size ≤ q → A q := fun q h => by rw [← hAe]; exact Or.inr h
  have hS : va_S A s.heap s.heap [] := va_S.rf
  have hP : va_P (dC, dI) vwCl [(h0, .inr (10, [h0_0, h0_1, h0_2, h0_3, .int tf, h0_5, h0_6, h0_7, h0_8, h0_9, h0_10]))] s.heap := hP
  have w__fieldLink_RX10_26_ShellHeap_Tape_fed_I_ := hts (.fieldLink RX10 26 "ShellHeap$Tape" "fed" "I") (z_mc (z_ml z_m0))
  have hiX10 := show ∀ w ∈ u_ws RX10 TX10 11, w ∈ u_s_X10_hasRoomA from fun w h => z_mc (z_mr (z_ml h))
  have hl := lv_entry ([.ref h0]) (n := 1) (Nat.le_of_ble_eq_true rfl)
  rw [lg_entry_eq]
  generalize (lg_sl ([.ref h0]) ++ List.replicate (1 - (lg_sl ([.ref h0])).length) Slot.unset).toArray = ls at hl ⊢
  have hl : lv_has ls 1 [(0, .ref h0)] := hl
  refine lv_aload_n hx hb dX10_hasRoom_0 rfl (lv_at hl 0 rfl) ?_
  refine va_get (D := (dC, dI)) (ci := 10) (v := .int tf) (C := RX10) (T := TX10) (N := 11) hx hb hts hiX10 hown hK hP 0 rfl rfl 4 (by decide) w__fieldLink_RX10_26_ShellHeap_Tape_fed_I_ (fun _ h9 => h9) rfl dX10_hasRoom_1 ?_
  refine lv_bipush (v := 20) hx hb dX10_hasRoom_4 (by decide) ?_
  refine lv_iadd hx hb dX10_hasRoom_6 ?_
  refine lv_topi (fun z_1 ez_1 => ?_)
  have kz_1 : (z_1).toInt = (tf).toInt + (20 : Int) := by rw [ez_1]; exact z_add (a := (tf).toInt) (b := (20 : Int)) rfl rfl (z_al hB_tf.1 (by decide)) (z_ah hB_tf.2 (by decide))
  refine lv_sipush (v := 700) hx hb dX10_hasRoom_7 (by decide) ?_
  refine lv_icmp_gt (tgt := 17) hx hb dX10_hasRoom_10 (by decide) (fun c_2 => ?_) (fun c_2 => ?_)
  · have k_3 : (700 : Int) < (z_1).toInt := z_lt c_2
    refine lv_iconst (v := 0) hx hb dX10_hasRoom_17 (by decide) ?_
    refine W.widen (k := 0) (n := 0) (Nat.le_of_ble_eq_true rfl) (Nat.le_of_ble_eq_true rfl) ?_
    exact W.zret (v := 0) hx hb hr (by rfl) (fun t ht hW => ⟨⟨0, (), rfl, (Or.inr (⟨rfl, by first | omega | decide⟩)), trivial⟩, hS.F ht⟩) hS.2.2 dX10_hasRoom_18
  · have k_4 : (700 : Int) ≥ (z_1).toInt := z_nlt c_2
    refine lv_iconst (v := 1) hx hb dX10_hasRoom_13 (by decide) ?_
    refine lv_goto (tgt := 18) hx hb dX10_hasRoom_14 (by decide) ?_
    refine W.widen (k := 0) (n := 0) (Nat.le_of_ble_eq_true rfl) (Nat.le_of_ble_eq_true rfl) ?_
    exact W.zret (v := 1) hx hb hr (by rfl) (fun t ht hW => ⟨⟨1, (), rfl, (Or.inl (⟨rfl, by first | omega | decide⟩)), trivial⟩, hS.F ht⟩) hS.2.2 dX10_hasRoom_18
def u_s_X11_feed3 : List Cond := .code yX11_feed cX11_feed 6 (some .int) :: ([.fieldLink RX11 10 "ShellHeap" "tape" "LShellHeap$Tape;", .methodLink RX11 87 yX10_hasRoom, .instanceMethod yX10_hasRoom, .selects RX10 yX10_hasRoom yX10_hasRoom, .initialized RX10, .methodLink RX11 91 yX10_put, .instanceMethod yX10_put, .selects RX10 yX10_put yX10_put, .fieldLink RX11 95 "ShellHeap$Tape" "fed" "I"] ++ (wsX110 ++ (wsX100 ++ (u_s_X10_hasRoomA ++ (u_s_X10_put3 ++ [])))))
set_option maxRecDepth 20000 in
theorem gw_s_X11_feed3_s_X10_hasRoomA_87 : GoodIn u_s_X11_feed3 (wsV RX11 87 RX10 yX10_hasRoom u_s_X10_hasRoomA) := z_gV (z_gr _ [2, 3, 4, 5] rfl (by decide +kernel)) (fun w h => ⟨z_mc (z_mr (z_mr (z_mr (z_ml h)))), gd_s_X10_hasRoomA w h⟩)
set_option maxRecDepth 20000 in
theorem gw_s_X11_feed3_s_X10_put3_91 : GoodIn u_s_X11_feed3 (wsV RX11 91 RX10 yX10_put u_s_X10_put3) := z_gV (z_gr _ [6, 7, 8, 5] rfl (by decide +kernel)) (fun w h => ⟨z_mc (z_mr (z_mr (z_mr (z_mr (z_ml h))))), gd_s_X10_put3 w h⟩)
set_option maxHeartbeats 4000000 in
set_option maxRecDepth 100000 in
theorem s_X11_feed3 (l : Launch) (dC : Nat → ClassId) (dI : Nat → Nat → Nat) (sz : Nat) (h0 : Nat) (p1 : Int32) (p2 : Int32) (p3 : Int32) (p4 : Int32) (p5 : Int32) (htp : Nat) (h0_1 : Value) (h0_2 : Value) (h0_3 : Value) (h0_4 : Value) (h0_5 : Value) (h0_6 : Value) (h0_7 : Value) (h0_8 : Value) (h0_9 : Value) (h1 : Nat) (htp_1 : Value) (htp_2 : Value) (htp_3 : Value) (tf : Int32) (htp_5 : Value) (htp_6 : Value) (htp_7 : Value) (htp_8 : Value) (htp_9 : Value) (htp_10 : Value) (ch1 : ClassId) (fh1 : Nat → Int32) (hB_tf : ((0 : Int) ≤ (tf).toInt ∧ (tf).toInt ≤ (700 : Int))) (hI_h1 : ∀ j : Nat, ((0 : Int) ≤ (fh1 j).toInt ∧ (fh1 j).toInt ≤ (255 : Int))) : Met l yX11_feed u_s_X11_feed3 ({ frames := 1, cells := 0, slots := 0, locals := 22 }) (va_Pc [.ref h0, .int p1, .int p2, .int p3, .int p4, .int p5] (z_C (dC, dI) vwCl [(h0, .inr (11, [.ref htp, h0_1, h0_2, h0_3, h0_4, h0_5, h0_6, h0_7, h0_8, h0_9])), (htp, .inr (10, [.ref h1, htp_1, htp_2, htp_3, .int tf, htp_5, htp_6, htp_7, htp_8, htp_9, htp_10])), (h1, .inl (ch1, 700, .inl fh1))] [(ch1, .int)] sz)) (va_Qi (fun (r : Int32) (_ : Unit) => r = v_feA tf) (fun (_ : Unit) (t : State) => ∃ (n_htp_fed : Int32), ∃ (g_h1 : Nat → Int32), ((0 : Int) ≤ (n_htp_fed).toInt ∧ (n_htp_fed).toInt ≤ (700 : Int)) ∧ (∀ j : Nat, ((0 : Int) ≤ (g_h1 j).toInt ∧ (g_h1 j).toInt ≤ (255 : Int))) ∧ (n_htp_fed = v_feN tf) ∧ (g_h1 = v_feB fh1 tf p1 p2 p3 p4 p5) ∧ va_P (dC, dI) vwCl [(h0, .inr (11, [.ref htp, h0_1, h0_2, h0_3, h0_4, h0_5, h0_6, h0_7, h0_8, h0_9])), (htp, .inr (10, [.ref h1, htp_1, htp_2, htp_3, .int n_htp_fed, htp_5, htp_6, htp_7, htp_8, htp_9, htp_10])), (h1, .inl (ch1, 700, .inl g_h1))] t.heap ∧ va_K (dC, dI) vwCl [] t ∧ va_D (va_A [(h0, .inr (11, [.ref htp, h0_1, h0_2, h0_3, h0_4, h0_5, h0_6, h0_7, h0_8, h0_9])), (htp, .inr (10, [.ref h1, htp_1, htp_2, htp_3, .int tf, htp_5, htp_6, htp_7, htp_8, htp_9, htp_10])), (h1, .inl (ch1, 700, .inl fh1))] sz) [(h0, .inr (11, [.ref htp, h0_1, h0_2, h0_3, h0_4, h0_5, h0_6, h0_7, h0_8, h0_9])), (htp, .inr (10, [.ref h1, htp_1, htp_2, htp_3, .int n_htp_fed, htp_5, htp_6, htp_7, htp_8, htp_9, htp_10])), (h1, .inl (ch1, 700, .inl g_h1))]) (va_A [(h0, .inr (11, [.ref htp, h0_1, h0_2, h0_3, h0_4, h0_5, h0_6, h0_7, h0_8, h0_9])), (htp, .inr (10, [.ref h1, htp_1, htp_2, htp_3, .int tf, htp_5, htp_6, htp_7, htp_8, htp_9, htp_10])), (h1, .inl (ch1, 700, .inl fh1))] sz)) 0 0 (va_A [(h0, .inr (11, [.ref htp, h0_1, h0_2, h0_3, h0_4, h0_5, h0_6, h0_7, h0_8, h0_9])), (htp, .inr (10, [.ref h1, htp_1, htp_2, htp_3, .int tf, htp_5, htp_6, htp_7, htp_8, htp_9, htp_10])), (h1, .inl (ch1, 700, .inl fh1))] sz) := by
  refine Met.ofW (cc := cX11_feed) (maxL := 6) (ret := (some .int)) (by decide) rfl ?_
  intro p e s m args below meth c s₁ B hml hv
  obtain ⟨rfl, hsz, hP, hK, hD0⟩ := hv
  have hx := B.exec
  have hb := B.bytes
  have hr := B.returns
  have hts := atoms_spec (ws := u_s_X11_feed3) B.pre
  have hown : s.vm.findClass RX11 = some m.cls := findClass_of_methodNamed B.named
  have hlocks := B.notSynchronized
  subst hsz
  have hD := hD0.self (sz := s.heap.size)
  generalize hAe : va_A [(h0, .inr (11, [.ref htp, h0_1, h0_2, h0_3, h0_4, h0_5, h0_6, h0_7, h0_8, h0_9])), (htp, .inr (10, [.ref h1, htp_1, htp_2, htp_3, .int tf, htp_5, htp_6, htp_7, htp_8, htp_9, htp_10])), (h1, .inl (ch1, 700, .inl fh1))] s.heap.size = A at hD ⊢
  have hA : ∀ q : Nat, s.heap.size ≤ q → A q := fun q h => by rw [← hAe]; exact Or.inr h
  have hS : va_S A s.heap s.heap [] := va_S.rf
  have hP : va_P (dC, dI) vwCl [(h0, .inr (11, [.ref htp, h0_1, h0_2, h0_3, h0_4, h0_5, h0_6, h0_7, h0_8, h0_9])), (htp, .inr (10, [.ref h1, htp_1, htp_2, htp_3, .int tf, htp_5, htp_6, htp_7, htp_8, htp_9, htp_10])), (h1, .inl (ch1, 700, .inl fh1))] s.heap := hP
  have w__fieldLink_RX11_10_ShellHeap_tape_LShellHeap_Tape_ := hts (.fieldLink RX11 10 "ShellHeap" "tape" "LShellHeap$Tape;") (z_mc (z_ml z_m0))
  have hiX11 := show ∀ w ∈ u_ws RX11 TX11 10, w ∈ u_s_X11_feed3 from fun w h => z_mc (z_mr (z_ml h))
  have w__fieldLink_RX11_95_ShellHeap_Tape_fed_I_ := hts (.fieldLink RX11 95 "ShellHeap$Tape" "fed" "I") (z_mc (z_ml z_m8))
  have hiX10 := show ∀ w ∈ u_ws RX10 TX10 11, w ∈ u_s_X11_feed3 from fun w h => z_mc (z_mr (z_mr (z_ml h)))
  have krr_p1 := z_rng p1
  have krr_p2 := z_rng p2
  have krr_p3 := z_rng p3
  have krr_p4 := z_rng p4
  have krr_p5 := z_rng p5
  have hl := lv_entry ([.ref h0, .int p1, .int p2, .int p3, .int p4, .int p5]) (n := 6) (Nat.le_of_ble_eq_true rfl)
  rw [lg_entry_eq]
  generalize (lg_sl ([.ref h0, .int p1, .int p2, .int p3, .int p4, .int p5]) ++ List.replicate (6 - (lg_sl ([.ref h0, .int p1, .int p2, .int p3, .int p4, .int p5])).length) Slot.unset).toArray = ls at hl ⊢
  have hl : lv_has ls 6 [(0, .ref h0), (1, .int p1), (2, .int p2), (3, .int p3), (4, .int p4), (5, .int p5)] := hl
  refine lv_aload_n hx hb dX11_feed_0 rfl (lv_at hl 0 rfl) ?_
  refine va_get (D := (dC, dI)) (ci := 11) (v := .ref htp) (C := RX11) (T := TX11) (N := 10) hx hb hts hiX11 hown hK hP 0 rfl rfl 0 (by decide) w__fieldLink_RX11_10_ShellHeap_tape_LShellHeap_Tape_ (fun _ h9 => h9) rfl dX11_feed_1 ?_
  obtain ⟨hPc, hDc⟩ := z_sub2 (ws' := [(htp, .inr (10, [.ref h1, htp_1, htp_2, htp_3, .int tf, htp_5, htp_6, htp_7, htp_8, htp_9, htp_10]))]) hP hD [1] (by decide) rfl
  have hKc := hK.sub (tys' := []) [] rfl
  have hFc := va_free (ws := []) (wc := []) (z_D0 _) hS hA [] rfl
  refine va_calli (va_runV (As := []) (rest := []) ⟨hx, hb, hml, hown, hts⟩ (s_X10_hasRoomA l dC dI s.heap.size htp (.ref h1) htp_1 htp_2 htp_3 tf htp_5 htp_6 htp_7 htp_8 htp_9 htp_10 hB_tf) (cwV 0 hts gw_s_X11_feed3_s_X10_hasRoomA_87 rfl rfl rfl (by decide +kernel) ⟨Nat.le_of_ble_eq_true rfl, Nat.le_of_ble_eq_true rfl⟩) ⟨z_blind, va_recv hKc hPc (ci := 10) (q0 := 0) rfl rfl, z_pre hPc hKc hDc⟩ rfl rfl hl.1 rfl (lv_room (Nat.le_of_ble_eq_true rfl)) dX11_feed_4 ⟨Nat.le_of_ble_eq_true rfl, Nat.le_of_ble_eq_true rfl⟩) hS (fun q _ h => hFc q h) hFc (fun r_2 u t H_1 locs ht hvm hw_3 hB hz1 hk1 hS => ?_)
  replace hP := z_pure hP hk1
  clear hPc hDc hKc
  rcases hw_3 with ⟨rfl, hw_3⟩ | ⟨rfl, hw_3⟩
  · have hw_3 : (tf.toInt ≤ 680) := hw_3
    refine lv_if_ne (tgt := 12) hx hb dX11_feed_7 (by decide) (fun _ => ?_) (fun c_4 => absurd c_4 (by decide))
    refine lv_aload_n hx hb dX11_feed_12 rfl (lv_at hl 0 rfl) ?_
    refine va_get (D := (dC, dI)) (ci := 11) (v := .ref htp) (C := RX11) (T := TX11) (N := 10) hx hb hts hiX11 hown hK hP 0 rfl rfl 0 (by decide) w__fieldLink_RX11_10_ShellHeap_tape_LShellHeap_Tape_ (fun _ h9 => h9) rfl dX11_feed_13 ?_
    refine lv_iload_n hx hb dX11_feed_16 rfl (lv_at hl 1 rfl) ?_
    obtain ⟨hPc, hDc, hFc⟩ := z_sub3 (ws' := [(htp, .inr (10, [.ref h1, htp_1, htp_2, htp_3, .int tf, htp_5, htp_6, htp_7, htp_8, htp_9, htp_10])), (h1, .inl (ch1, 700, .inl fh1))]) hP hD hS hA [1, 2] (by decide) rfl
    have hKc := hK
    refine va_callv (va_runV (As := [.int p1]) (rest := []) ⟨hx, hb, hml, hown, hts⟩ (s_X10_put3 l dC dI H_1.size htp p1 h1 htp_1 htp_2 htp_3 tf htp_5 htp_6 htp_7 htp_8 htp_9 htp_10 ch1 fh1 (by first | omega | decide) hI_h1) (cwV 1 hts gw_s_X11_feed3_s_X10_put3_91 rfl rfl rfl (by decide +kernel) ⟨Nat.le_of_ble_eq_true rfl, Nat.le_of_ble_eq_true rfl⟩) ⟨z_blind, va_recv hKc hPc (ci := 10) (q0 := 0) rfl rfl, z_pre hPc hKc hDc⟩ rfl rfl hl.1 rfl (lv_room (Nat.le_of_ble_eq_true rfl)) dX11_feed_17 ⟨Nat.le_of_ble_eq_true rfl, Nat.le_of_ble_eq_true rfl⟩) hS (fun q _ h => hFc q h) hFc (fun u t H_5 locs ht hvm hw_7 hB hz1 hk1 hS => ?_)
    obtain ⟨n_h0_fed_8, g_h1_9, hp_10, hp_11, hp_12, hp_13, hP1, hK1, hD1⟩ := hB
    rw [ht] at hP1
    have hK1 := va_K.moved hvm.symm hK1
    obtain ⟨hP, hD⟩ := z_ap_1 (va_join (wr := [(h0, .inr (11, [.ref htp, h0_1, h0_2, h0_3, h0_4, h0_5, h0_6, h0_7, h0_8, h0_9]))]) hP hD [1, 2] [0] rfl rfl (by decide) (by decide) hk1 hFc hP1 hD1)
    have hp_12 : n_h0_fed_8.toInt = tf.toInt + 4 := hp_12
    have hp_13 : g_h1_9 = f_fe fh1 tf.toNatClampNeg (f_b4 p1) 4 := hp_13
    clear hPc hDc hKc
    have hfd_14 := f_fe_j (w := f_by p1 p2 p3 p4 p5) (k := 0) rfl hp_13 (Nat.add_zero _).symm (f_by4_0 p1 p2 p3 p4 p5)
    refine lv_aload_n hx hb dX11_feed_20 rfl (lv_at hl 0 rfl) ?_
    refine va_get (D := (dC, dI)) (ci := 11) (v := .ref htp) (C := RX11) (T := TX11) (N := 10) hx hb hts hiX11 hown hK hP 0 rfl rfl 0 (by decide) w__fieldLink_RX11_10_ShellHeap_tape_LShellHeap_Tape_ (fun _ h9 => h9) rfl dX11_feed_21 ?_
    refine lv_iload_n hx hb dX11_feed_24 rfl (lv_at hl 2 rfl) ?_
    obtain ⟨hPc, hDc, hFc⟩ := z_sub3 (ws' := [(htp, .inr (10, [.ref h1, htp_1, htp_2, htp_3, .int n_h0_fed_8, htp_5, htp_6, htp_7, htp_8, htp_9, htp_10])), (h1, .inl (ch1, 700, .inl g_h1_9))]) hP hD hS hA [1, 2] (by decide) rfl
    have hKc := hK
    refine va_callv (va_runV (As := [.int p2]) (rest := []) ⟨hx, hb, hml, hown, hts⟩ (s_X10_put3 l dC dI H_5.size htp p2 h1 htp_1 htp_2 htp_3 n_h0_fed_8 htp_5 htp_6 htp_7 htp_8 htp_9 htp_10 ch1 g_h1_9 (by first | omega | decide) hp_11) (cwV 1 hts gw_s_X11_feed3_s_X10_put3_91 rfl rfl rfl (by decide +kernel) ⟨Nat.le_of_ble_eq_true rfl, Nat.le_of_ble_eq_true rfl⟩) ⟨z_blind, va_recv hKc hPc (ci := 10) (q0 := 0) rfl rfl, z_pre hPc hKc hDc⟩ rfl rfl hl.1 rfl (lv_room (Nat.le_of_ble_eq_true rfl)) dX11_feed_25 ⟨Nat.le_of_ble_eq_true rfl, Nat.le_of_ble_eq_true rfl⟩) hS (fun q _ h => hFc q h) hFc (fun u t H_15 locs ht hvm hw_17 hB hz1 hk1 hS => ?_)
    obtain ⟨n_h0_fed_18, g_h1_19, hp_20, hp_21, hp_22, hp_23, hP1, hK1, hD1⟩ := hB
    rw [ht] at hP1
    have hK1 := va_K.moved hvm.symm hK1
    obtain ⟨hP, hD⟩ := z_ap_1 (va_join (wr := [(h0, .inr (11, [.ref htp, h0_1, h0_2, h0_3, h0_4, h0_5, h0_6, h0_7, h0_8, h0_9]))]) hP hD [1, 2] [0] rfl rfl (by decide) (by decide) hk1 hFc hP1 hD1)
    have hp_22 : n_h0_fed_18.toInt = n_h0_fed_8.toInt + 4 := hp_22
    have hp_23 : g_h1_19 = f_fe g_h1_9 n_h0_fed_8.toNatClampNeg (f_b4 p2) 4 := hp_23
    clear hPc hDc hKc
    have hfd_24 := f_fe_j hfd_14 hp_23 (by have h8 : (n_h0_fed_8 : Int32).toNatClampNeg = (n_h0_fed_8).toInt.toNat := rfl; have h9 : (tf).toNatClampNeg = (tf).toInt.toNat := rfl; omega) (f_by4_1 p1 p2 p3 p4 p5)
    refine lv_aload_n hx hb dX11_feed_28 rfl (lv_at hl 0 rfl) ?_
    refine va_get (D := (dC, dI)) (ci := 11) (v := .ref htp) (C := RX11) (T := TX11) (N := 10) hx hb hts hiX11 hown hK hP 0 rfl rfl 0 (by decide) w__fieldLink_RX11_10_ShellHeap_tape_LShellHeap_Tape_ (fun _ h9 => h9) rfl dX11_feed_29 ?_
    refine lv_iload_n hx hb dX11_feed_32 rfl (lv_at hl 3 rfl) ?_
    obtain ⟨hPc, hDc, hFc⟩ := z_sub3 (ws' := [(htp, .inr (10, [.ref h1, htp_1, htp_2, htp_3, .int n_h0_fed_18, htp_5, htp_6, htp_7, htp_8, htp_9, htp_10])), (h1, .inl (ch1, 700, .inl g_h1_19))]) hP hD hS hA [1, 2] (by decide) rfl
    have hKc := hK
    refine va_callv (va_runV (As := [.int p3]) (rest := []) ⟨hx, hb, hml, hown, hts⟩ (s_X10_put3 l dC dI H_15.size htp p3 h1 htp_1 htp_2 htp_3 n_h0_fed_18 htp_5 htp_6 htp_7 htp_8 htp_9 htp_10 ch1 g_h1_19 (by first | omega | decide) hp_21) (cwV 1 hts gw_s_X11_feed3_s_X10_put3_91 rfl rfl rfl (by decide +kernel) ⟨Nat.le_of_ble_eq_true rfl, Nat.le_of_ble_eq_true rfl⟩) ⟨z_blind, va_recv hKc hPc (ci := 10) (q0 := 0) rfl rfl, z_pre hPc hKc hDc⟩ rfl rfl hl.1 rfl (lv_room (Nat.le_of_ble_eq_true rfl)) dX11_feed_33 ⟨Nat.le_of_ble_eq_true rfl, Nat.le_of_ble_eq_true rfl⟩) hS (fun q _ h => hFc q h) hFc (fun u t H_25 locs ht hvm hw_27 hB hz1 hk1 hS => ?_)
    obtain ⟨n_h0_fed_28, g_h1_29, hp_30, hp_31, hp_32, hp_33, hP1, hK1, hD1⟩ := hB
    rw [ht] at hP1
    have hK1 := va_K.moved hvm.symm hK1
    obtain ⟨hP, hD⟩ := z_ap_1 (va_join (wr := [(h0, .inr (11, [.ref htp, h0_1, h0_2, h0_3, h0_4, h0_5, h0_6, h0_7, h0_8, h0_9]))]) hP hD [1, 2] [0] rfl rfl (by decide) (by decide) hk1 hFc hP1 hD1)
    have hp_32 : n_h0_fed_28.toInt = n_h0_fed_18.toInt + 4 := hp_32
    have hp_33 : g_h1_29 = f_fe g_h1_19 n_h0_fed_18.toNatClampNeg (f_b4 p3) 4 := hp_33
    clear hPc hDc hKc
    have hfd_34 := f_fe_j hfd_24 hp_33 (by have h8 : (n_h0_fed_18 : Int32).toNatClampNeg = (n_h0_fed_18).toInt.toNat := rfl; have h9 : (tf).toNatClampNeg = (tf).toInt.toNat := rfl; omega) (f_by4_2 p1 p2 p3 p4 p5)
    refine lv_aload_n hx hb dX11_feed_36 rfl (lv_at hl 0 rfl) ?_
    refine va_get (D := (dC, dI)) (ci := 11) (v := .ref htp) (C := RX11) (T := TX11) (N := 10) hx hb hts hiX11 hown hK hP 0 rfl rfl 0 (by decide) w__fieldLink_RX11_10_ShellHeap_tape_LShellHeap_Tape_ (fun _ h9 => h9) rfl dX11_feed_37 ?_
    refine lv_iload hx hb dX11_feed_40 (lv_at hl 4 rfl) ?_
    obtain ⟨hPc, hDc, hFc⟩ := z_sub3 (ws' := [(htp, .inr (10, [.ref h1, htp_1, htp_2, htp_3, .int n_h0_fed_28, htp_5, htp_6, htp_7, htp_8, htp_9, htp_10])), (h1, .inl (ch1, 700, .inl g_h1_29))]) hP hD hS hA [1, 2] (by decide) rfl
    have hKc := hK
    refine va_callv (va_runV (As := [.int p4]) (rest := []) ⟨hx, hb, hml, hown, hts⟩ (s_X10_put3 l dC dI H_25.size htp p4 h1 htp_1 htp_2 htp_3 n_h0_fed_28 htp_5 htp_6 htp_7 htp_8 htp_9 htp_10 ch1 g_h1_29 (by first | omega | decide) hp_31) (cwV 1 hts gw_s_X11_feed3_s_X10_put3_91 rfl rfl rfl (by decide +kernel) ⟨Nat.le_of_ble_eq_true rfl, Nat.le_of_ble_eq_true rfl⟩) ⟨z_blind, va_recv hKc hPc (ci := 10) (q0 := 0) rfl rfl, z_pre hPc hKc hDc⟩ rfl rfl hl.1 rfl (lv_room (Nat.le_of_ble_eq_true rfl)) dX11_feed_42 ⟨Nat.le_of_ble_eq_true rfl, Nat.le_of_ble_eq_true rfl⟩) hS (fun q _ h => hFc q h) hFc (fun u t H_35 locs ht hvm hw_37 hB hz1 hk1 hS => ?_)
    obtain ⟨n_h0_fed_38, g_h1_39, hp_40, hp_41, hp_42, hp_43, hP1, hK1, hD1⟩ := hB
    rw [ht] at hP1
    have hK1 := va_K.moved hvm.symm hK1
    obtain ⟨hP, hD⟩ := z_ap_1 (va_join (wr := [(h0, .inr (11, [.ref htp, h0_1, h0_2, h0_3, h0_4, h0_5, h0_6, h0_7, h0_8, h0_9]))]) hP hD [1, 2] [0] rfl rfl (by decide) (by decide) hk1 hFc hP1 hD1)
    have hp_42 : n_h0_fed_38.toInt = n_h0_fed_28.toInt + 4 := hp_42
    have hp_43 : g_h1_39 = f_fe g_h1_29 n_h0_fed_28.toNatClampNeg (f_b4 p4) 4 := hp_43
    clear hPc hDc hKc
    have hfd_44 := f_fe_j hfd_34 hp_43 (by have h8 : (n_h0_fed_28 : Int32).toNatClampNeg = (n_h0_fed_28).toInt.toNat := rfl; have h9 : (tf).toNatClampNeg = (tf).toInt.toNat := rfl; omega) (f_by4_3 p1 p2 p3 p4 p5)
    refine lv_aload_n hx hb dX11_feed_45 rfl (lv_at hl 0 rfl) ?_
    refine va_get (D := (dC, dI)) (ci := 11) (v := .ref htp) (C := RX11) (T := TX11) (N := 10) hx hb hts hiX11 hown hK hP 0 rfl rfl 0 (by decide) w__fieldLink_RX11_10_ShellHeap_tape_LShellHeap_Tape_ (fun _ h9 => h9) rfl dX11_feed_46 ?_
    refine lv_iload hx hb dX11_feed_49 (lv_at hl 5 rfl) ?_
    obtain ⟨hPc, hDc, hFc⟩ := z_sub3 (ws' := [(htp, .inr (10, [.ref h1, htp_1, htp_2, htp_3, .int n_h0_fed_38, htp_5, htp_6, htp_7, htp_8, htp_9, htp_10])), (h1, .inl (ch1, 700, .inl g_h1_39))]) hP hD hS hA [1, 2] (by decide) rfl
    have hKc := hK
    refine va_callv (va_runV (As := [.int p5]) (rest := []) ⟨hx, hb, hml, hown, hts⟩ (s_X10_put3 l dC dI H_35.size htp p5 h1 htp_1 htp_2 htp_3 n_h0_fed_38 htp_5 htp_6 htp_7 htp_8 htp_9 htp_10 ch1 g_h1_39 (by first | omega | decide) hp_41) (cwV 1 hts gw_s_X11_feed3_s_X10_put3_91 rfl rfl rfl (by decide +kernel) ⟨Nat.le_of_ble_eq_true rfl, Nat.le_of_ble_eq_true rfl⟩) ⟨z_blind, va_recv hKc hPc (ci := 10) (q0 := 0) rfl rfl, z_pre hPc hKc hDc⟩ rfl rfl hl.1 rfl (lv_room (Nat.le_of_ble_eq_true rfl)) dX11_feed_51 ⟨Nat.le_of_ble_eq_true rfl, Nat.le_of_ble_eq_true rfl⟩) hS (fun q _ h => hFc q h) hFc (fun u t H_45 locs ht hvm hw_47 hB hz1 hk1 hS => ?_)
    obtain ⟨n_h0_fed_48, g_h1_49, hp_50, hp_51, hp_52, hp_53, hP1, hK1, hD1⟩ := hB
    rw [ht] at hP1
    have hK1 := va_K.moved hvm.symm hK1
    obtain ⟨hP, hD⟩ := z_ap_1 (va_join (wr := [(h0, .inr (11, [.ref htp, h0_1, h0_2, h0_3, h0_4, h0_5, h0_6, h0_7, h0_8, h0_9]))]) hP hD [1, 2] [0] rfl rfl (by decide) (by decide) hk1 hFc hP1 hD1)
    have hp_52 : n_h0_fed_48.toInt = n_h0_fed_38.toInt + 4 := hp_52
    have hp_53 : g_h1_49 = f_fe g_h1_39 n_h0_fed_38.toNatClampNeg (f_b4 p5) 4 := hp_53
    clear hPc hDc hKc
    have hfd_54 := f_fe_j hfd_44 hp_53 (by have h8 : (n_h0_fed_38 : Int32).toNatClampNeg = (n_h0_fed_38).toInt.toNat := rfl; have h9 : (tf).toNatClampNeg = (tf).toInt.toNat := rfl; omega) (f_by4_4 p1 p2 p3 p4 p5)
    refine lv_aload_n hx hb dX11_feed_54 rfl (lv_at hl 0 rfl) ?_
    refine va_get (D := (dC, dI)) (ci := 11) (v := .ref htp) (C := RX11) (T := TX11) (N := 10) hx hb hts hiX11 hown hK hP 0 rfl rfl 0 (by decide) w__fieldLink_RX11_10_ShellHeap_tape_LShellHeap_Tape_ (fun _ h9 => h9) rfl dX11_feed_55 ?_
    refine va_get (D := (dC, dI)) (ci := 10) (v := .int n_h0_fed_48) (C := RX10) (T := TX10) (N := 11) hx hb hts hiX10 hown hK hP 1 rfl rfl 4 (by decide) w__fieldLink_RX11_95_ShellHeap_Tape_fed_I_ (fun _ h9 => h9) rfl dX11_feed_58 ?_
    have hP9 := hP
    have hD9 := hD
    have hK9 := hK.sub (tys' := []) [] rfl
    refine W.widen (k := 0) (n := 0) (Nat.le_of_ble_eq_true rfl) (Nat.le_of_ble_eq_true rfl) ?_
    exact W.iret (v := n_h0_fed_48) hx hb hr (fun t ht hW => ⟨⟨n_h0_fed_48, (), rfl, (show n_h0_fed_48 = v_feA tf by unfold v_feA; rw [if_pos (by omega)]; exact z_ii (by rw [z_add (a := (tf).toInt) (b := (20 : Int)) rfl rfl (by omega) (by omega)]; omega)), ⟨n_h0_fed_48, g_h1_49, (z_bw hp_50 (by decide) (by decide)), hp_51, (show n_h0_fed_48 = v_feN tf by unfold v_feN; rw [if_pos (by omega)]; exact z_ii (by rw [z_add (a := (tf).toInt) (b := (20 : Int)) rfl rfl (by omega) (by omega)]; omega)), (show g_h1_49 = v_feB fh1 tf p1 p2 p3 p4 p5 by unfold v_feB; rw [if_pos (by omega)]; exact hfd_54), by rw [ht]; exact hP9, va_K.moved hW.alike hK9, hD9⟩⟩, hS.F ht⟩) hS.2.2 dX11_feed_61
  · have hw_3 : (680 < tf.toInt) := hw_3
    refine lv_if_ne (tgt := 12) hx hb dX11_feed_7 (by decide) (fun c_55 => absurd c_55 (by decide)) (fun _ => ?_)
    refine lv_iconst (v := (-1)) hx hb dX11_feed_10 (by decide) ?_
    have hP9 := hP
    have hD9 := hD
    have hK9 := hK.sub (tys' := []) [] rfl
    refine W.widen (k := 0) (n := 0) (Nat.le_of_ble_eq_true rfl) (Nat.le_of_ble_eq_true rfl) ?_
    exact W.iret (v := (-1)) hx hb hr (fun t ht hW => ⟨⟨(-1), (), rfl, (show (-1) = v_feA tf by unfold v_feA; rw [if_neg (by omega)]), ⟨tf, fh1, hB_tf, hI_h1, (show tf = v_feN tf by unfold v_feN; rw [if_neg (by omega)]), (show fh1 = v_feB fh1 tf p1 p2 p3 p4 p5 by unfold v_feB; rw [if_neg (by omega)]), by rw [ht]; exact hP9, va_K.moved hW.alike hK9, hD9⟩⟩, hS.F ht⟩) hS.2.2 dX11_feed_11
theorem f_n20 : ∀ n : Nat, n < 20 → (Int32.ofNat n).toInt = (n : Int) ∧ ((24 - 8 * (Int32.ofNat n - Int32.ofNat n / 4 * 4)) &&& 31 : Int32) = (f_shT.getD (n % 4) 0 &&& 31) := by decide
theorem f_by_k {a b c d e w k : Int32} (h0 : 0 ≤ k.toInt) (h1 : k.toInt < 20) (hw : w = ([a, b, c, d, e] : List Int32).getD (k.toNatClampNeg / 4) 0) : (w >>> ((24 - 8 * (k - k / 4 * 4)) &&& 31)) &&& 255 = f_by a b c d e k.toNatClampNeg := by
  have h4 : k.toNatClampNeg = k.toInt.toNat := rfl
  obtain ⟨q1, q2⟩ := f_n20 k.toNatClampNeg (by omega)
  have e1 : k = Int32.ofNat k.toNatClampNeg := z_ii (by omega)
  unfold f_by f_b4
  rw [← q2, ← hw, ← e1]
def u_s_X12_feed3 : List Cond := .code yX12_feed cX12_feed 8 (some .int) :: ([.fieldLink RX12 145 "ShellHeapModel" "thrown" "I", .fieldLink RX12 148 "ShellHeapModel" "tapeSize" "I", .fieldLink RX12 7 "ShellHeapModel" "tape" "[I"] ++ (wsX120 ++ []))
set_option maxHeartbeats 4000000 in
set_option maxRecDepth 100000 in
theorem s_X12_feed3 (l : Launch) (dC : Nat → ClassId) (dI : Nat → Nat → Nat) (sz : Nat) (h0 : Nat) (p1 : Int32) (p2 : Int32) (p3 : Int32) (p4 : Int32) (p5 : Int32) (h1 : Nat) (mt : Int32) (mx : Int32) (h0_3 : Value) (h0_4 : Value) (h0_5 : Value) (h0_6 : Value) (h0_7 : Value) (h0_8 : Value) (h0_9 : Value) (h0_10 : Value) (h0_11 : Value) (h0_12 : Value) (h0_13 : Value) (h0_14 : Value) (h0_15 : Value) (h0_16 : Value) (h0_17 : Value) (h0_18 : Value) (h0_19 : Value) (h0_20 : Value) (h0_21 : Value) (h0_22 : Value) (h0_23 : Value) (h0_24 : Value) (h0_25 : Value) (h0_26 : Value) (h0_27 : Value) (h0_28 : Value) (h0_29 : Value) (h0_30 : Value) (h0_31 : Value) (h0_32 : Value) (h0_33 : Value) (h0_34 : Value) (h0_35 : Value) (h0_36 : Value) (h0_37 : Value) (h0_38 : Value) (h0_39 : Value) (h0_40 : Value) (h0_41 : Value) (h0_42 : Value) (h0_43 : Value) (h0_44 : Value) (h0_45 : Value) (h0_46 : Value) (h0_47 : Value) (h0_48 : Value) (h0_49 : Value) (h0_50 : Value) (h0_51 : Value) (h0_52 : Value) (h0_53 : Value) (h0_54 : Value) (h0_55 : Value) (h0_56 : Value) (h0_57 : Value) (h0_58 : Value) (h0_59 : Value) (h0_60 : Value) (h0_61 : Value) (h0_62 : Value) (h0_63 : Value) (h0_64 : Value) (h0_65 : Value) (h0_66 : Value) (h0_67 : Value) (h0_68 : Value) (h0_69 : Value) (ch1 : ClassId) (fh1 : Nat → Int32) (hB_mt : ((0 : Int) ≤ (mt).toInt ∧ (mt).toInt ≤ (700 : Int))) (hI_h1 : ∀ j : Nat, ((0 : Int) ≤ (fh1 j).toInt ∧ (fh1 j).toInt ≤ (255 : Int))) : Met l yX12_feed u_s_X12_feed3 ({ frames := 0, cells := 0, slots := 0, locals := 0 }) (va_Pc [.ref h0, .int p1, .int p2, .int p3, .int p4, .int p5] (z_C (dC, dI) vwCl [(h0, .inr (12, [.ref h1, .int mt, .int mx, h0_3, h0_4, h0_5, h0_6, h0_7, h0_8, h0_9, h0_10, h0_11, h0_12, h0_13, h0_14, h0_15, h0_16, h0_17, h0_18, h0_19, h0_20, h0_21, h0_22, h0_23, h0_24, h0_25, h0_26, h0_27, h0_28, h0_29, h0_30, h0_31, h0_32, h0_33, h0_34, h0_35, h0_36, h0_37, h0_38, h0_39, h0_40, h0_41, h0_42, h0_43, h0_44, h0_45, h0_46, h0_47, h0_48, h0_49, h0_50, h0_51, h0_52, h0_53, h0_54, h0_55, h0_56, h0_57, h0_58, h0_59, h0_60, h0_61, h0_62, h0_63, h0_64, h0_65, h0_66, h0_67, h0_68, h0_69])), (h1, .inl (ch1, 700, .inl fh1))] [(ch1, .int)] sz)) (va_Qi (fun (r : Int32) (_ : Unit) => r = v_feA mt) (fun (_ : Unit) (t : State) => ∃ (n_h0_thrown : Int32), ∃ (n_h0_tapeSize : Int32), ∃ (g_h1 : Nat → Int32), ((0 : Int) ≤ (n_h0_tapeSize).toInt ∧ (n_h0_tapeSize).toInt ≤ (700 : Int)) ∧ (∀ j : Nat, ((0 : Int) ≤ (g_h1 j).toInt ∧ (g_h1 j).toInt ≤ (255 : Int))) ∧ (n_h0_tapeSize = v_feN mt) ∧ (g_h1 = v_feB fh1 mt p1 p2 p3 p4 p5) ∧ va_P (dC, dI) vwCl [(h0, .inr (12, [.ref h1, .int n_h0_tapeSize, .int n_h0_thrown, h0_3, h0_4, h0_5, h0_6, h0_7, h0_8, h0_9, h0_10, h0_11, h0_12, h0_13, h0_14, h0_15, h0_16, h0_17, h0_18, h0_19, h0_20, h0_21, h0_22, h0_23, h0_24, h0_25, h0_26, h0_27, h0_28, h0_29, h0_30, h0_31, h0_32, h0_33, h0_34, h0_35, h0_36, h0_37, h0_38, h0_39, h0_40, h0_41, h0_42, h0_43, h0_44, h0_45, h0_46, h0_47, h0_48, h0_49, h0_50, h0_51, h0_52, h0_53, h0_54, h0_55, h0_56, h0_57, h0_58, h0_59, h0_60, h0_61, h0_62, h0_63, h0_64, h0_65, h0_66, h0_67, h0_68, h0_69])), (h1, .inl (ch1, 700, .inl g_h1))] t.heap ∧ va_K (dC, dI) vwCl [] t ∧ va_D (va_A [(h0, .inr (12, [.ref h1, .int mt, .int mx, h0_3, h0_4, h0_5, h0_6, h0_7, h0_8, h0_9, h0_10, h0_11, h0_12, h0_13, h0_14, h0_15, h0_16, h0_17, h0_18, h0_19, h0_20, h0_21, h0_22, h0_23, h0_24, h0_25, h0_26, h0_27, h0_28, h0_29, h0_30, h0_31, h0_32, h0_33, h0_34, h0_35, h0_36, h0_37, h0_38, h0_39, h0_40, h0_41, h0_42, h0_43, h0_44, h0_45, h0_46, h0_47, h0_48, h0_49, h0_50, h0_51, h0_52, h0_53, h0_54, h0_55, h0_56, h0_57, h0_58, h0_59, h0_60, h0_61, h0_62, h0_63, h0_64, h0_65, h0_66, h0_67, h0_68, h0_69])), (h1, .inl (ch1, 700, .inl fh1))] sz) [(h0, .inr (12, [.ref h1, .int n_h0_tapeSize, .int n_h0_thrown, h0_3, h0_4, h0_5, h0_6, h0_7, h0_8, h0_9, h0_10, h0_11, h0_12, h0_13, h0_14, h0_15, h0_16, h0_17, h0_18, h0_19, h0_20, h0_21, h0_22, h0_23, h0_24, h0_25, h0_26, h0_27, h0_28, h0_29, h0_30, h0_31, h0_32, h0_33, h0_34, h0_35, h0_36, h0_37, h0_38, h0_39, h0_40, h0_41, h0_42, h0_43, h0_44, h0_45, h0_46, h0_47, h0_48, h0_49, h0_50, h0_51, h0_52, h0_53, h0_54, h0_55, h0_56, h0_57, h0_58, h0_59, h0_60, h0_61, h0_62, h0_63, h0_64, h0_65, h0_66, h0_67, h0_68, h0_69])), (h1, .inl (ch1, 700, .inl g_h1))]) (va_A [(h0, .inr (12, [.ref h1, .int mt, .int mx, h0_3, h0_4, h0_5, h0_6, h0_7, h0_8, h0_9, h0_10, h0_11, h0_12, h0_13, h0_14, h0_15, h0_16, h0_17, h0_18, h0_19, h0_20, h0_21, h0_22, h0_23, h0_24, h0_25, h0_26, h0_27, h0_28, h0_29, h0_30, h0_31, h0_32, h0_33, h0_34, h0_35, h0_36, h0_37, h0_38, h0_39, h0_40, h0_41, h0_42, h0_43, h0_44, h0_45, h0_46, h0_47, h0_48, h0_49, h0_50, h0_51, h0_52, h0_53, h0_54, h0_55, h0_56, h0_57, h0_58, h0_59, h0_60, h0_61, h0_62, h0_63, h0_64, h0_65, h0_66, h0_67, h0_68, h0_69])), (h1, .inl (ch1, 700, .inl fh1))] sz)) 0 0 (va_A [(h0, .inr (12, [.ref h1, .int mt, .int mx, h0_3, h0_4, h0_5, h0_6, h0_7, h0_8, h0_9, h0_10, h0_11, h0_12, h0_13, h0_14, h0_15, h0_16, h0_17, h0_18, h0_19, h0_20, h0_21, h0_22, h0_23, h0_24, h0_25, h0_26, h0_27, h0_28, h0_29, h0_30, h0_31, h0_32, h0_33, h0_34, h0_35, h0_36, h0_37, h0_38, h0_39, h0_40, h0_41, h0_42, h0_43, h0_44, h0_45, h0_46, h0_47, h0_48, h0_49, h0_50, h0_51, h0_52, h0_53, h0_54, h0_55, h0_56, h0_57, h0_58, h0_59, h0_60, h0_61, h0_62, h0_63, h0_64, h0_65, h0_66, h0_67, h0_68, h0_69])), (h1, .inl (ch1, 700, .inl fh1))] sz) := by
  refine Met.ofW (cc := cX12_feed) (maxL := 8) (ret := (some .int)) (by decide) rfl ?_
  intro p e s m args below meth c s₁ B hml hv
  obtain ⟨rfl, hsz, hP, hK, hD0⟩ := hv
  have hx := B.exec
  have hb := B.bytes
  have hr := B.returns
  have hts := atoms_spec (ws := u_s_X12_feed3) B.pre
  have hown : s.vm.findClass RX12 = some m.cls := findClass_of_methodNamed B.named
  have hlocks := B.notSynchronized
  subst hsz
  have hD := hD0.self (sz := s.heap.size)
  generalize hAe : va_A [(h0, .inr (12, [.ref h1, .int mt, .int mx, h0_3, h0_4, h0_5, h0_6, h0_7, h0_8, h0_9, h0_10, h0_11, h0_12, h0_13, h0_14, h0_15, h0_16, h0_17, h0_18, h0_19, h0_20, h0_21, h0_22, h0_23, h0_24, h0_25, h0_26, h0_27, h0_28, h0_29, h0_30, h0_31, h0_32, h0_33, h0_34, h0_35, h0_36, h0_37, h0_38, h0_39, h0_40, h0_41, h0_42, h0_43, h0_44, h0_45, h0_46, h0_47, h0_48, h0_49, h0_50, h0_51, h0_52, h0_53, h0_54, h0_55, h0_56, h0_57, h0_58, h0_59, h0_60, h0_61, h0_62, h0_63, h0_64, h0_65, h0_66, h0_67, h0_68, h0_69])), (h1, .inl (ch1, 700, .inl fh1))] s.heap.size = A at hD ⊢
  have hA : ∀ q : Nat, s.heap.size ≤ q → A q := fun q h => by rw [← hAe]; exact Or.inr h
  have hS : va_S A s.heap s.heap [] := va_S.rf
  have hP : va_P (dC, dI) vwCl [(h0, .inr (12, [.ref h1, .int mt, .int mx, h0_3, h0_4, h0_5, h0_6, h0_7, h0_8, h0_9, h0_10, h0_11, h0_12, h0_13, h0_14, h0_15, h0_16, h0_17, h0_18, h0_19, h0_20, h0_21, h0_22, h0_23, h0_24, h0_25, h0_26, h0_27, h0_28, h0_29, h0_30, h0_31, h0_32, h0_33, h0_34, h0_35, h0_36, h0_37, h0_38, h0_39, h0_40, h0_41, h0_42, h0_43, h0_44, h0_45, h0_46, h0_47, h0_48, h0_49, h0_50, h0_51, h0_52, h0_53, h0_54, h0_55, h0_56, h0_57, h0_58, h0_59, h0_60, h0_61, h0_62, h0_63, h0_64, h0_65, h0_66, h0_67, h0_68, h0_69])), (h1, .inl (ch1, 700, .inl fh1))] s.heap := hP
  have w__fieldLink_RX12_145_ShellHeapModel_thrown_I_ := hts (.fieldLink RX12 145 "ShellHeapModel" "thrown" "I") (z_mc (z_ml z_m0))
  have hiX12 := show ∀ w ∈ u_ws RX12 TX12 70, w ∈ u_s_X12_feed3 from fun w h => z_mc (z_mr (z_ml h))
  have w__fieldLink_RX12_148_ShellHeapModel_tapeSize_I_ := hts (.fieldLink RX12 148 "ShellHeapModel" "tapeSize" "I") (z_mc (z_ml z_m1))
  have w__fieldLink_RX12_7_ShellHeapModel_tape_I_ := hts (.fieldLink RX12 7 "ShellHeapModel" "tape" "[I") (z_mc (z_ml z_m2))
  have krr_p1 := z_rng p1
  have krr_p2 := z_rng p2
  have krr_p3 := z_rng p3
  have krr_p4 := z_rng p4
  have krr_p5 := z_rng p5
  have hl := lv_entry ([.ref h0, .int p1, .int p2, .int p3, .int p4, .int p5]) (n := 8) (Nat.le_of_ble_eq_true rfl)
  rw [lg_entry_eq]
  generalize (lg_sl ([.ref h0, .int p1, .int p2, .int p3, .int p4, .int p5]) ++ List.replicate (8 - (lg_sl ([.ref h0, .int p1, .int p2, .int p3, .int p4, .int p5])).length) Slot.unset).toArray = ls at hl ⊢
  have hl : lv_has ls 8 [(0, .ref h0), (1, .int p1), (2, .int p2), (3, .int p3), (4, .int p4), (5, .int p5)] := hl
  refine z_nameQ (fun QQ hQQ => ?_)
  refine lv_aload_n hx hb dX12_feed_0 rfl (lv_at hl 0 rfl) ?_
  refine lv_iconst (v := 0) hx hb dX12_feed_1 (by decide) ?_
  refine va_put (D := (dC, dI)) (ci := 12) (v := .int 0) (ty := .int) (C := RX12) (T := TX12) (N := 70) hx hb hts hiX12 tyX12 tyX12_ok nmX12 hown hK hP hD hS 0 rfl rfl 2 (by decide) w__fieldLink_RX12_145_ShellHeapModel_thrown_I_ (fun _ h9 => h9) rfl (by decide +kernel) rfl rfl (Nat.le_of_ble_eq_true rfl) dX12_feed_2 (fun H_1 locs hP hD hS => ?_)
  obtain ⟨hP, hD⟩ := z_s_0_2 hP hD
  refine lv_aload_n hx hb dX12_feed_5 rfl (lv_at hl 0 rfl) ?_
  refine va_get (D := (dC, dI)) (ci := 12) (v := .int mt) (C := RX12) (T := TX12) (N := 70) hx hb hts hiX12 hown hK hP 0 rfl rfl 1 (by decide) w__fieldLink_RX12_148_ShellHeapModel_tapeSize_I_ (fun _ h9 => h9) rfl dX12_feed_6 ?_
  refine lv_bipush (v := 20) hx hb dX12_feed_9 (by decide) ?_
  refine lv_iadd hx hb dX12_feed_11 ?_
  refine lv_topi (fun z_2 ez_2 => ?_)
  have kz_2 : (z_2).toInt = (mt).toInt + (20 : Int) := by rw [ez_2]; exact z_add (a := (mt).toInt) (b := (20 : Int)) rfl rfl (z_al hB_mt.1 (by decide)) (z_ah hB_mt.2 (by decide))
  refine lv_sipush (v := 700) hx hb dX12_feed_12 (by decide) ?_
  refine lv_icmp_le (tgt := 20) hx hb dX12_feed_15 (by decide) (fun c_3 => ?_) (fun c_3 => ?_)
  · have k_4 : (z_2).toInt ≤ (700 : Int) := z_le c_3
    refine lv_iconst (v := 0) hx hb dX12_feed_20 (by decide) ?_
    refine lv_istore (lv' := [(6, .int 0), (0, .ref h0), (1, .int p1), (2, .int p2), (3, .int p3), (4, .int p4), (5, .int p5)]) hx hb dX12_feed_21 hl (by decide) rfl (fun ls hl => ?_)
    have loop_5 : ∀ (n_6 : Nat) (k_8 : Int32) (f_9 : Nat → Int32) (H : Heap) (locs : List Loc) (ls : Array Slot), (21 - (k_8).toInt).toNat < n_6 → (((0 : Int) ≤ (k_8).toInt ∧ (k_8).toInt ≤ (20 : Int))) → (∀ j : Nat, ((0 : Int) ≤ (f_9 j).toInt ∧ (f_9 j).toInt ≤ (255 : Int))) → (f_9 = f_fe fh1 (mt).toNatClampNeg (f_by p1 p2 p3 p4 p5) (k_8 : Int32).toNatClampNeg) → va_P (dC, dI) vwCl [(h0, .inr (12, [.ref h1, .int mt, .int 0, h0_3, h0_4, h0_5, h0_6, h0_7, h0_8, h0_9, h0_10, h0_11, h0_12, h0_13, h0_14, h0_15, h0_16, h0_17, h0_18, h0_19, h0_20, h0_21, h0_22, h0_23, h0_24, h0_25, h0_26, h0_27, h0_28, h0_29, h0_30, h0_31, h0_32, h0_33, h0_34, h0_35, h0_36, h0_37, h0_38, h0_39, h0_40, h0_41, h0_42, h0_43, h0_44, h0_45, h0_46, h0_47, h0_48, h0_49, h0_50, h0_51, h0_52, h0_53, h0_54, h0_55, h0_56, h0_57, h0_58, h0_59, h0_60, h0_61, h0_62, h0_63, h0_64, h0_65, h0_66, h0_67, h0_68, h0_69])), (h1, .inl (ch1, 700, .inl f_9))] H → va_D A [(h0, .inr (12, [.ref h1, .int mt, .int 0, h0_3, h0_4, h0_5, h0_6, h0_7, h0_8, h0_9, h0_10, h0_11, h0_12, h0_13, h0_14, h0_15, h0_16, h0_17, h0_18, h0_19, h0_20, h0_21, h0_22, h0_23, h0_24, h0_25, h0_26, h0_27, h0_28, h0_29, h0_30, h0_31, h0_32, h0_33, h0_34, h0_35, h0_36, h0_37, h0_38, h0_39, h0_40, h0_41, h0_42, h0_43, h0_44, h0_45, h0_46, h0_47, h0_48, h0_49, h0_50, h0_51, h0_52, h0_53, h0_54, h0_55, h0_56, h0_57, h0_58, h0_59, h0_60, h0_61, h0_62, h0_63, h0_64, h0_65, h0_66, h0_67, h0_68, h0_69])), (h1, .inl (ch1, 700, .inl f_9))] → va_S A s.heap H locs → lv_has ls 8 [(6, .int k_8), (0, .ref h0), (1, .int p1), (2, .int p2), (3, .int p3), (4, .int p4), (5, .int p5)] → W p l e ({ frames := 0, cells := 0, slots := 0, locals := 0 } : Room) s m ([.ref h0, .int p1, .int p2, .int p3, .int p4, .int p5] : List Value).toArray below meth c H locs 0 0 QQ (F0 m 23 ls []) := by
      intro n_6
      induction n_6 with
      | zero => intro k_8 f_9 H locs ls hm; exact absurd hm (Nat.not_lt_zero _)
      | succ n_6 ih_7 =>
        intro k_8 f_9 H locs ls hm hF_10 hI_f_9 hF_11 hP hD hS hl
        refine lv_iload hx hb dX12_feed_23 (lv_at hl 0 rfl) ?_
        refine lv_bipush (v := 20) hx hb dX12_feed_25 (by decide) ?_
        refine lv_icmp_ge (tgt := 113) hx hb dX12_feed_27 (by decide) (fun c_12 => ?_) (fun c_12 => ?_)
        · have k_13 : (20 : Int) ≤ (k_8).toInt := z_le c_12
          obtain rfl : k_8 = 20 := z_eq' (show (k_8).toInt = (20 : Int) by omega)
          have hfd_15 : f_9 = f_fe fh1 (mt).toNatClampNeg (f_by p1 p2 p3 p4 p5) 20 := hF_11
          refine lv_aload_n hx hb dX12_feed_113 rfl (lv_at hl 1 rfl) ?_
          refine lv_dup hx hb dX12_feed_114 rfl ?_
          refine va_get (D := (dC, dI)) (ci := 12) (v := .int mt) (C := RX12) (T := TX12) (N := 70) hx hb hts hiX12 hown hK hP 0 rfl rfl 1 (by decide) w__fieldLink_RX12_148_ShellHeapModel_tapeSize_I_ (fun _ h9 => h9) rfl dX12_feed_115 ?_
          refine lv_bipush (v := 20) hx hb dX12_feed_118 (by decide) ?_
          refine lv_iadd hx hb dX12_feed_120 ?_
          refine lv_topi (fun z_16 ez_16 => ?_)
          have kz_16 : (z_16).toInt = (mt).toInt + (20 : Int) := by rw [ez_16]; exact z_add (a := (mt).toInt) (b := (20 : Int)) rfl rfl (z_al hB_mt.1 (by decide)) (z_ah hB_mt.2 (by decide))
          refine va_put (D := (dC, dI)) (ci := 12) (v := .int z_16) (ty := .int) (C := RX12) (T := TX12) (N := 70) hx hb hts hiX12 tyX12 tyX12_ok nmX12 hown hK hP hD hS 0 rfl rfl 1 (by decide) w__fieldLink_RX12_148_ShellHeapModel_tapeSize_I_ (fun _ h9 => h9) rfl (by decide +kernel) rfl rfl (Nat.le_of_ble_eq_true rfl) dX12_feed_121 (fun H_17 locs hP hD hS => ?_)
          obtain ⟨hP, hD⟩ := z_s_0_1 hP hD
          refine lv_aload_n hx hb dX12_feed_124 rfl (lv_at hl 1 rfl) ?_
          refine va_get (D := (dC, dI)) (ci := 12) (v := .int z_16) (C := RX12) (T := TX12) (N := 70) hx hb hts hiX12 hown hK hP 0 rfl rfl 1 (by decide) w__fieldLink_RX12_148_ShellHeapModel_tapeSize_I_ (fun _ h9 => h9) rfl dX12_feed_125 ?_
          refine z_backQ hQQ ?_
          have hP9 := hP
          have hD9 := hD
          have hK9 := hK.sub (tys' := []) [] rfl
          refine W.widen (k := 0) (n := 0) (Nat.le_of_ble_eq_true rfl) (Nat.le_of_ble_eq_true rfl) ?_
          exact W.iret (v := z_16) hx hb hr (fun t ht hW => ⟨⟨z_16, (), rfl, (show z_16 = v_feA mt by unfold v_feA; rw [if_pos (by omega)]; exact z_ii (by rw [z_add (a := (mt).toInt) (b := (20 : Int)) rfl rfl (by omega) (by omega)]; omega)), ⟨0, z_16, f_9, (by first | omega | decide), hI_f_9, (show z_16 = v_feN mt by unfold v_feN; rw [if_pos (by omega)]; exact z_ii (by rw [z_add (a := (mt).toInt) (b := (20 : Int)) rfl rfl (by omega) (by omega)]; omega)), (show f_9 = v_feB fh1 mt p1 p2 p3 p4 p5 by unfold v_feB; rw [if_pos (by omega)]; exact hfd_15), by rw [ht]; exact hP9, va_K.moved hW.alike hK9, hD9⟩⟩, hS.F ht⟩) hS.2.2 dX12_feed_128
        · have k_18 : (20 : Int) > (k_8).toInt := z_nle c_12
          refine lv_iload hx hb dX12_feed_30 (lv_at hl 0 rfl) ?_
          refine lv_iconst (v := 4) hx hb dX12_feed_32 (by decide) ?_
          refine lv_icmp_ge (tgt := 40) hx hb dX12_feed_33 (by decide) (fun c_19 => ?_) (fun c_19 => ?_)
          · have k_20 : (4 : Int) ≤ (k_8).toInt := z_le c_19
            refine lv_iload hx hb dX12_feed_40 (lv_at hl 0 rfl) ?_
            refine lv_bipush (v := 8) hx hb dX12_feed_42 (by decide) ?_
            refine lv_icmp_ge (tgt := 51) hx hb dX12_feed_44 (by decide) (fun c_21 => ?_) (fun c_21 => ?_)
            · have k_22 : (8 : Int) ≤ (k_8).toInt := z_le c_21
              refine lv_iload hx hb dX12_feed_51 (lv_at hl 0 rfl) ?_
              refine lv_bipush (v := 12) hx hb dX12_feed_53 (by decide) ?_
              refine lv_icmp_ge (tgt := 62) hx hb dX12_feed_55 (by decide) (fun c_23 => ?_) (fun c_23 => ?_)
              · have k_24 : (12 : Int) ≤ (k_8).toInt := z_le c_23
                refine lv_iload hx hb dX12_feed_62 (lv_at hl 0 rfl) ?_
                refine lv_bipush (v := 16) hx hb dX12_feed_64 (by decide) ?_
                refine lv_icmp_ge (tgt := 74) hx hb dX12_feed_66 (by decide) (fun c_25 => ?_) (fun c_25 => ?_)
                · have k_26 : (16 : Int) ≤ (k_8).toInt := z_le c_25
                  refine lv_iload hx hb dX12_feed_74 (lv_at hl 6 rfl) ?_
                  refine lv_istore (lv' := [(7, .int p5), (6, .int k_8), (0, .ref h0), (1, .int p1), (2, .int p2), (3, .int p3), (4, .int p4), (5, .int p5)]) hx hb dX12_feed_76 hl (by decide) rfl (fun ls hl => ?_)
                  refine lv_aload_n hx hb dX12_feed_78 rfl (lv_at hl 2 rfl) ?_
                  refine va_get (D := (dC, dI)) (ci := 12) (v := .ref h1) (C := RX12) (T := TX12) (N := 70) hx hb hts hiX12 hown hK hP 0 rfl rfl 0 (by decide) w__fieldLink_RX12_7_ShellHeapModel_tape_I_ (fun _ h9 => h9) rfl dX12_feed_79 ?_
                  refine lv_aload_n hx hb dX12_feed_82 rfl (lv_at hl 2 rfl) ?_
                  refine va_get (D := (dC, dI)) (ci := 12) (v := .int mt) (C := RX12) (T := TX12) (N := 70) hx hb hts hiX12 hown hK hP 0 rfl rfl 1 (by decide) w__fieldLink_RX12_148_ShellHeapModel_tapeSize_I_ (fun _ h9 => h9) rfl dX12_feed_83 ?_
                  refine lv_iload hx hb dX12_feed_86 (lv_at hl 1 rfl) ?_
                  refine lv_iadd hx hb dX12_feed_88 ?_
                  refine lv_topi (fun z_27 ez_27 => ?_)
                  have kz_27 : (z_27).toInt = (mt).toInt + (k_8).toInt := by rw [ez_27]; exact z_add (a := (mt).toInt) (b := (k_8).toInt) rfl rfl (by omega) (by omega)
                  refine lv_iload hx hb dX12_feed_89 (lv_at hl 0 rfl) ?_
                  refine lv_bipush (v := 24) hx hb dX12_feed_91 (by decide) ?_
                  refine lv_bipush (v := 8) hx hb dX12_feed_93 (by decide) ?_
                  refine lv_iload hx hb dX12_feed_95 (lv_at hl 1 rfl) ?_
                  refine lv_iconst (v := 4) hx hb dX12_feed_97 (by decide) ?_
                  refine lv_irem hx hb dX12_feed_98 (by decide) ?_
                  refine lv_topi (fun z_28 ez_28 => ?_)
                  refine lv_imul hx hb dX12_feed_99 ?_
                  refine lv_topi (fun z_29 ez_29 => ?_)
                  refine lv_isub hx hb dX12_feed_100 ?_
                  refine lv_topi (fun z_30 ez_30 => ?_)
                  refine lv_ishr hx hb dX12_feed_101 ?_
                  refine lv_topi (fun z_31 ez_31 => ?_)
                  refine lv_sipush (v := 255) hx hb dX12_feed_102 (by decide) ?_
                  refine lv_iand hx hb dX12_feed_105 ?_
                  refine lv_topi (fun z_32 ez_32 => ?_)
                  have kz_32 : (0 : Int) ≤ (z_32).toInt ∧ (z_32).toInt ≤ (255 : Int) := by rw [ez_32]; exact z_and _ 8 (by decide) (by decide)
                  refine va_iast hx hb hK hP hD hS 1 0 rfl rfl (z_vpin (by omega) (by omega)) dX12_feed_106 (fun H_33 locs hP hD hS => ?_)
                  obtain ⟨hP, hD⟩ := z_s_1 hP hD
                  have hI_f_34 : ∀ j : Nat, ((0 : Int) ≤ ((upd f_9 (z_27 : Int32).toNatClampNeg z_32) j).toInt ∧ ((upd f_9 (z_27 : Int32).toNatClampNeg z_32) j).toInt ≤ (255 : Int)) := z_updP (P := fun v => ((0 : Int) ≤ (v).toInt ∧ (v).toInt ≤ (255 : Int))) hI_f_9 (show ((0 : Int) ≤ (z_32).toInt ∧ (z_32).toInt ≤ (255 : Int)) from by first | omega | decide)
                  have hfs_35 : (upd f_9 (z_27 : Int32).toNatClampNeg z_32) = f_fe fh1 (mt).toNatClampNeg (f_by p1 p2 p3 p4 p5) ((k_8 : Int32).toNatClampNeg + 1) := f_fe_s hF_11 (by have h8 : (z_27 : Int32).toNatClampNeg = (z_27).toInt.toNat := rfl; have h7 : (k_8 : Int32).toNatClampNeg = (k_8).toInt.toNat := rfl; have h6 : (mt : Int32).toNatClampNeg = (mt).toInt.toNat := rfl; omega) (by rw [ez_32, ez_31, ez_30, ez_29, ez_28]; exact f_by_k (by omega) (by omega) (by rw [show (k_8 : Int32).toNatClampNeg / 4 = 4 by have h8 : (k_8 : Int32).toNatClampNeg = (k_8).toInt.toNat := rfl; omega]; rfl))
                  generalize (upd f_9 (z_27 : Int32).toNatClampNeg z_32) = f_34 at hP hD hI_f_34 hfs_35
                  obtain ⟨z_36, ez_36⟩ : ∃ y : Int32, y = k_8 + 1 := ⟨_, rfl⟩
                  have kz_36 : (z_36).toInt = (k_8).toInt + (1 : Int) := by rw [ez_36]; exact z_add (b := 1) rfl rfl (z_al hF_10.1 (by decide)) (z_ah hF_10.2 (by decide))
                  refine lv_iinc (v := z_36) (lv' := [(6, .int z_36), (7, .int p5), (0, .ref h0), (1, .int p1), (2, .int p2), (3, .int p3), (4, .int p4), (5, .int p5)]) hx hb dX12_feed_107 hl (k := 1) rfl (by rw [ez_36]; rfl) (by decide) rfl (fun ls hl => ?_)
                  refine lv_goto (tgt := 23) hx hb dX12_feed_110 (by decide) ?_
                  exact ih_7 z_36 f_34 _ _ _ (show (21 - (z_36).toInt).toNat < n_6 by omega) (show ((0 : Int) ≤ (z_36).toInt ∧ (z_36).toInt ≤ (20 : Int)) by omega) hI_f_34 (show f_34 = f_fe fh1 (mt).toNatClampNeg (f_by p1 p2 p3 p4 p5) (z_36 : Int32).toNatClampNeg from by rw [z_nc1 ez_36 (by omega) (by omega)]; exact hfs_35) hP hD hS (lv_sub hl [0, 2, 3, 4, 5, 6, 7] rfl)
                · have k_37 : (16 : Int) > (k_8).toInt := z_nle c_25
                  refine lv_iload hx hb dX12_feed_69 (lv_at hl 5 rfl) ?_
                  refine lv_goto (tgt := 76) hx hb dX12_feed_71 (by decide) ?_
                  refine lv_istore (lv' := [(7, .int p4), (6, .int k_8), (0, .ref h0), (1, .int p1), (2, .int p2), (3, .int p3), (4, .int p4), (5, .int p5)]) hx hb dX12_feed_76 hl (by decide) rfl (fun ls hl => ?_)
                  refine lv_aload_n hx hb dX12_feed_78 rfl (lv_at hl 2 rfl) ?_
                  refine va_get (D := (dC, dI)) (ci := 12) (v := .ref h1) (C := RX12) (T := TX12) (N := 70) hx hb hts hiX12 hown hK hP 0 rfl rfl 0 (by decide) w__fieldLink_RX12_7_ShellHeapModel_tape_I_ (fun _ h9 => h9) rfl dX12_feed_79 ?_
                  refine lv_aload_n hx hb dX12_feed_82 rfl (lv_at hl 2 rfl) ?_
                  refine va_get (D := (dC, dI)) (ci := 12) (v := .int mt) (C := RX12) (T := TX12) (N := 70) hx hb hts hiX12 hown hK hP 0 rfl rfl 1 (by decide) w__fieldLink_RX12_148_ShellHeapModel_tapeSize_I_ (fun _ h9 => h9) rfl dX12_feed_83 ?_
                  refine lv_iload hx hb dX12_feed_86 (lv_at hl 1 rfl) ?_
                  refine lv_iadd hx hb dX12_feed_88 ?_
                  refine lv_topi (fun z_38 ez_38 => ?_)
                  have kz_38 : (z_38).toInt = (mt).toInt + (k_8).toInt := by rw [ez_38]; exact z_add (a := (mt).toInt) (b := (k_8).toInt) rfl rfl (by omega) (by omega)
                  refine lv_iload hx hb dX12_feed_89 (lv_at hl 0 rfl) ?_
                  refine lv_bipush (v := 24) hx hb dX12_feed_91 (by decide) ?_
                  refine lv_bipush (v := 8) hx hb dX12_feed_93 (by decide) ?_
                  refine lv_iload hx hb dX12_feed_95 (lv_at hl 1 rfl) ?_
                  refine lv_iconst (v := 4) hx hb dX12_feed_97 (by decide) ?_
                  refine lv_irem hx hb dX12_feed_98 (by decide) ?_
                  refine lv_topi (fun z_39 ez_39 => ?_)
                  refine lv_imul hx hb dX12_feed_99 ?_
                  refine lv_topi (fun z_40 ez_40 => ?_)
                  refine lv_isub hx hb dX12_feed_100 ?_
                  refine lv_topi (fun z_41 ez_41 => ?_)
                  refine lv_ishr hx hb dX12_feed_101 ?_
                  refine lv_topi (fun z_42 ez_42 => ?_)
                  refine lv_sipush (v := 255) hx hb dX12_feed_102 (by decide) ?_
                  refine lv_iand hx hb dX12_feed_105 ?_
                  refine lv_topi (fun z_43 ez_43 => ?_)
                  have kz_43 : (0 : Int) ≤ (z_43).toInt ∧ (z_43).toInt ≤ (255 : Int) := by rw [ez_43]; exact z_and _ 8 (by decide) (by decide)
                  refine va_iast hx hb hK hP hD hS 1 0 rfl rfl (z_vpin (by omega) (by omega)) dX12_feed_106 (fun H_44 locs hP hD hS => ?_)
                  obtain ⟨hP, hD⟩ := z_s_1 hP hD
                  have hI_f_45 : ∀ j : Nat, ((0 : Int) ≤ ((upd f_9 (z_38 : Int32).toNatClampNeg z_43) j).toInt ∧ ((upd f_9 (z_38 : Int32).toNatClampNeg z_43) j).toInt ≤ (255 : Int)) := z_updP (P := fun v => ((0 : Int) ≤ (v).toInt ∧ (v).toInt ≤ (255 : Int))) hI_f_9 (show ((0 : Int) ≤ (z_43).toInt ∧ (z_43).toInt ≤ (255 : Int)) from by first | omega | decide)
                  have hfs_46 : (upd f_9 (z_38 : Int32).toNatClampNeg z_43) = f_fe fh1 (mt).toNatClampNeg (f_by p1 p2 p3 p4 p5) ((k_8 : Int32).toNatClampNeg + 1) := f_fe_s hF_11 (by have h8 : (z_38 : Int32).toNatClampNeg = (z_38).toInt.toNat := rfl; have h7 : (k_8 : Int32).toNatClampNeg = (k_8).toInt.toNat := rfl; have h6 : (mt : Int32).toNatClampNeg = (mt).toInt.toNat := rfl; omega) (by rw [ez_43, ez_42, ez_41, ez_40, ez_39]; exact f_by_k (by omega) (by omega) (by rw [show (k_8 : Int32).toNatClampNeg / 4 = 3 by have h8 : (k_8 : Int32).toNatClampNeg = (k_8).toInt.toNat := rfl; omega]; rfl))
                  generalize (upd f_9 (z_38 : Int32).toNatClampNeg z_43) = f_45 at hP hD hI_f_45 hfs_46
                  obtain ⟨z_47, ez_47⟩ : ∃ y : Int32, y = k_8 + 1 := ⟨_, rfl⟩
                  have kz_47 : (z_47).toInt = (k_8).toInt + (1 : Int) := by rw [ez_47]; exact z_add (b := 1) rfl rfl (z_al hF_10.1 (by decide)) (z_ah hF_10.2 (by decide))
                  refine lv_iinc (v := z_47) (lv' := [(6, .int z_47), (7, .int p4), (0, .ref h0), (1, .int p1), (2, .int p2), (3, .int p3), (4, .int p4), (5, .int p5)]) hx hb dX12_feed_107 hl (k := 1) rfl (by rw [ez_47]; rfl) (by decide) rfl (fun ls hl => ?_)
                  refine lv_goto (tgt := 23) hx hb dX12_feed_110 (by decide) ?_
                  exact ih_7 z_47 f_45 _ _ _ (show (21 - (z_47).toInt).toNat < n_6 by omega) (show ((0 : Int) ≤ (z_47).toInt ∧ (z_47).toInt ≤ (20 : Int)) by omega) hI_f_45 (show f_45 = f_fe fh1 (mt).toNatClampNeg (f_by p1 p2 p3 p4 p5) (z_47 : Int32).toNatClampNeg from by rw [z_nc1 ez_47 (by omega) (by omega)]; exact hfs_46) hP hD hS (lv_sub hl [0, 2, 3, 4, 5, 6, 7] rfl)
              · have k_48 : (12 : Int) > (k_8).toInt := z_nle c_23
                refine lv_iload_n hx hb dX12_feed_58 rfl (lv_at hl 4 rfl) ?_
                refine lv_goto (tgt := 76) hx hb dX12_feed_59 (by decide) ?_
                refine lv_istore (lv' := [(7, .int p3), (6, .int k_8), (0, .ref h0), (1, .int p1), (2, .int p2), (3, .int p3), (4, .int p4), (5, .int p5)]) hx hb dX12_feed_76 hl (by decide) rfl (fun ls hl => ?_)
                refine lv_aload_n hx hb dX12_feed_78 rfl (lv_at hl 2 rfl) ?_
                refine va_get (D := (dC, dI)) (ci := 12) (v := .ref h1) (C := RX12) (T := TX12) (N := 70) hx hb hts hiX12 hown hK hP 0 rfl rfl 0 (by decide) w__fieldLink_RX12_7_ShellHeapModel_tape_I_ (fun _ h9 => h9) rfl dX12_feed_79 ?_
                refine lv_aload_n hx hb dX12_feed_82 rfl (lv_at hl 2 rfl) ?_
                refine va_get (D := (dC, dI)) (ci := 12) (v := .int mt) (C := RX12) (T := TX12) (N := 70) hx hb hts hiX12 hown hK hP 0 rfl rfl 1 (by decide) w__fieldLink_RX12_148_ShellHeapModel_tapeSize_I_ (fun _ h9 => h9) rfl dX12_feed_83 ?_
                refine lv_iload hx hb dX12_feed_86 (lv_at hl 1 rfl) ?_
                refine lv_iadd hx hb dX12_feed_88 ?_
                refine lv_topi (fun z_49 ez_49 => ?_)
                have kz_49 : (z_49).toInt = (mt).toInt + (k_8).toInt := by rw [ez_49]; exact z_add (a := (mt).toInt) (b := (k_8).toInt) rfl rfl (by omega) (by omega)
                refine lv_iload hx hb dX12_feed_89 (lv_at hl 0 rfl) ?_
                refine lv_bipush (v := 24) hx hb dX12_feed_91 (by decide) ?_
                refine lv_bipush (v := 8) hx hb dX12_feed_93 (by decide) ?_
                refine lv_iload hx hb dX12_feed_95 (lv_at hl 1 rfl) ?_
                refine lv_iconst (v := 4) hx hb dX12_feed_97 (by decide) ?_
                refine lv_irem hx hb dX12_feed_98 (by decide) ?_
                refine lv_topi (fun z_50 ez_50 => ?_)
                refine lv_imul hx hb dX12_feed_99 ?_
                refine lv_topi (fun z_51 ez_51 => ?_)
                refine lv_isub hx hb dX12_feed_100 ?_
                refine lv_topi (fun z_52 ez_52 => ?_)
                refine lv_ishr hx hb dX12_feed_101 ?_
                refine lv_topi (fun z_53 ez_53 => ?_)
                refine lv_sipush (v := 255) hx hb dX12_feed_102 (by decide) ?_
                refine lv_iand hx hb dX12_feed_105 ?_
                refine lv_topi (fun z_54 ez_54 => ?_)
                have kz_54 : (0 : Int) ≤ (z_54).toInt ∧ (z_54).toInt ≤ (255 : Int) := by rw [ez_54]; exact z_and _ 8 (by decide) (by decide)
                refine va_iast hx hb hK hP hD hS 1 0 rfl rfl (z_vpin (by omega) (by omega)) dX12_feed_106 (fun H_55 locs hP hD hS => ?_)
                obtain ⟨hP, hD⟩ := z_s_1 hP hD
                have hI_f_56 : ∀ j : Nat, ((0 : Int) ≤ ((upd f_9 (z_49 : Int32).toNatClampNeg z_54) j).toInt ∧ ((upd f_9 (z_49 : Int32).toNatClampNeg z_54) j).toInt ≤ (255 : Int)) := z_updP (P := fun v => ((0 : Int) ≤ (v).toInt ∧ (v).toInt ≤ (255 : Int))) hI_f_9 (show ((0 : Int) ≤ (z_54).toInt ∧ (z_54).toInt ≤ (255 : Int)) from by first | omega | decide)
                have hfs_57 : (upd f_9 (z_49 : Int32).toNatClampNeg z_54) = f_fe fh1 (mt).toNatClampNeg (f_by p1 p2 p3 p4 p5) ((k_8 : Int32).toNatClampNeg + 1) := f_fe_s hF_11 (by have h8 : (z_49 : Int32).toNatClampNeg = (z_49).toInt.toNat := rfl; have h7 : (k_8 : Int32).toNatClampNeg = (k_8).toInt.toNat := rfl; have h6 : (mt : Int32).toNatClampNeg = (mt).toInt.toNat := rfl; omega) (by rw [ez_54, ez_53, ez_52, ez_51, ez_50]; exact f_by_k (by omega) (by omega) (by rw [show (k_8 : Int32).toNatClampNeg / 4 = 2 by have h8 : (k_8 : Int32).toNatClampNeg = (k_8).toInt.toNat := rfl; omega]; rfl))
                generalize (upd f_9 (z_49 : Int32).toNatClampNeg z_54) = f_56 at hP hD hI_f_56 hfs_57
                obtain ⟨z_58, ez_58⟩ : ∃ y : Int32, y = k_8 + 1 := ⟨_, rfl⟩
                have kz_58 : (z_58).toInt = (k_8).toInt + (1 : Int) := by rw [ez_58]; exact z_add (b := 1) rfl rfl (z_al hF_10.1 (by decide)) (z_ah hF_10.2 (by decide))
                refine lv_iinc (v := z_58) (lv' := [(6, .int z_58), (7, .int p3), (0, .ref h0), (1, .int p1), (2, .int p2), (3, .int p3), (4, .int p4), (5, .int p5)]) hx hb dX12_feed_107 hl (k := 1) rfl (by rw [ez_58]; rfl) (by decide) rfl (fun ls hl => ?_)
                refine lv_goto (tgt := 23) hx hb dX12_feed_110 (by decide) ?_
                exact ih_7 z_58 f_56 _ _ _ (show (21 - (z_58).toInt).toNat < n_6 by omega) (show ((0 : Int) ≤ (z_58).toInt ∧ (z_58).toInt ≤ (20 : Int)) by omega) hI_f_56 (show f_56 = f_fe fh1 (mt).toNatClampNeg (f_by p1 p2 p3 p4 p5) (z_58 : Int32).toNatClampNeg from by rw [z_nc1 ez_58 (by omega) (by omega)]; exact hfs_57) hP hD hS (lv_sub hl [0, 2, 3, 4, 5, 6, 7] rfl)
            · have k_59 : (8 : Int) > (k_8).toInt := z_nle c_21
              refine lv_iload_n hx hb dX12_feed_47 rfl (lv_at hl 3 rfl) ?_
              refine lv_goto (tgt := 76) hx hb dX12_feed_48 (by decide) ?_
              refine lv_istore (lv' := [(7, .int p2), (6, .int k_8), (0, .ref h0), (1, .int p1), (2, .int p2), (3, .int p3), (4, .int p4), (5, .int p5)]) hx hb dX12_feed_76 hl (by decide) rfl (fun ls hl => ?_)
              refine lv_aload_n hx hb dX12_feed_78 rfl (lv_at hl 2 rfl) ?_
              refine va_get (D := (dC, dI)) (ci := 12) (v := .ref h1) (C := RX12) (T := TX12) (N := 70) hx hb hts hiX12 hown hK hP 0 rfl rfl 0 (by decide) w__fieldLink_RX12_7_ShellHeapModel_tape_I_ (fun _ h9 => h9) rfl dX12_feed_79 ?_
              refine lv_aload_n hx hb dX12_feed_82 rfl (lv_at hl 2 rfl) ?_
              refine va_get (D := (dC, dI)) (ci := 12) (v := .int mt) (C := RX12) (T := TX12) (N := 70) hx hb hts hiX12 hown hK hP 0 rfl rfl 1 (by decide) w__fieldLink_RX12_148_ShellHeapModel_tapeSize_I_ (fun _ h9 => h9) rfl dX12_feed_83 ?_
              refine lv_iload hx hb dX12_feed_86 (lv_at hl 1 rfl) ?_
              refine lv_iadd hx hb dX12_feed_88 ?_
              refine lv_topi (fun z_60 ez_60 => ?_)
              have kz_60 : (z_60).toInt = (mt).toInt + (k_8).toInt := by rw [ez_60]; exact z_add (a := (mt).toInt) (b := (k_8).toInt) rfl rfl (by omega) (by omega)
              refine lv_iload hx hb dX12_feed_89 (lv_at hl 0 rfl) ?_
              refine lv_bipush (v := 24) hx hb dX12_feed_91 (by decide) ?_
              refine lv_bipush (v := 8) hx hb dX12_feed_93 (by decide) ?_
              refine lv_iload hx hb dX12_feed_95 (lv_at hl 1 rfl) ?_
              refine lv_iconst (v := 4) hx hb dX12_feed_97 (by decide) ?_
              refine lv_irem hx hb dX12_feed_98 (by decide) ?_
              refine lv_topi (fun z_61 ez_61 => ?_)
              refine lv_imul hx hb dX12_feed_99 ?_
              refine lv_topi (fun z_62 ez_62 => ?_)
              refine lv_isub hx hb dX12_feed_100 ?_
              refine lv_topi (fun z_63 ez_63 => ?_)
              refine lv_ishr hx hb dX12_feed_101 ?_
              refine lv_topi (fun z_64 ez_64 => ?_)
              refine lv_sipush (v := 255) hx hb dX12_feed_102 (by decide) ?_
              refine lv_iand hx hb dX12_feed_105 ?_
              refine lv_topi (fun z_65 ez_65 => ?_)
              have kz_65 : (0 : Int) ≤ (z_65).toInt ∧ (z_65).toInt ≤ (255 : Int) := by rw [ez_65]; exact z_and _ 8 (by decide) (by decide)
              refine va_iast hx hb hK hP hD hS 1 0 rfl rfl (z_vpin (by omega) (by omega)) dX12_feed_106 (fun H_66 locs hP hD hS => ?_)
              obtain ⟨hP, hD⟩ := z_s_1 hP hD
              have hI_f_67 : ∀ j : Nat, ((0 : Int) ≤ ((upd f_9 (z_60 : Int32).toNatClampNeg z_65) j).toInt ∧ ((upd f_9 (z_60 : Int32).toNatClampNeg z_65) j).toInt ≤ (255 : Int)) := z_updP (P := fun v => ((0 : Int) ≤ (v).toInt ∧ (v).toInt ≤ (255 : Int))) hI_f_9 (show ((0 : Int) ≤ (z_65).toInt ∧ (z_65).toInt ≤ (255 : Int)) from by first | omega | decide)
              have hfs_68 : (upd f_9 (z_60 : Int32).toNatClampNeg z_65) = f_fe fh1 (mt).toNatClampNeg (f_by p1 p2 p3 p4 p5) ((k_8 : Int32).toNatClampNeg + 1) := f_fe_s hF_11 (by have h8 : (z_60 : Int32).toNatClampNeg = (z_60).toInt.toNat := rfl; have h7 : (k_8 : Int32).toNatClampNeg = (k_8).toInt.toNat := rfl; have h6 : (mt : Int32).toNatClampNeg = (mt).toInt.toNat := rfl; omega) (by rw [ez_65, ez_64, ez_63, ez_62, ez_61]; exact f_by_k (by omega) (by omega) (by rw [show (k_8 : Int32).toNatClampNeg / 4 = 1 by have h8 : (k_8 : Int32).toNatClampNeg = (k_8).toInt.toNat := rfl; omega]; rfl))
              generalize (upd f_9 (z_60 : Int32).toNatClampNeg z_65) = f_67 at hP hD hI_f_67 hfs_68
              obtain ⟨z_69, ez_69⟩ : ∃ y : Int32, y = k_8 + 1 := ⟨_, rfl⟩
              have kz_69 : (z_69).toInt = (k_8).toInt + (1 : Int) := by rw [ez_69]; exact z_add (b := 1) rfl rfl (z_al hF_10.1 (by decide)) (z_ah hF_10.2 (by decide))
              refine lv_iinc (v := z_69) (lv' := [(6, .int z_69), (7, .int p2), (0, .ref h0), (1, .int p1), (2, .int p2), (3, .int p3), (4, .int p4), (5, .int p5)]) hx hb dX12_feed_107 hl (k := 1) rfl (by rw [ez_69]; rfl) (by decide) rfl (fun ls hl => ?_)
              refine lv_goto (tgt := 23) hx hb dX12_feed_110 (by decide) ?_
              exact ih_7 z_69 f_67 _ _ _ (show (21 - (z_69).toInt).toNat < n_6 by omega) (show ((0 : Int) ≤ (z_69).toInt ∧ (z_69).toInt ≤ (20 : Int)) by omega) hI_f_67 (show f_67 = f_fe fh1 (mt).toNatClampNeg (f_by p1 p2 p3 p4 p5) (z_69 : Int32).toNatClampNeg from by rw [z_nc1 ez_69 (by omega) (by omega)]; exact hfs_68) hP hD hS (lv_sub hl [0, 2, 3, 4, 5, 6, 7] rfl)
          · have k_70 : (4 : Int) > (k_8).toInt := z_nle c_19
            refine lv_iload_n hx hb dX12_feed_36 rfl (lv_at hl 2 rfl) ?_
            refine lv_goto (tgt := 76) hx hb dX12_feed_37 (by decide) ?_
            refine lv_istore (lv' := [(7, .int p1), (6, .int k_8), (0, .ref h0), (1, .int p1), (2, .int p2), (3, .int p3), (4, .int p4), (5, .int p5)]) hx hb dX12_feed_76 hl (by decide) rfl (fun ls hl => ?_)
            refine lv_aload_n hx hb dX12_feed_78 rfl (lv_at hl 2 rfl) ?_
            refine va_get (D := (dC, dI)) (ci := 12) (v := .ref h1) (C := RX12) (T := TX12) (N := 70) hx hb hts hiX12 hown hK hP 0 rfl rfl 0 (by decide) w__fieldLink_RX12_7_ShellHeapModel_tape_I_ (fun _ h9 => h9) rfl dX12_feed_79 ?_
            refine lv_aload_n hx hb dX12_feed_82 rfl (lv_at hl 2 rfl) ?_
            refine va_get (D := (dC, dI)) (ci := 12) (v := .int mt) (C := RX12) (T := TX12) (N := 70) hx hb hts hiX12 hown hK hP 0 rfl rfl 1 (by decide) w__fieldLink_RX12_148_ShellHeapModel_tapeSize_I_ (fun _ h9 => h9) rfl dX12_feed_83 ?_
            refine lv_iload hx hb dX12_feed_86 (lv_at hl 1 rfl) ?_
            refine lv_iadd hx hb dX12_feed_88 ?_
            refine lv_topi (fun z_71 ez_71 => ?_)
            have kz_71 : (z_71).toInt = (mt).toInt + (k_8).toInt := by rw [ez_71]; exact z_add (a := (mt).toInt) (b := (k_8).toInt) rfl rfl (by omega) (by omega)
            refine lv_iload hx hb dX12_feed_89 (lv_at hl 0 rfl) ?_
            refine lv_bipush (v := 24) hx hb dX12_feed_91 (by decide) ?_
            refine lv_bipush (v := 8) hx hb dX12_feed_93 (by decide) ?_
            refine lv_iload hx hb dX12_feed_95 (lv_at hl 1 rfl) ?_
            refine lv_iconst (v := 4) hx hb dX12_feed_97 (by decide) ?_
            refine lv_irem hx hb dX12_feed_98 (by decide) ?_
            refine lv_topi (fun z_72 ez_72 => ?_)
            refine lv_imul hx hb dX12_feed_99 ?_
            refine lv_topi (fun z_73 ez_73 => ?_)
            refine lv_isub hx hb dX12_feed_100 ?_
            refine lv_topi (fun z_74 ez_74 => ?_)
            refine lv_ishr hx hb dX12_feed_101 ?_
            refine lv_topi (fun z_75 ez_75 => ?_)
            refine lv_sipush (v := 255) hx hb dX12_feed_102 (by decide) ?_
            refine lv_iand hx hb dX12_feed_105 ?_
            refine lv_topi (fun z_76 ez_76 => ?_)
            have kz_76 : (0 : Int) ≤ (z_76).toInt ∧ (z_76).toInt ≤ (255 : Int) := by rw [ez_76]; exact z_and _ 8 (by decide) (by decide)
            refine va_iast hx hb hK hP hD hS 1 0 rfl rfl (z_vpin (by omega) (by omega)) dX12_feed_106 (fun H_77 locs hP hD hS => ?_)
            obtain ⟨hP, hD⟩ := z_s_1 hP hD
            have hI_f_78 : ∀ j : Nat, ((0 : Int) ≤ ((upd f_9 (z_71 : Int32).toNatClampNeg z_76) j).toInt ∧ ((upd f_9 (z_71 : Int32).toNatClampNeg z_76) j).toInt ≤ (255 : Int)) := z_updP (P := fun v => ((0 : Int) ≤ (v).toInt ∧ (v).toInt ≤ (255 : Int))) hI_f_9 (show ((0 : Int) ≤ (z_76).toInt ∧ (z_76).toInt ≤ (255 : Int)) from by first | omega | decide)
            have hfs_79 : (upd f_9 (z_71 : Int32).toNatClampNeg z_76) = f_fe fh1 (mt).toNatClampNeg (f_by p1 p2 p3 p4 p5) ((k_8 : Int32).toNatClampNeg + 1) := f_fe_s hF_11 (by have h8 : (z_71 : Int32).toNatClampNeg = (z_71).toInt.toNat := rfl; have h7 : (k_8 : Int32).toNatClampNeg = (k_8).toInt.toNat := rfl; have h6 : (mt : Int32).toNatClampNeg = (mt).toInt.toNat := rfl; omega) (by rw [ez_76, ez_75, ez_74, ez_73, ez_72]; exact f_by_k (by omega) (by omega) (by rw [show (k_8 : Int32).toNatClampNeg / 4 = 0 by have h8 : (k_8 : Int32).toNatClampNeg = (k_8).toInt.toNat := rfl; omega]; rfl))
            generalize (upd f_9 (z_71 : Int32).toNatClampNeg z_76) = f_78 at hP hD hI_f_78 hfs_79
            obtain ⟨z_80, ez_80⟩ : ∃ y : Int32, y = k_8 + 1 := ⟨_, rfl⟩
            have kz_80 : (z_80).toInt = (k_8).toInt + (1 : Int) := by rw [ez_80]; exact z_add (b := 1) rfl rfl (z_al hF_10.1 (by decide)) (z_ah hF_10.2 (by decide))
            refine lv_iinc (v := z_80) (lv' := [(6, .int z_80), (7, .int p1), (0, .ref h0), (1, .int p1), (2, .int p2), (3, .int p3), (4, .int p4), (5, .int p5)]) hx hb dX12_feed_107 hl (k := 1) rfl (by rw [ez_80]; rfl) (by decide) rfl (fun ls hl => ?_)
            refine lv_goto (tgt := 23) hx hb dX12_feed_110 (by decide) ?_
            exact ih_7 z_80 f_78 _ _ _ (show (21 - (z_80).toInt).toNat < n_6 by omega) (show ((0 : Int) ≤ (z_80).toInt ∧ (z_80).toInt ≤ (20 : Int)) by omega) hI_f_78 (show f_78 = f_fe fh1 (mt).toNatClampNeg (f_by p1 p2 p3 p4 p5) (z_80 : Int32).toNatClampNeg from by rw [z_nc1 ez_80 (by omega) (by omega)]; exact hfs_79) hP hD hS (lv_sub hl [0, 2, 3, 4, 5, 6, 7] rfl)
    exact loop_5 _ 0 fh1 _ _ _ (Nat.lt_succ_self _) (show ((0 : Int) ≤ (0 : Int) ∧ (0 : Int) ≤ (20 : Int)) by omega) hI_h1 (show fh1 = f_fe fh1 (mt).toNatClampNeg (f_by p1 p2 p3 p4 p5) (0 : Int32).toNatClampNeg from rfl) hP hD hS hl
  · have k_81 : (z_2).toInt > (700 : Int) := z_nle c_3
    refine lv_iconst (v := (-1)) hx hb dX12_feed_18 (by decide) ?_
    refine z_backQ hQQ ?_
    have hP9 := hP
    have hD9 := hD
    have hK9 := hK.sub (tys' := []) [] rfl
    refine W.widen (k := 0) (n := 0) (Nat.le_of_ble_eq_true rfl) (Nat.le_of_ble_eq_true rfl) ?_
    exact W.iret (v := (-1)) hx hb hr (fun t ht hW => ⟨⟨(-1), (), rfl, (show (-1) = v_feA mt by unfold v_feA; rw [if_neg (by omega)]), ⟨0, mt, fh1, hB_mt, hI_h1, (show mt = v_feN mt by unfold v_feN; rw [if_neg (by omega)]), (show fh1 = v_feB fh1 mt p1 p2 p3 p4 p5 by unfold v_feB; rw [if_neg (by omega)]), by rw [ht]; exact hP9, va_K.moved hW.alike hK9, hD9⟩⟩, hS.F ht⟩) hS.2.2 dX12_feed_19
def u_s_X0_writeK : List Cond := .code yX0_write cX0_write 5 (some .int) :: ([.methodLink RX0 31 yX0_isFull, .instanceMethod yX0_isFull, .selects RX0 yX0_isFull yX0_isFull, .initialized RX0, .fieldLink RX0 9 "ShellHeap$Book" "sort" "[I", .fieldLink RX0 24 "ShellHeap$Book" "notes" "I", .fieldLink RX0 15 "ShellHeap$Book" "a" "[I", .fieldLink RX0 18 "ShellHeap$Book" "b" "[I", .fieldLink RX0 21 "ShellHeap$Book" "c" "[I"] ++ (wsX00 ++ (u_s_X0_isFull2 ++ [])))
theorem gd_s_X0_writeK : z_gd u_s_X0_writeK := z_gdc (by decide +kernel) (z_gda gdX0 (z_gda gd_s_X0_isFull2 (z_gd0)))
set_option maxRecDepth 20000 in
theorem gw_s_X0_writeK_s_X0_isFull2_31 : GoodIn u_s_X0_writeK (wsV RX0 31 RX0 yX0_isFull u_s_X0_isFull2) := z_gV (z_gr _ [1, 2, 3, 4] rfl (by decide +kernel)) (fun w h => ⟨z_mc (z_mr (z_mr (z_ml h))), gd_s_X0_isFull2 w h⟩)
set_option maxHeartbeats 4000000 in
set_option maxRecDepth 100000 in
theorem s_X0_writeK (l : Launch) (dC : Nat → ClassId) (dI : Nat → Nat → Nat) (sz : Nat) (h0 : Nat) (p1 : Int32) (p2 : Int32) (p3 : Int32) (p4 : Int32) (hs : Nat) (ha : Nat) (hb9 : Nat) (hc9 : Nat) (bn : Int32) (h0_5 : Value) (chs : ClassId) (fhs : Nat → Int32) (cha : ClassId) (fha : Nat → Int32) (chb9 : ClassId) (fhb9 : Nat → Int32) (chc9 : ClassId) (fhc9 : Nat → Int32) (hB_bn : ((0 : Int) ≤ (bn).toInt ∧ (bn).toInt ≤ (80 : Int))) (hB_p2 : ((0 : Int) ≤ (p2).toInt ∧ (p2).toInt ≤ (79 : Int))) (hI_ha : ∀ j : Nat, ((0 : Int) ≤ (fha j).toInt ∧ (fha j).toInt ≤ (79 : Int))) (hR : ∀ j : Nat, z_rel (fhs j) (fha j) (fhb9 j)) (hz : z_rel p1 p2 p3) : Met l yX0_write u_s_X0_writeK ({ frames := 1, cells := 0, slots := 0, locals := 20 }) (va_Pc [.ref h0, .int p1, .int p2, .int p3, .int p4] (z_C (dC, dI) vwCl [(h0, .inr (0, [.ref hs, .ref ha, .ref hb9, .ref hc9, .int bn, h0_5])), (hs, .inl (chs, 80, .inl fhs)), (ha, .inl (cha, 80, .inl fha)), (hb9, .inl (chb9, 80, .inl fhb9)), (hc9, .inl (chc9, 80, .inl fhc9))] [(chs, .int), (cha, .int), (chb9, .int), (chc9, .int)] sz)) (va_Qi (fun (r : Int32) (_ : Unit) => r = v_wrA bn) (fun (_ : Unit) (t : State) => ∃ (n_h0_notes : Int32), ∃ (g_hs : Nat → Int32), ∃ (g_ha : Nat → Int32), ∃ (g_hb9 : Nat → Int32), ∃ (g_hc9 : Nat → Int32), ((0 : Int) ≤ (n_h0_notes).toInt ∧ (n_h0_notes).toInt ≤ (80 : Int)) ∧ (∀ j : Nat, ((0 : Int) ≤ (g_ha j).toInt ∧ (g_ha j).toInt ≤ (79 : Int))) ∧ (∀ j : Nat, z_rel (g_hs j) (g_ha j) (g_hb9 j)) ∧ (n_h0_notes = v_wrN bn) ∧ (g_hs = v_up (bn.toInt < 80) fhs bn p1) ∧ (g_ha = v_up (bn.toInt < 80) fha bn p2) ∧ (g_hb9 = v_up (bn.toInt < 80) fhb9 bn p3) ∧ (g_hc9 = v_up (bn.toInt < 80) fhc9 bn p4) ∧ va_P (dC, dI) vwCl [(h0, .inr (0, [.ref hs, .ref ha, .ref hb9, .ref hc9, .int n_h0_notes, h0_5])), (hs, .inl (chs, 80, .inl g_hs)), (ha, .inl (cha, 80, .inl g_ha)), (hb9, .inl (chb9, 80, .inl g_hb9)), (hc9, .inl (chc9, 80, .inl g_hc9))] t.heap ∧ va_K (dC, dI) vwCl [] t ∧ va_D (va_A [(h0, .inr (0, [.ref hs, .ref ha, .ref hb9, .ref hc9, .int bn, h0_5])), (hs, .inl (chs, 80, .inl fhs)), (ha, .inl (cha, 80, .inl fha)), (hb9, .inl (chb9, 80, .inl fhb9)), (hc9, .inl (chc9, 80, .inl fhc9))] sz) [(h0, .inr (0, [.ref hs, .ref ha, .ref hb9, .ref hc9, .int n_h0_notes, h0_5])), (hs, .inl (chs, 80, .inl g_hs)), (ha, .inl (cha, 80, .inl g_ha)), (hb9, .inl (chb9, 80, .inl g_hb9)), (hc9, .inl (chc9, 80, .inl g_hc9))]) (va_A [(h0, .inr (0, [.ref hs, .ref ha, .ref hb9, .ref hc9, .int bn, h0_5])), (hs, .inl (chs, 80, .inl fhs)), (ha, .inl (cha, 80, .inl fha)), (hb9, .inl (chb9, 80, .inl fhb9)), (hc9, .inl (chc9, 80, .inl fhc9))] sz)) 0 0 (va_A [(h0, .inr (0, [.ref hs, .ref ha, .ref hb9, .ref hc9, .int bn, h0_5])), (hs, .inl (chs, 80, .inl fhs)), (ha, .inl (cha, 80, .inl fha)), (hb9, .inl (chb9, 80, .inl fhb9)), (hc9, .inl (chc9, 80, .inl fhc9))] sz) := by
  refine Met.ofW (cc := cX0_write) (maxL := 5) (ret := (some .int)) (by decide) rfl ?_
  intro p e s m args below meth c s₁ B hml hv
  obtain ⟨rfl, hsz, hP, hK, hD0⟩ := hv
  have hx := B.exec
  have hb := B.bytes
  have hr := B.returns
  have hts := atoms_spec (ws := u_s_X0_writeK) B.pre
  have hown : s.vm.findClass RX0 = some m.cls := findClass_of_methodNamed B.named
  have hlocks := B.notSynchronized
  subst hsz
  have hD := hD0.self (sz := s.heap.size)
  generalize hAe : va_A [(h0, .inr (0, [.ref hs, .ref ha, .ref hb9, .ref hc9, .int bn, h0_5])), (hs, .inl (chs, 80, .inl fhs)), (ha, .inl (cha, 80, .inl fha)), (hb9, .inl (chb9, 80, .inl fhb9)), (hc9, .inl (chc9, 80, .inl fhc9))] s.heap.size = A at hD ⊢
  have hA : ∀ q : Nat, s.heap.size ≤ q → A q := fun q h => by rw [← hAe]; exact Or.inr h
  have hS : va_S A s.heap s.heap [] := va_S.rf
  have hP : va_P (dC, dI) vwCl [(h0, .inr (0, [.ref hs, .ref ha, .ref hb9, .ref hc9, .int bn, h0_5])), (hs, .inl (chs, 80, .inl fhs)), (ha, .inl (cha, 80, .inl fha)), (hb9, .inl (chb9, 80, .inl fhb9)), (hc9, .inl (chc9, 80, .inl fhc9))] s.heap := hP
  have w__fieldLink_RX0_9_ShellHeap_Book_sort_I_ := hts (.fieldLink RX0 9 "ShellHeap$Book" "sort" "[I") (z_mc (z_ml z_m4))
  have hiX0 := show ∀ w ∈ u_ws RX0 TX0 6, w ∈ u_s_X0_writeK from fun w h => z_mc (z_mr (z_ml h))
  have w__fieldLink_RX0_24_ShellHeap_Book_notes_I_ := hts (.fieldLink RX0 24 "ShellHeap$Book" "notes" "I") (z_mc (z_ml z_m5))
  have w__fieldLink_RX0_15_ShellHeap_Book_a_I_ := hts (.fieldLink RX0 15 "ShellHeap$Book" "a" "[I") (z_mc (z_ml z_m6))
  have w__fieldLink_RX0_18_ShellHeap_Book_b_I_ := hts (.fieldLink RX0 18 "ShellHeap$Book" "b" "[I") (z_mc (z_ml z_m7))
  have w__fieldLink_RX0_21_ShellHeap_Book_c_I_ := hts (.fieldLink RX0 21 "ShellHeap$Book" "c" "[I") (z_mc (z_ml z_m8))
  have krr_p1 := z_rng p1
  have krr_p3 := z_rng p3
  have krr_p4 := z_rng p4
  have hl := lv_entry ([.ref h0, .int p1, .int p2, .int p3, .int p4]) (n := 5) (Nat.le_of_ble_eq_true rfl)
  rw [lg_entry_eq]
  generalize (lg_sl ([.ref h0, .int p1, .int p2, .int p3, .int p4]) ++ List.replicate (5 - (lg_sl ([.ref h0, .int p1, .int p2, .int p3, .int p4])).length) Slot.unset).toArray = ls at hl ⊢
  have hl : lv_has ls 5 [(0, .ref h0), (1, .int p1), (2, .int p2), (3, .int p3), (4, .int p4)] := hl
  refine lv_aload_n hx hb dX0_write_0 rfl (lv_at hl 0 rfl) ?_
  obtain ⟨hPc, hDc⟩ := z_sub2 (ws' := [(h0, .inr (0, [.ref hs, .ref ha, .ref hb9, .ref hc9, .int bn, h0_5]))]) hP hD [0] (by decide) rfl
  have hKc := hK.sub (tys' := []) [] rfl
  have hFc := va_free (ws := []) (wc := []) (z_D0 _) hS hA [] rfl
  refine va_calli (va_runV (As := []) (rest := []) ⟨hx, hb, hml, hown, hts⟩ (s_X0_isFull2 l dC dI s.heap.size h0 (.ref hs) (.ref ha) (.ref hb9) (.ref hc9) bn h0_5 hB_bn) (cwV 0 hts gw_s_X0_writeK_s_X0_isFull2_31 rfl rfl rfl (by decide +kernel) ⟨Nat.le_of_ble_eq_true rfl, Nat.le_of_ble_eq_true rfl⟩) ⟨z_blind, va_recv hKc hPc (ci := 0) (q0 := 0) rfl rfl, z_pre hPc hKc hDc⟩ rfl rfl hl.1 rfl (lv_room (Nat.le_of_ble_eq_true rfl)) dX0_write_1 ⟨Nat.le_of_ble_eq_true rfl, Nat.le_of_ble_eq_true rfl⟩) hS (fun q _ h => hFc q h) hFc (fun r_2 u t H_1 locs ht hvm hw_3 hB hz1 hk1 hS => ?_)
  replace hP := z_pure hP hk1
  clear hPc hDc hKc
  rcases hw_3 with ⟨rfl, hw_3⟩ | ⟨rfl, hw_3⟩
  · have hw_3 : (80 ≤ bn.toInt) := hw_3
    refine lv_if_eq (tgt := 9) hx hb dX0_write_4 (by decide) (fun c_4 => absurd c_4 (by decide)) (fun _ => ?_)
    refine lv_iconst (v := (-1)) hx hb dX0_write_7 (by decide) ?_
    have hP9 := hP
    have hD9 := hD
    have hK9 := hK.sub (tys' := []) [] rfl
    refine W.widen (k := 0) (n := 0) (Nat.le_of_ble_eq_true rfl) (Nat.le_of_ble_eq_true rfl) ?_
    exact W.iret (v := (-1)) hx hb hr (fun t ht hW => ⟨⟨(-1), (), rfl, (show (-1) = v_wrA bn by unfold v_wrA; rw [if_neg (by omega)]), ⟨bn, fhs, fha, fhb9, fhc9, hB_bn, hI_ha, hR, (show bn = v_wrN bn by unfold v_wrN; rw [if_neg (by omega)]), (show fhs = v_up (bn.toInt < 80) fhs bn p1 from (v_up_n (by omega)).symm), (show fha = v_up (bn.toInt < 80) fha bn p2 from (v_up_n (by omega)).symm), (show fhb9 = v_up (bn.toInt < 80) fhb9 bn p3 from (v_up_n (by omega)).symm), (show fhc9 = v_up (bn.toInt < 80) fhc9 bn p4 from (v_up_n (by omega)).symm), by rw [ht]; exact hP9, va_K.moved hW.alike hK9, hD9⟩⟩, hS.F ht⟩) hS.2.2 dX0_write_8
  · have hw_3 : (bn.toInt < 80) := hw_3
    refine lv_if_eq (tgt := 9) hx hb dX0_write_4 (by decide) (fun _ => ?_) (fun c_5 => absurd (by decide) c_5)
    refine lv_aload_n hx hb dX0_write_9 rfl (lv_at hl 0 rfl) ?_
    refine va_get (D := (dC, dI)) (ci := 0) (v := .ref hs) (C := RX0) (T := TX0) (N := 6) hx hb hts hiX0 hown hK hP 0 rfl rfl 0 (by decide) w__fieldLink_RX0_9_ShellHeap_Book_sort_I_ (fun _ h9 => h9) rfl dX0_write_10 ?_
    refine lv_aload_n hx hb dX0_write_13 rfl (lv_at hl 0 rfl) ?_
    refine va_get (D := (dC, dI)) (ci := 0) (v := .int bn) (C := RX0) (T := TX0) (N := 6) hx hb hts hiX0 hown hK hP 0 rfl rfl 4 (by decide) w__fieldLink_RX0_24_ShellHeap_Book_notes_I_ (fun _ h9 => h9) rfl dX0_write_14 ?_
    refine lv_iload_n hx hb dX0_write_17 rfl (lv_at hl 1 rfl) ?_
    refine va_iast hx hb hK hP hD hS 1 0 rfl rfl (z_vpin (by omega) (by omega)) dX0_write_18 (fun H_6 locs hP hD hS => ?_)
    obtain ⟨hP, hD⟩ := z_s_1 hP hD
    refine lv_aload_n hx hb dX0_write_19 rfl (lv_at hl 0 rfl) ?_
    refine va_get (D := (dC, dI)) (ci := 0) (v := .ref ha) (C := RX0) (T := TX0) (N := 6) hx hb hts hiX0 hown hK hP 0 rfl rfl 1 (by decide) w__fieldLink_RX0_15_ShellHeap_Book_a_I_ (fun _ h9 => h9) rfl dX0_write_20 ?_
    refine lv_aload_n hx hb dX0_write_23 rfl (lv_at hl 0 rfl) ?_
    refine va_get (D := (dC, dI)) (ci := 0) (v := .int bn) (C := RX0) (T := TX0) (N := 6) hx hb hts hiX0 hown hK hP 0 rfl rfl 4 (by decide) w__fieldLink_RX0_24_ShellHeap_Book_notes_I_ (fun _ h9 => h9) rfl dX0_write_24 ?_
    refine lv_iload_n hx hb dX0_write_27 rfl (lv_at hl 2 rfl) ?_
    refine va_iast hx hb hK hP hD hS 2 1 rfl rfl (z_vpin (by omega) (by omega)) dX0_write_28 (fun H_8 locs hP hD hS => ?_)
    obtain ⟨hP, hD⟩ := z_s_2 hP hD
    have hI_f_9 : ∀ j : Nat, ((0 : Int) ≤ ((upd fha (bn : Int32).toNatClampNeg p2) j).toInt ∧ ((upd fha (bn : Int32).toNatClampNeg p2) j).toInt ≤ (79 : Int)) := z_updP (P := fun v => ((0 : Int) ≤ (v).toInt ∧ (v).toInt ≤ (79 : Int))) hI_ha (show ((0 : Int) ≤ (p2).toInt ∧ (p2).toInt ≤ (79 : Int)) from hB_p2)
    refine lv_aload_n hx hb dX0_write_29 rfl (lv_at hl 0 rfl) ?_
    refine va_get (D := (dC, dI)) (ci := 0) (v := .ref hb9) (C := RX0) (T := TX0) (N := 6) hx hb hts hiX0 hown hK hP 0 rfl rfl 2 (by decide) w__fieldLink_RX0_18_ShellHeap_Book_b_I_ (fun _ h9 => h9) rfl dX0_write_30 ?_
    refine lv_aload_n hx hb dX0_write_33 rfl (lv_at hl 0 rfl) ?_
    refine va_get (D := (dC, dI)) (ci := 0) (v := .int bn) (C := RX0) (T := TX0) (N := 6) hx hb hts hiX0 hown hK hP 0 rfl rfl 4 (by decide) w__fieldLink_RX0_24_ShellHeap_Book_notes_I_ (fun _ h9 => h9) rfl dX0_write_34 ?_
    refine lv_iload_n hx hb dX0_write_37 rfl (lv_at hl 3 rfl) ?_
    refine va_iast hx hb hK hP hD hS 3 2 rfl rfl (z_vpin (by omega) (by omega)) dX0_write_38 (fun H_10 locs hP hD hS => ?_)
    obtain ⟨hP, hD⟩ := z_s_3 hP hD
    refine lv_aload_n hx hb dX0_write_39 rfl (lv_at hl 0 rfl) ?_
    refine va_get (D := (dC, dI)) (ci := 0) (v := .ref hc9) (C := RX0) (T := TX0) (N := 6) hx hb hts hiX0 hown hK hP 0 rfl rfl 3 (by decide) w__fieldLink_RX0_21_ShellHeap_Book_c_I_ (fun _ h9 => h9) rfl dX0_write_40 ?_
    refine lv_aload_n hx hb dX0_write_43 rfl (lv_at hl 0 rfl) ?_
    refine va_get (D := (dC, dI)) (ci := 0) (v := .int bn) (C := RX0) (T := TX0) (N := 6) hx hb hts hiX0 hown hK hP 0 rfl rfl 4 (by decide) w__fieldLink_RX0_24_ShellHeap_Book_notes_I_ (fun _ h9 => h9) rfl dX0_write_44 ?_
    refine lv_iload hx hb dX0_write_47 (lv_at hl 4 rfl) ?_
    refine va_iast hx hb hK hP hD hS 4 3 rfl rfl (z_vpin (by omega) (by omega)) dX0_write_49 (fun H_12 locs hP hD hS => ?_)
    obtain ⟨hP, hD⟩ := z_s_4 hP hD
    refine lv_aload_n hx hb dX0_write_50 rfl (lv_at hl 0 rfl) ?_
    refine lv_dup hx hb dX0_write_51 rfl ?_
    refine va_get (D := (dC, dI)) (ci := 0) (v := .int bn) (C := RX0) (T := TX0) (N := 6) hx hb hts hiX0 hown hK hP 0 rfl rfl 4 (by decide) w__fieldLink_RX0_24_ShellHeap_Book_notes_I_ (fun _ h9 => h9) rfl dX0_write_52 ?_
    refine lv_iconst (v := 1) hx hb dX0_write_55 (by decide) ?_
    refine lv_iadd hx hb dX0_write_56 ?_
    refine lv_topi (fun z_14 ez_14 => ?_)
    have kz_14 : (z_14).toInt = (bn).toInt + (1 : Int) := by rw [ez_14]; exact z_add (a := (bn).toInt) (b := (1 : Int)) rfl rfl (z_al hB_bn.1 (by decide)) (z_ah hB_bn.2 (by decide))
    refine va_put (D := (dC, dI)) (ci := 0) (v := .int z_14) (ty := .int) (C := RX0) (T := TX0) (N := 6) hx hb hts hiX0 tyX0 tyX0_ok nmX0 hown hK hP hD hS 0 rfl rfl 4 (by decide) w__fieldLink_RX0_24_ShellHeap_Book_notes_I_ (fun _ h9 => h9) rfl (by decide +kernel) rfl rfl (Nat.le_of_ble_eq_true rfl) dX0_write_57 (fun H_15 locs hP hD hS => ?_)
    obtain ⟨hP, hD⟩ := z_s_0_4 hP hD
    refine lv_aload_n hx hb dX0_write_60 rfl (lv_at hl 0 rfl) ?_
    refine va_get (D := (dC, dI)) (ci := 0) (v := .int z_14) (C := RX0) (T := TX0) (N := 6) hx hb hts hiX0 hown hK hP 0 rfl rfl 4 (by decide) w__fieldLink_RX0_24_ShellHeap_Book_notes_I_ (fun _ h9 => h9) rfl dX0_write_61 ?_
    refine lv_iconst (v := 1) hx hb dX0_write_64 (by decide) ?_
    refine lv_isub hx hb dX0_write_65 ?_
    refine lv_topi (fun z_16 ez_16 => ?_)
    have kz_16 : (z_16).toInt = (z_14).toInt - (1 : Int) := by rw [ez_16]; exact z_sub (a := (z_14).toInt) (b := (1 : Int)) rfl rfl (by omega) (by omega)
    have hP9 := hP
    have hD9 := hD
    have hK9 := hK.sub (tys' := []) [] rfl
    refine W.widen (k := 0) (n := 0) (Nat.le_of_ble_eq_true rfl) (Nat.le_of_ble_eq_true rfl) ?_
    exact W.iret (v := z_16) hx hb hr (fun t ht hW => ⟨⟨z_16, (), rfl, (show z_16 = v_wrA bn by unfold v_wrA; rw [if_pos (by omega)]; exact z_ii (by omega)), ⟨z_14, (upd fhs (bn : Int32).toNatClampNeg p1), (upd fha (bn : Int32).toNatClampNeg p2), (upd fhb9 (bn : Int32).toNatClampNeg p3), (upd fhc9 (bn : Int32).toNatClampNeg p4), (by first | omega | decide), hI_f_9, (z_rel_upd hR hz), (show z_14 = v_wrN bn by unfold v_wrN; rw [if_pos (by omega)]; exact ez_14), (show (upd fhs (bn : Int32).toNatClampNeg p1) = v_up (bn.toInt < 80) fhs bn p1 from (v_up_y (by omega)).symm), (show (upd fha (bn : Int32).toNatClampNeg p2) = v_up (bn.toInt < 80) fha bn p2 from (v_up_y (by omega)).symm), (show (upd fhb9 (bn : Int32).toNatClampNeg p3) = v_up (bn.toInt < 80) fhb9 bn p3 from (v_up_y (by omega)).symm), (show (upd fhc9 (bn : Int32).toNatClampNeg p4) = v_up (bn.toInt < 80) fhc9 bn p4 from (v_up_y (by omega)).symm), by rw [ht]; exact hP9, va_K.moved hW.alike hK9, hD9⟩⟩, hS.F ht⟩) hS.2.2 dX0_write_66
def u_s_X0_hasLayerA : List Cond := .code yX0_hasLayer cX0_hasLayer 2 (some .boolean) :: ([.fieldLink RX0 28 "ShellHeap$Book" "layers" "I"] ++ (wsX00 ++ []))
theorem gd_s_X0_hasLayerA : z_gd u_s_X0_hasLayerA := z_gdc (by decide +kernel) (z_gda gdX0 (z_gd0))
set_option maxHeartbeats 4000000 in
set_option maxRecDepth 100000 in
theorem s_X0_hasLayerA (l : Launch) (dC : Nat → ClassId) (dI : Nat → Nat → Nat) (sz : Nat) (h0 : Nat) (p1 : Int32) (h0_0 : Value) (h0_1 : Value) (h0_2 : Value) (h0_3 : Value) (h0_4 : Value) (bl : Int32) (hB_bl : ((0 : Int) ≤ (bl).toInt ∧ (bl).toInt ≤ (12 : Int))) : Met l yX0_hasLayer u_s_X0_hasLayerA ({ frames := 0, cells := 0, slots := 0, locals := 0 }) (va_Pc [.ref h0, .int p1] (z_C (dC, dI) vwCl [(h0, .inr (0, [h0_0, h0_1, h0_2, h0_3, h0_4, .int bl]))] [] sz)) (va_Qi (fun (r : Int32) (_ : Unit) => (r = 1 ∧ (0 ≤ p1.toInt ∧ p1.toInt < bl.toInt)) ∨ (r = 0 ∧ ¬ (0 ≤ p1.toInt ∧ p1.toInt < bl.toInt))) (fun (_ : Unit) (_ : State) => True) (va_A [] sz)) 0 0 (va_A [] sz) := by
  refine Met.ofW (cc := cX0_hasLayer) (maxL := 2) (ret := (some .boolean)) (by decide) rfl ?_
  intro p e s m args below meth c s₁ B hml hv
  obtain ⟨rfl, hsz, hP, hK, hD0⟩ := hv
  have hx := B.exec
  have hb := B.bytes
  have hr := B.returns
  have hts := atoms_spec (ws := u_s_X0_hasLayerA) B.pre
  have hown : s.vm.findClass RX0 = some m.cls := findClass_of_methodNamed B.named
  have hlocks := B.notSynchronized
  subst hsz
  have hD := hD0
  generalize hAe : va_A [] s.heap.size = A
  have hA : ∀ q : Nat, s.heap.size ≤ q → A q := fun q h => by rw [← hAe]; exact Or.inr h
  have hS : va_S A s.heap s.heap [] := va_S.rf
  have hP : va_P (dC, dI) vwCl [(h0, .inr (0, [h0_0, h0_1, h0_2, h0_3, h0_4, .int bl]))] s.heap := hP
  have w__fieldLink_RX0_28_ShellHeap_Book_layers_I_ := hts (.fieldLink RX0 28 "ShellHeap$Book" "layers" "I") (z_mc (z_ml z_m0))
  have hiX0 := show ∀ w ∈ u_ws RX0 TX0 6, w ∈ u_s_X0_hasLayerA from fun w h => z_mc (z_mr (z_ml h))
  have krr_p1 := z_rng p1
  have hl := lv_entry ([.ref h0, .int p1]) (n := 2) (Nat.le_of_ble_eq_true rfl)
  rw [lg_entry_eq]
  generalize (lg_sl ([.ref h0, .int p1]) ++ List.replicate (2 - (lg_sl ([.ref h0, .int p1])).length) Slot.unset).toArray = ls at hl ⊢
  have hl : lv_has ls 2 [(0, .ref h0), (1, .int p1)] := hl
  refine lv_iload_n hx hb dX0_hasLayer_0 rfl (lv_at hl 1 rfl) ?_
  refine lv_if_lt (tgt := 16) hx hb dX0_hasLayer_1 (by decide) (fun c_1 => ?_) (fun c_1 => ?_)
  · have k_2 : (p1).toInt < (0 : Int) := z_lt c_1
    refine lv_iconst (v := 0) hx hb dX0_hasLayer_16 (by decide) ?_
    refine W.widen (k := 0) (n := 0) (Nat.le_of_ble_eq_true rfl) (Nat.le_of_ble_eq_true rfl) ?_
    exact W.zret (v := 0) hx hb hr (by rfl) (fun t ht hW => ⟨⟨0, (), rfl, (Or.inr (⟨rfl, by first | omega | decide⟩)), trivial⟩, hS.F ht⟩) hS.2.2 dX0_hasLayer_17
  · have k_3 : (p1).toInt ≥ (0 : Int) := z_nlt c_1
    refine lv_iload_n hx hb dX0_hasLayer_4 rfl (lv_at hl 1 rfl) ?_
    refine lv_aload_n hx hb dX0_hasLayer_5 rfl (lv_at hl 0 rfl) ?_
    refine va_get (D := (dC, dI)) (ci := 0) (v := .int bl) (C := RX0) (T := TX0) (N := 6) hx hb hts hiX0 hown hK hP 0 rfl rfl 5 (by decide) w__fieldLink_RX0_28_ShellHeap_Book_layers_I_ (fun _ h9 => h9) rfl dX0_hasLayer_6 ?_
    refine lv_icmp_ge (tgt := 16) hx hb dX0_hasLayer_9 (by decide) (fun c_4 => ?_) (fun c_4 => ?_)
    · have k_5 : (bl).toInt ≤ (p1).toInt := z_le c_4
      refine lv_iconst (v := 0) hx hb dX0_hasLayer_16 (by decide) ?_
      refine W.widen (k := 0) (n := 0) (Nat.le_of_ble_eq_true rfl) (Nat.le_of_ble_eq_true rfl) ?_
      exact W.zret (v := 0) hx hb hr (by rfl) (fun t ht hW => ⟨⟨0, (), rfl, (Or.inr (⟨rfl, by first | omega | decide⟩)), trivial⟩, hS.F ht⟩) hS.2.2 dX0_hasLayer_17
    · have k_6 : (bl).toInt > (p1).toInt := z_nle c_4
      refine lv_iconst (v := 1) hx hb dX0_hasLayer_12 (by decide) ?_
      refine lv_goto (tgt := 17) hx hb dX0_hasLayer_13 (by decide) ?_
      refine W.widen (k := 0) (n := 0) (Nat.le_of_ble_eq_true rfl) (Nat.le_of_ble_eq_true rfl) ?_
      exact W.zret (v := 1) hx hb hr (by rfl) (fun t ht hW => ⟨⟨1, (), rfl, (Or.inl (⟨rfl, by first | omega | decide⟩)), trivial⟩, hS.F ht⟩) hS.2.2 dX0_hasLayer_17
def u_s_X12_isLayerA : List Cond := .code yX12_isLayer cX12_isLayer 2 (some .boolean) :: ([.fieldLink RX12 151 "ShellHeapModel" "layers" "I"] ++ (wsX120 ++ []))
theorem gd_s_X12_isLayerA : z_gd u_s_X12_isLayerA := z_gdc (by decide +kernel) (z_gda gdX12 (z_gd0))
set_option maxHeartbeats 4000000 in
set_option maxRecDepth 100000 in
theorem s_X12_isLayerA (l : Launch) (dC : Nat → ClassId) (dI : Nat → Nat → Nat) (sz : Nat) (h0 : Nat) (p1 : Int32) (h0_0 : Value) (h0_1 : Value) (h0_2 : Value) (ml : Int32) (h0_4 : Value) (h0_5 : Value) (h0_6 : Value) (h0_7 : Value) (h0_8 : Value) (h0_9 : Value) (h0_10 : Value) (h0_11 : Value) (h0_12 : Value) (h0_13 : Value) (h0_14 : Value) (h0_15 : Value) (h0_16 : Value) (h0_17 : Value) (h0_18 : Value) (h0_19 : Value) (h0_20 : Value) (h0_21 : Value) (h0_22 : Value) (h0_23 : Value) (h0_24 : Value) (h0_25 : Value) (h0_26 : Value) (h0_27 : Value) (h0_28 : Value) (h0_29 : Value) (h0_30 : Value) (h0_31 : Value) (h0_32 : Value) (h0_33 : Value) (h0_34 : Value) (h0_35 : Value) (h0_36 : Value) (h0_37 : Value) (h0_38 : Value) (h0_39 : Value) (h0_40 : Value) (h0_41 : Value) (h0_42 : Value) (h0_43 : Value) (h0_44 : Value) (h0_45 : Value) (h0_46 : Value) (h0_47 : Value) (h0_48 : Value) (h0_49 : Value) (h0_50 : Value) (h0_51 : Value) (h0_52 : Value) (h0_53 : Value) (h0_54 : Value) (h0_55 : Value) (h0_56 : Value) (h0_57 : Value) (h0_58 : Value) (h0_59 : Value) (h0_60 : Value) (h0_61 : Value) (h0_62 : Value) (h0_63 : Value) (h0_64 : Value) (h0_65 : Value) (h0_66 : Value) (h0_67 : Value) (h0_68 : Value) (h0_69 : Value) (hB_ml : ((0 : Int) ≤ (ml).toInt ∧ (ml).toInt ≤ (12 : Int))) : Met l yX12_isLayer u_s_X12_isLayerA ({ frames := 0, cells := 0, slots := 0, locals := 0 }) (va_Pc [.ref h0, .int p1] (z_C (dC, dI) vwCl [(h0, .inr (12, [h0_0, h0_1, h0_2, .int ml, h0_4, h0_5, h0_6, h0_7, h0_8, h0_9, h0_10, h0_11, h0_12, h0_13, h0_14, h0_15, h0_16, h0_17, h0_18, h0_19, h0_20, h0_21, h0_22, h0_23, h0_24, h0_25, h0_26, h0_27, h0_28, h0_29, h0_30, h0_31, h0_32, h0_33, h0_34, h0_35, h0_36, h0_37, h0_38, h0_39, h0_40, h0_41, h0_42, h0_43, h0_44, h0_45, h0_46, h0_47, h0_48, h0_49, h0_50, h0_51, h0_52, h0_53, h0_54, h0_55, h0_56, h0_57, h0_58, h0_59, h0_60, h0_61, h0_62, h0_63, h0_64, h0_65, h0_66, h0_67, h0_68, h0_69]))] [] sz)) (va_Qi (fun (r : Int32) (_ : Unit) => (r = 1 ∧ (0 ≤ p1.toInt ∧ p1.toInt < ml.toInt)) ∨ (r = 0 ∧ ¬ (0 ≤ p1.toInt ∧ p1.toInt < ml.toInt))) (fun (_ : Unit) (_ : State) => True) (va_A [] sz)) 0 0 (va_A [] sz) := by
  refine Met.ofW (cc := cX12_isLayer) (maxL := 2) (ret := (some .boolean)) (by decide) rfl ?_
  intro p e s m args below meth c s₁ B hml hv
  obtain ⟨rfl, hsz, hP, hK, hD0⟩ := hv
  have hx := B.exec
  have hb := B.bytes
  have hr := B.returns
  have hts := atoms_spec (ws := u_s_X12_isLayerA) B.pre
  have hown : s.vm.findClass RX12 = some m.cls := findClass_of_methodNamed B.named
  have hlocks := B.notSynchronized
  subst hsz
  have hD := hD0
  generalize hAe : va_A [] s.heap.size = A
  have hA : ∀ q : Nat, s.heap.size ≤ q → A q := fun q h => by rw [← hAe]; exact Or.inr h
  have hS : va_S A s.heap s.heap [] := va_S.rf
  have hP : va_P (dC, dI) vwCl [(h0, .inr (12, [h0_0, h0_1, h0_2, .int ml, h0_4, h0_5, h0_6, h0_7, h0_8, h0_9, h0_10, h0_11, h0_12, h0_13, h0_14, h0_15, h0_16, h0_17, h0_18, h0_19, h0_20, h0_21, h0_22, h0_23, h0_24, h0_25, h0_26, h0_27, h0_28, h0_29, h0_30, h0_31, h0_32, h0_33, h0_34, h0_35, h0_36, h0_37, h0_38, h0_39, h0_40, h0_41, h0_42, h0_43, h0_44, h0_45, h0_46, h0_47, h0_48, h0_49, h0_50, h0_51, h0_52, h0_53, h0_54, h0_55, h0_56, h0_57, h0_58, h0_59, h0_60, h0_61, h0_62, h0_63, h0_64, h0_65, h0_66, h0_67, h0_68, h0_69]))] s.heap := hP
  have w__fieldLink_RX12_151_ShellHeapModel_layers_I_ := hts (.fieldLink RX12 151 "ShellHeapModel" "layers" "I") (z_mc (z_ml z_m0))
  have hiX12 := show ∀ w ∈ u_ws RX12 TX12 70, w ∈ u_s_X12_isLayerA from fun w h => z_mc (z_mr (z_ml h))
  have krr_p1 := z_rng p1
  have hl := lv_entry ([.ref h0, .int p1]) (n := 2) (Nat.le_of_ble_eq_true rfl)
  rw [lg_entry_eq]
  generalize (lg_sl ([.ref h0, .int p1]) ++ List.replicate (2 - (lg_sl ([.ref h0, .int p1])).length) Slot.unset).toArray = ls at hl ⊢
  have hl : lv_has ls 2 [(0, .ref h0), (1, .int p1)] := hl
  refine lv_iload_n hx hb dX12_isLayer_0 rfl (lv_at hl 1 rfl) ?_
  refine lv_if_lt (tgt := 16) hx hb dX12_isLayer_1 (by decide) (fun c_1 => ?_) (fun c_1 => ?_)
  · have k_2 : (p1).toInt < (0 : Int) := z_lt c_1
    refine lv_iconst (v := 0) hx hb dX12_isLayer_16 (by decide) ?_
    refine W.widen (k := 0) (n := 0) (Nat.le_of_ble_eq_true rfl) (Nat.le_of_ble_eq_true rfl) ?_
    exact W.zret (v := 0) hx hb hr (by rfl) (fun t ht hW => ⟨⟨0, (), rfl, (Or.inr (⟨rfl, by first | omega | decide⟩)), trivial⟩, hS.F ht⟩) hS.2.2 dX12_isLayer_17
  · have k_3 : (p1).toInt ≥ (0 : Int) := z_nlt c_1
    refine lv_iload_n hx hb dX12_isLayer_4 rfl (lv_at hl 1 rfl) ?_
    refine lv_aload_n hx hb dX12_isLayer_5 rfl (lv_at hl 0 rfl) ?_
    refine va_get (D := (dC, dI)) (ci := 12) (v := .int ml) (C := RX12) (T := TX12) (N := 70) hx hb hts hiX12 hown hK hP 0 rfl rfl 3 (by decide) w__fieldLink_RX12_151_ShellHeapModel_layers_I_ (fun _ h9 => h9) rfl dX12_isLayer_6 ?_
    refine lv_icmp_ge (tgt := 16) hx hb dX12_isLayer_9 (by decide) (fun c_4 => ?_) (fun c_4 => ?_)
    · have k_5 : (ml).toInt ≤ (p1).toInt := z_le c_4
      refine lv_iconst (v := 0) hx hb dX12_isLayer_16 (by decide) ?_
      refine W.widen (k := 0) (n := 0) (Nat.le_of_ble_eq_true rfl) (Nat.le_of_ble_eq_true rfl) ?_
      exact W.zret (v := 0) hx hb hr (by rfl) (fun t ht hW => ⟨⟨0, (), rfl, (Or.inr (⟨rfl, by first | omega | decide⟩)), trivial⟩, hS.F ht⟩) hS.2.2 dX12_isLayer_17
    · have k_6 : (ml).toInt > (p1).toInt := z_nle c_4
      refine lv_iconst (v := 1) hx hb dX12_isLayer_12 (by decide) ?_
      refine lv_goto (tgt := 17) hx hb dX12_isLayer_13 (by decide) ?_
      refine W.widen (k := 0) (n := 0) (Nat.le_of_ble_eq_true rfl) (Nat.le_of_ble_eq_true rfl) ?_
      exact W.zret (v := 1) hx hb hr (by rfl) (fun t ht hW => ⟨⟨1, (), rfl, (Or.inl (⟨rfl, by first | omega | decide⟩)), trivial⟩, hS.F ht⟩) hS.2.2 dX12_isLayer_17
