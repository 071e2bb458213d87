def u_s_X9_add : List Cond := .code yX9_add cX9_add 5 (some .int) :: ([.fieldLink RX9 21 "ShellHeap$Sizes" "measured" "I", .fieldLink RX9 11 "ShellHeap$Sizes" "layerOf" "[I", .fieldLink RX9 15 "ShellHeap$Sizes" "marks" "[I"] ++ (wsX90 ++ []))
theorem gd_s_X9_add : z_gd u_s_X9_add := z_gdc (by decide +kernel) (z_gda gdX9 (z_gd0))
set_option maxHeartbeats 4000000 in
set_option maxRecDepth 100000 in
theorem s_X9_add (l : Launch) (dC : Nat → ClassId) (dI : Nat → Nat → Nat) (sz : Nat) (h0 : Nat) (p1 : Int32) (p2 : Int32) (p3 : Int32) (p4 : Int32) (h1 : Nat) (h2 : Nat) (h0_2 : Value) (sm : Int32) (ch1 : ClassId) (fh1 : Nat → Int32) (ch2 : ClassId) (fh2 : Nat → Int32) (hB_sm : ((0 : Int) ≤ (sm).toInt ∧ (sm).toInt ≤ (200 : Int))) (hI_h2 : ∀ j : Nat, ((0 : Int) ≤ (fh2 j).toInt ∧ (fh2 j).toInt ≤ (99 : Int))) : Met l yX9_add u_s_X9_add ({ frames := 0, cells := 0, slots := 0, locals := 0 }) (va_Pc [.ref h0, .int p1, .int p2, .int p3, .int p4] (z_C (dC, dI) vwCl [(h0, .inr (9, [.ref h1, .ref h2, h0_2, .int sm])), (h1, .inl (ch1, 200, .inl fh1)), (h2, .inl (ch2, 600, .inl fh2))] [(ch1, .int), (ch2, .int)] sz)) (va_Qi (fun (r : Int32) (_ : Unit) => True) (fun (_ : Unit) (t : State) => ∃ (n_h0_measured : Int32), ∃ (g_h1 : Nat → Int32), ∃ (g_h2 : Nat → Int32), ((0 : Int) ≤ (n_h0_measured).toInt ∧ (n_h0_measured).toInt ≤ (200 : Int)) ∧ (∀ j : Nat, ((0 : Int) ≤ (g_h2 j).toInt ∧ (g_h2 j).toInt ≤ (99 : Int))) ∧ va_P (dC, dI) vwCl [(h0, .inr (9, [.ref h1, .ref h2, h0_2, .int n_h0_measured])), (h1, .inl (ch1, 200, .inl g_h1)), (h2, .inl (ch2, 600, .inl g_h2))] t.heap ∧ va_K (dC, dI) vwCl [] t ∧ va_D (va_A [(h0, .inr (9, [.ref h1, .ref h2, h0_2, .int sm])), (h1, .inl (ch1, 200, .inl fh1)), (h2, .inl (ch2, 600, .inl fh2))] sz) [(h0, .inr (9, [.ref h1, .ref h2, h0_2, .int n_h0_measured])), (h1, .inl (ch1, 200, .inl g_h1)), (h2, .inl (ch2, 600, .inl g_h2))]) (va_A [(h0, .inr (9, [.ref h1, .ref h2, h0_2, .int sm])), (h1, .inl (ch1, 200, .inl fh1)), (h2, .inl (ch2, 600, .inl fh2))] sz)) 0 0 (va_A [(h0, .inr (9, [.ref h1, .ref h2, h0_2, .int sm])), (h1, .inl (ch1, 200, .inl fh1)), (h2, .inl (ch2, 600, .inl fh2))] sz) := by
  refine Met.ofW (cc := cX9_add) (maxL := 5) (ret := (some .int)) (by decide) rfl ?_
  intro p e s m args below meth c s₁ B hml hv
  obtain ⟨rfl, hsz, hP, hK, hD0⟩ := hv
  have hx := B.exec
  have hb := B.bytes
  have hr := B.returns
  have hts := atoms_spec (ws := u_s_X9_add) B.pre
  have hown : s.vm.findClass RX9 = some m.cls := findClass_of_methodNamed B.named
  have hlocks := B.notSynchronized
  subst hsz
  have hD := hD0.self (sz := s.heap.size)
  generalize hAe : va_A [(h0, .inr (9, [.ref h1, .ref h2, h0_2, .int sm])), (h1, .inl (ch1, 200, .inl fh1)), (h2, .inl (ch2, 600, .inl fh2))] s.heap.size = A at hD ⊢
  have hA : ∀ q : Nat, s.heap.size ≤ q → A q := fun q h => by rw [← hAe]; exact Or.inr h
  have hS : va_S A s.heap s.heap [] := va_S.rf
  have hP : va_P (dC, dI) vwCl [(h0, .inr (9, [.ref h1, .ref h2, h0_2, .int sm])), (h1, .inl (ch1, 200, .inl fh1)), (h2, .inl (ch2, 600, .inl fh2))] s.heap := hP
  have w__fieldLink_RX9_21_ShellHeap_Sizes_measured_I_ := hts (.fieldLink RX9 21 "ShellHeap$Sizes" "measured" "I") (z_mc (z_ml z_m0))
  have hiX9 := show ∀ w ∈ u_ws RX9 TX9 4, w ∈ u_s_X9_add from fun w h => z_mc (z_mr (z_ml h))
  have w__fieldLink_RX9_11_ShellHeap_Sizes_layerOf_I_ := hts (.fieldLink RX9 11 "ShellHeap$Sizes" "layerOf" "[I") (z_mc (z_ml z_m1))
  have w__fieldLink_RX9_15_ShellHeap_Sizes_marks_I_ := hts (.fieldLink RX9 15 "ShellHeap$Sizes" "marks" "[I") (z_mc (z_ml z_m2))
  have krr_p1 := z_rng p1
  have krr_p2 := z_rng p2
  have krr_p3 := z_rng p3
  have krr_p4 := z_rng p4
  have hl := lv_entry ([.ref h0, .int p1, .int p2, .int p3, .int p4]) (n := 5) (Nat.le_of_ble_eq_true rfl)
  rw [lg_entry_eq]
  generalize (lg_sl ([.ref h0, .int p1, .int p2, .int p3, .int p4]) ++ List.replicate (5 - (lg_sl ([.ref h0, .int p1, .int p2, .int p3, .int p4])).length) Slot.unset).toArray = ls at hl ⊢
  have hl : lv_has ls 5 [(0, .ref h0), (1, .int p1), (2, .int p2), (3, .int p3), (4, .int p4)] := hl
  refine lv_iload_n hx hb dX9_add_0 rfl (lv_at hl 2 rfl) ?_
  refine lv_if_lt (tgt := 32) hx hb dX9_add_1 (by decide) (fun c_1 => ?_) (fun c_1 => ?_)
  · have k_2 : (p2).toInt < (0 : Int) := z_lt c_1
    refine lv_iconst (v := (-1)) hx hb dX9_add_32 (by decide) ?_
    have hP9 := hP
    have hD9 := hD
    have hK9 := hK.sub (tys' := []) [] rfl
    refine W.widen (k := 0) (n := 0) (Nat.le_of_ble_eq_true rfl) (Nat.le_of_ble_eq_true rfl) ?_
    exact W.iret (v := (-1)) hx hb hr (fun t ht hW => ⟨⟨(-1), (), rfl, trivial, ⟨sm, fh1, fh2, hB_sm, hI_h2, by rw [ht]; exact hP9, va_K.moved hW.alike hK9, hD9⟩⟩, hS.F ht⟩) hS.2.2 dX9_add_33
  · have k_3 : (p2).toInt ≥ (0 : Int) := z_nlt c_1
    refine lv_iload_n hx hb dX9_add_4 rfl (lv_at hl 2 rfl) ?_
    refine lv_bipush (v := 99) hx hb dX9_add_5 (by decide) ?_
    refine lv_icmp_gt (tgt := 32) hx hb dX9_add_7 (by decide) (fun c_4 => ?_) (fun c_4 => ?_)
    · have k_5 : (99 : Int) < (p2).toInt := z_lt c_4
      refine lv_iconst (v := (-1)) hx hb dX9_add_32 (by decide) ?_
      have hP9 := hP
      have hD9 := hD
      have hK9 := hK.sub (tys' := []) [] rfl
      refine W.widen (k := 0) (n := 0) (Nat.le_of_ble_eq_true rfl) (Nat.le_of_ble_eq_true rfl) ?_
      exact W.iret (v := (-1)) hx hb hr (fun t ht hW => ⟨⟨(-1), (), rfl, trivial, ⟨sm, fh1, fh2, hB_sm, hI_h2, by rw [ht]; exact hP9, va_K.moved hW.alike hK9, hD9⟩⟩, hS.F ht⟩) hS.2.2 dX9_add_33
    · have k_6 : (99 : Int) ≥ (p2).toInt := z_nlt c_4
      refine lv_iload_n hx hb dX9_add_10 rfl (lv_at hl 3 rfl) ?_
      refine lv_if_lt (tgt := 32) hx hb dX9_add_11 (by decide) (fun c_7 => ?_) (fun c_7 => ?_)
      · have k_8 : (p3).toInt < (0 : Int) := z_lt c_7
        refine lv_iconst (v := (-1)) hx hb dX9_add_32 (by decide) ?_
        have hP9 := hP
        have hD9 := hD
        have hK9 := hK.sub (tys' := []) [] rfl
        refine W.widen (k := 0) (n := 0) (Nat.le_of_ble_eq_true rfl) (Nat.le_of_ble_eq_true rfl) ?_
        exact W.iret (v := (-1)) hx hb hr (fun t ht hW => ⟨⟨(-1), (), rfl, trivial, ⟨sm, fh1, fh2, hB_sm, hI_h2, by rw [ht]; exact hP9, va_K.moved hW.alike hK9, hD9⟩⟩, hS.F ht⟩) hS.2.2 dX9_add_33
      · have k_9 : (p3).toInt ≥ (0 : Int) := z_nlt c_7
        refine lv_iload_n hx hb dX9_add_14 rfl (lv_at hl 3 rfl) ?_
        refine lv_bipush (v := 30) hx hb dX9_add_15 (by decide) ?_
        refine lv_icmp_gt (tgt := 32) hx hb dX9_add_17 (by decide) (fun c_10 => ?_) (fun c_10 => ?_)
        · have k_11 : (30 : Int) < (p3).toInt := z_lt c_10
          refine lv_iconst (v := (-1)) hx hb dX9_add_32 (by decide) ?_
          have hP9 := hP
          have hD9 := hD
          have hK9 := hK.sub (tys' := []) [] rfl
          refine W.widen (k := 0) (n := 0) (Nat.le_of_ble_eq_true rfl) (Nat.le_of_ble_eq_true rfl) ?_
          exact W.iret (v := (-1)) hx hb hr (fun t ht hW => ⟨⟨(-1), (), rfl, trivial, ⟨sm, fh1, fh2, hB_sm, hI_h2, by rw [ht]; exact hP9, va_K.moved hW.alike hK9, hD9⟩⟩, hS.F ht⟩) hS.2.2 dX9_add_33
        · have k_12 : (30 : Int) ≥ (p3).toInt := z_nlt c_10
          refine lv_iload hx hb dX9_add_20 (lv_at hl 4 rfl) ?_
          refine lv_if_lt (tgt := 32) hx hb dX9_add_22 (by decide) (fun c_13 => ?_) (fun c_13 => ?_)
          · have k_14 : (p4).toInt < (0 : Int) := z_lt c_13
            refine lv_iconst (v := (-1)) hx hb dX9_add_32 (by decide) ?_
            have hP9 := hP
            have hD9 := hD
            have hK9 := hK.sub (tys' := []) [] rfl
            refine W.widen (k := 0) (n := 0) (Nat.le_of_ble_eq_true rfl) (Nat.le_of_ble_eq_true rfl) ?_
            exact W.iret (v := (-1)) hx hb hr (fun t ht hW => ⟨⟨(-1), (), rfl, trivial, ⟨sm, fh1, fh2, hB_sm, hI_h2, by rw [ht]; exact hP9, va_K.moved hW.alike hK9, hD9⟩⟩, hS.F ht⟩) hS.2.2 dX9_add_33
          · have k_15 : (p4).toInt ≥ (0 : Int) := z_nlt c_13
            refine lv_iload hx hb dX9_add_25 (lv_at hl 4 rfl) ?_
            refine lv_bipush (v := 99) hx hb dX9_add_27 (by decide) ?_
            refine lv_icmp_le (tgt := 34) hx hb dX9_add_29 (by decide) (fun c_16 => ?_) (fun c_16 => ?_)
            · have k_17 : (p4).toInt ≤ (99 : Int) := z_le c_16
              refine lv_aload_n hx hb dX9_add_34 rfl (lv_at hl 0 rfl) ?_
              refine va_get (D := (dC, dI)) (ci := 9) (v := .int sm) (C := RX9) (T := TX9) (N := 4) hx hb hts hiX9 hown hK hP 0 rfl rfl 3 (by decide) w__fieldLink_RX9_21_ShellHeap_Sizes_measured_I_ (fun _ h9 => h9) rfl dX9_add_35 ?_
              refine lv_sipush (v := 200) hx hb dX9_add_38 (by decide) ?_
              refine lv_icmp_lt (tgt := 46) hx hb dX9_add_41 (by decide) (fun c_18 => ?_) (fun c_18 => ?_)
              · have k_19 : (sm).toInt < (200 : Int) := z_lt c_18
                refine lv_aload_n hx hb dX9_add_46 rfl (lv_at hl 0 rfl) ?_
                refine va_get (D := (dC, dI)) (ci := 9) (v := .ref h1) (C := RX9) (T := TX9) (N := 4) hx hb hts hiX9 hown hK hP 0 rfl rfl 0 (by decide) w__fieldLink_RX9_11_ShellHeap_Sizes_layerOf_I_ (fun _ h9 => h9) rfl dX9_add_47 ?_
                refine lv_aload_n hx hb dX9_add_50 rfl (lv_at hl 0 rfl) ?_
                refine va_get (D := (dC, dI)) (ci := 9) (v := .int sm) (C := RX9) (T := TX9) (N := 4) hx hb hts hiX9 hown hK hP 0 rfl rfl 3 (by decide) w__fieldLink_RX9_21_ShellHeap_Sizes_measured_I_ (fun _ h9 => h9) rfl dX9_add_51 ?_
                refine lv_iload_n hx hb dX9_add_54 rfl (lv_at hl 1 rfl) ?_
                refine va_iast hx hb hK hP hD hS 1 0 rfl rfl (z_vpin (by omega) (by omega)) dX9_add_55 (fun H_20 locs hP hD hS => ?_)
                obtain ⟨hP, hD⟩ := z_s_1 hP hD
                generalize (upd fh1 (sm : Int32).toNatClampNeg p1) = f_21 at hP hD
                refine lv_aload_n hx hb dX9_add_56 rfl (lv_at hl 0 rfl) ?_
                refine va_get (D := (dC, dI)) (ci := 9) (v := .ref h2) (C := RX9) (T := TX9) (N := 4) hx hb hts hiX9 hown hK hP 0 rfl rfl 1 (by decide) w__fieldLink_RX9_15_ShellHeap_Sizes_marks_I_ (fun _ h9 => h9) rfl dX9_add_57 ?_
                refine lv_aload_n hx hb dX9_add_60 rfl (lv_at hl 0 rfl) ?_
                refine va_get (D := (dC, dI)) (ci := 9) (v := .int sm) (C := RX9) (T := TX9) (N := 4) hx hb hts hiX9 hown hK hP 0 rfl rfl 3 (by decide) w__fieldLink_RX9_21_ShellHeap_Sizes_measured_I_ (fun _ h9 => h9) rfl dX9_add_61 ?_
                refine lv_iconst (v := 3) hx hb dX9_add_64 (by decide) ?_
                refine lv_imul hx hb dX9_add_65 ?_
                refine lv_topi (fun z_22 ez_22 => ?_)
                have kz_22 : (z_22).toInt = (sm).toInt * (3 : Int) := by rw [ez_22]; exact z_mul (a := (sm).toInt) (b := (3 : Int)) rfl rfl (by omega) (by omega)
                refine lv_iload_n hx hb dX9_add_66 rfl (lv_at hl 2 rfl) ?_
                refine va_iast hx hb hK hP hD hS 2 1 rfl rfl (z_vpin (by omega) (by omega)) dX9_add_67 (fun H_23 locs hP hD hS => ?_)
                obtain ⟨hP, hD⟩ := z_s_2 hP hD
                have hI_f_24 : ∀ j : Nat, ((0 : Int) ≤ ((upd fh2 (z_22 : Int32).toNatClampNeg p2) j).toInt ∧ ((upd fh2 (z_22 : Int32).toNatClampNeg p2) j).toInt ≤ (99 : Int)) := z_updP (P := fun v => ((0 : Int) ≤ (v).toInt ∧ (v).toInt ≤ (99 : Int))) hI_h2 (show ((0 : Int) ≤ (p2).toInt ∧ (p2).toInt ≤ (99 : Int)) from by first | omega | decide)
                generalize (upd fh2 (z_22 : Int32).toNatClampNeg p2) = f_24 at hP hD hI_f_24
                refine lv_aload_n hx hb dX9_add_68 rfl (lv_at hl 0 rfl) ?_
                refine va_get (D := (dC, dI)) (ci := 9) (v := .ref h2) (C := RX9) (T := TX9) (N := 4) hx hb hts hiX9 hown hK hP 0 rfl rfl 1 (by decide) w__fieldLink_RX9_15_ShellHeap_Sizes_marks_I_ (fun _ h9 => h9) rfl dX9_add_69 ?_
                refine lv_aload_n hx hb dX9_add_72 rfl (lv_at hl 0 rfl) ?_
                refine va_get (D := (dC, dI)) (ci := 9) (v := .int sm) (C := RX9) (T := TX9) (N := 4) hx hb hts hiX9 hown hK hP 0 rfl rfl 3 (by decide) w__fieldLink_RX9_21_ShellHeap_Sizes_measured_I_ (fun _ h9 => h9) rfl dX9_add_73 ?_
                refine lv_iconst (v := 3) hx hb dX9_add_76 (by decide) ?_
                refine lv_imul hx hb dX9_add_77 ?_
                refine lv_topi (fun z_25 ez_25 => ?_)
                have kz_25 : (z_25).toInt = (sm).toInt * (3 : Int) := by rw [ez_25]; exact z_mul (a := (sm).toInt) (b := (3 : Int)) rfl rfl (by omega) (by omega)
                refine lv_iconst (v := 1) hx hb dX9_add_78 (by decide) ?_
                refine lv_iadd hx hb dX9_add_79 ?_
                refine lv_topi (fun z_26 ez_26 => ?_)
                have kz_26 : (z_26).toInt = (z_25).toInt + (1 : Int) := by rw [ez_26]; exact z_add (a := (z_25).toInt) (b := (1 : Int)) rfl rfl (by omega) (by omega)
                refine lv_iload_n hx hb dX9_add_80 rfl (lv_at hl 3 rfl) ?_
                refine va_iast hx hb hK hP hD hS 2 1 rfl rfl (z_vpin (by omega) (by omega)) dX9_add_81 (fun H_27 locs hP hD hS => ?_)
                obtain ⟨hP, hD⟩ := z_s_2 hP hD
                have hI_f_28 : ∀ j : Nat, ((0 : Int) ≤ ((upd f_24 (z_26 : Int32).toNatClampNeg p3) j).toInt ∧ ((upd f_24 (z_26 : Int32).toNatClampNeg p3) j).toInt ≤ (99 : Int)) := z_updP (P := fun v => ((0 : Int) ≤ (v).toInt ∧ (v).toInt ≤ (99 : Int))) hI_f_24 (show ((0 : Int) ≤ (p3).toInt ∧ (p3).toInt ≤ (99 : Int)) from by first | omega | decide)
                generalize (upd f_24 (z_26 : Int32).toNatClampNeg p3) = f_28 at hP hD hI_f_28
                refine lv_aload_n hx hb dX9_add_82 rfl (lv_at hl 0 rfl) ?_
                refine va_get (D := (dC, dI)) (ci := 9) (v := .ref h2) (C := RX9) (T := TX9) (N := 4) hx hb hts hiX9 hown hK hP 0 rfl rfl 1 (by decide) w__fieldLink_RX9_15_ShellHeap_Sizes_marks_I_ (fun _ h9 => h9) rfl dX9_add_83 ?_
                refine lv_aload_n hx hb dX9_add_86 rfl (lv_at hl 0 rfl) ?_
                refine va_get (D := (dC, dI)) (ci := 9) (v := .int sm) (C := RX9) (T := TX9) (N := 4) hx hb hts hiX9 hown hK hP 0 rfl rfl 3 (by decide) w__fieldLink_RX9_21_ShellHeap_Sizes_measured_I_ (fun _ h9 => h9) rfl dX9_add_87 ?_
                refine lv_iconst (v := 3) hx hb dX9_add_90 (by decide) ?_
                refine lv_imul hx hb dX9_add_91 ?_
                refine lv_topi (fun z_29 ez_29 => ?_)
                have kz_29 : (z_29).toInt = (sm).toInt * (3 : Int) := by rw [ez_29]; exact z_mul (a := (sm).toInt) (b := (3 : Int)) rfl rfl (by omega) (by omega)
                refine lv_iconst (v := 2) hx hb dX9_add_92 (by decide) ?_
                refine lv_iadd hx hb dX9_add_93 ?_
                refine lv_topi (fun z_30 ez_30 => ?_)
                have kz_30 : (z_30).toInt = (z_29).toInt + (2 : Int) := by rw [ez_30]; exact z_add (a := (z_29).toInt) (b := (2 : Int)) rfl rfl (by omega) (by omega)
                refine lv_iload hx hb dX9_add_94 (lv_at hl 4 rfl) ?_
                refine va_iast hx hb hK hP hD hS 2 1 rfl rfl (z_vpin (by omega) (by omega)) dX9_add_96 (fun H_31 locs hP hD hS => ?_)
                obtain ⟨hP, hD⟩ := z_s_2 hP hD
                have hI_f_32 : ∀ j : Nat, ((0 : Int) ≤ ((upd f_28 (z_30 : Int32).toNatClampNeg p4) j).toInt ∧ ((upd f_28 (z_30 : Int32).toNatClampNeg p4) j).toInt ≤ (99 : Int)) := z_updP (P := fun v => ((0 : Int) ≤ (v).toInt ∧ (v).toInt ≤ (99 : Int))) hI_f_28 (show ((0 : Int) ≤ (p4).toInt ∧ (p4).toInt ≤ (99 : Int)) from by first | omega | decide)
                generalize (upd f_28 (z_30 : Int32).toNatClampNeg p4) = f_32 at hP hD hI_f_32
                refine lv_aload_n hx hb dX9_add_97 rfl (lv_at hl 0 rfl) ?_
                refine lv_dup hx hb dX9_add_98 rfl ?_
                refine va_get (D := (dC, dI)) (ci := 9) (v := .int sm) (C := RX9) (T := TX9) (N := 4) hx hb hts hiX9 hown hK hP 0 rfl rfl 3 (by decide) w__fieldLink_RX9_21_ShellHeap_Sizes_measured_I_ (fun _ h9 => h9) rfl dX9_add_99 ?_
                refine lv_iconst (v := 1) hx hb dX9_add_102 (by decide) ?_
                refine lv_iadd hx hb dX9_add_103 ?_
                refine lv_topi (fun z_33 ez_33 => ?_)
                have kz_33 : (z_33).toInt = (sm).toInt + (1 : Int) := by rw [ez_33]; exact z_add (a := (sm).toInt) (b := (1 : Int)) rfl rfl (z_al hB_sm.1 (by decide)) (z_ah hB_sm.2 (by decide))
                refine va_put (D := (dC, dI)) (ci := 9) (v := .int z_33) (ty := .int) (C := RX9) (T := TX9) (N := 4) hx hb hts hiX9 tyX9 tyX9_ok nmX9 hown hK hP hD hS 0 rfl rfl 3 (by decide) w__fieldLink_RX9_21_ShellHeap_Sizes_measured_I_ (fun _ h9 => h9) rfl (by decide +kernel) rfl rfl (Nat.le_of_ble_eq_true rfl) dX9_add_104 (fun H_34 locs hP hD hS => ?_)
                obtain ⟨hP, hD⟩ := z_s_0_3 hP hD
                refine lv_aload_n hx hb dX9_add_107 rfl (lv_at hl 0 rfl) ?_
                refine va_get (D := (dC, dI)) (ci := 9) (v := .int z_33) (C := RX9) (T := TX9) (N := 4) hx hb hts hiX9 hown hK hP 0 rfl rfl 3 (by decide) w__fieldLink_RX9_21_ShellHeap_Sizes_measured_I_ (fun _ h9 => h9) rfl dX9_add_108 ?_
                have hP9 := hP
                have hD9 := hD
                have hK9 := hK.sub (tys' := []) [] rfl
                refine W.widen (k := 0) (n := 0) (Nat.le_of_ble_eq_true rfl) (Nat.le_of_ble_eq_true rfl) ?_
                exact W.iret (v := z_33) hx hb hr (fun t ht hW => ⟨⟨z_33, (), rfl, trivial, ⟨z_33, f_21, f_32, (by first | omega | decide), hI_f_32, by rw [ht]; exact hP9, va_K.moved hW.alike hK9, hD9⟩⟩, hS.F ht⟩) hS.2.2 dX9_add_111
              · have k_35 : (sm).toInt ≥ (200 : Int) := z_nlt c_18
                obtain rfl : sm = 200 := z_eq' (show (sm).toInt = (200 : Int) by omega)
                refine lv_iconst (v := (-1)) hx hb dX9_add_44 (by decide) ?_
                have hP9 := hP
                have hD9 := hD
                have hK9 := hK.sub (tys' := []) [] rfl
                refine W.widen (k := 0) (n := 0) (Nat.le_of_ble_eq_true rfl) (Nat.le_of_ble_eq_true rfl) ?_
                exact W.iret (v := (-1)) hx hb hr (fun t ht hW => ⟨⟨(-1), (), rfl, trivial, ⟨200, fh1, fh2, (by decide), hI_h2, by rw [ht]; exact hP9, va_K.moved hW.alike hK9, hD9⟩⟩, hS.F ht⟩) hS.2.2 dX9_add_45
            · have k_37 : (p4).toInt > (99 : Int) := z_nle c_16
              refine lv_iconst (v := (-1)) hx hb dX9_add_32 (by decide) ?_
              have hP9 := hP
              have hD9 := hD
              have hK9 := hK.sub (tys' := []) [] rfl
              refine W.widen (k := 0) (n := 0) (Nat.le_of_ble_eq_true rfl) (Nat.le_of_ble_eq_true rfl) ?_
              exact W.iret (v := (-1)) hx hb hr (fun t ht hW => ⟨⟨(-1), (), rfl, trivial, ⟨sm, fh1, fh2, hB_sm, hI_h2, by rw [ht]; exact hP9, va_K.moved hW.alike hK9, hD9⟩⟩, hS.F ht⟩) hS.2.2 dX9_add_33
def u_s_X9_measuredIn : List Cond := .code yX9_measuredIn cX9_measuredIn 4 (some .int) :: ([.fieldLink RX9 21 "ShellHeap$Sizes" "measured" "I", .fieldLink RX9 11 "ShellHeap$Sizes" "layerOf" "[I"] ++ (wsX90 ++ []))
theorem gd_s_X9_measuredIn : z_gd u_s_X9_measuredIn := z_gdc (by decide +kernel) (z_gda gdX9 (z_gd0))
set_option maxHeartbeats 4000000 in
set_option maxRecDepth 100000 in
theorem s_X9_measuredIn (l : Launch) (dC : Nat → ClassId) (dI : Nat → Nat → Nat) (sz : Nat) (h0 : Nat) (p1 : Int32) (h1 : Nat) (h0_1 : Value) (h0_2 : Value) (sm : Int32) (ch1 : ClassId) (fh1 : Nat → Int32) (hB_sm : ((0 : Int) ≤ (sm).toInt ∧ (sm).toInt ≤ (200 : Int))) : Met l yX9_measuredIn u_s_X9_measuredIn ({ frames := 0, cells := 0, slots := 0, locals := 0 }) (va_Pc [.ref h0, .int p1] (z_C (dC, dI) vwCl [(h0, .inr (9, [.ref h1, h0_1, h0_2, .int sm])), (h1, .inl (ch1, 200, .inl fh1))] [(ch1, .int)] sz)) (va_Qi (fun (r : Int32) (_ : Unit) => True) (fun (_ : Unit) (_ : State) => True) (va_A [] sz)) 0 0 (va_A [] sz) := by
  refine Met.ofW (cc := cX9_measuredIn) (maxL := 4) (ret := (some .int)) (by decide) rfl ?_
  intro p e s m args below meth c s₁ B hml hv
  obtain ⟨rfl, hsz, hP, hK, hD0⟩ := hv
  have hx := B.exec
  have hb := B.bytes
  have hr := B.returns
  have hts := atoms_spec (ws := u_s_X9_measuredIn) B.pre
  have hown : s.vm.findClass RX9 = some m.cls := findClass_of_methodNamed B.named
  have hlocks := B.notSynchronized
  subst hsz
  have hD := hD0
  generalize hAe : va_A [] s.heap.size = A
  have hA : ∀ q : Nat, s.heap.size ≤ q → A q := fun q h => by rw [← hAe]; exact Or.inr h
  have hS : va_S A s.heap s.heap [] := va_S.rf
  have hP : va_P (dC, dI) vwCl [(h0, .inr (9, [.ref h1, h0_1, h0_2, .int sm])), (h1, .inl (ch1, 200, .inl fh1))] s.heap := hP
  have w__fieldLink_RX9_21_ShellHeap_Sizes_measured_I_ := hts (.fieldLink RX9 21 "ShellHeap$Sizes" "measured" "I") (z_mc (z_ml z_m0))
  have hiX9 := show ∀ w ∈ u_ws RX9 TX9 4, w ∈ u_s_X9_measuredIn from fun w h => z_mc (z_mr (z_ml h))
  have w__fieldLink_RX9_11_ShellHeap_Sizes_layerOf_I_ := hts (.fieldLink RX9 11 "ShellHeap$Sizes" "layerOf" "[I") (z_mc (z_ml z_m1))
  have krr_p1 := z_rng p1
  have hl := lv_entry ([.ref h0, .int p1]) (n := 4) (Nat.le_of_ble_eq_true rfl)
  rw [lg_entry_eq]
  generalize (lg_sl ([.ref h0, .int p1]) ++ List.replicate (4 - (lg_sl ([.ref h0, .int p1])).length) Slot.unset).toArray = ls at hl ⊢
  have hl : lv_has ls 4 [(0, .ref h0), (1, .int p1)] := hl
  refine z_nameQ (fun QQ hQQ => ?_)
  refine lv_iconst (v := 0) hx hb dX9_measuredIn_0 (by decide) ?_
  refine lv_istore_n (lv' := [(2, .int 0), (0, .ref h0), (1, .int p1)]) hx hb dX9_measuredIn_1 rfl hl (by decide) rfl (fun ls hl => ?_)
  refine lv_iconst (v := 0) hx hb dX9_measuredIn_2 (by decide) ?_
  refine lv_istore_n (lv' := [(3, .int 0), (2, .int 0), (0, .ref h0), (1, .int p1)]) hx hb dX9_measuredIn_3 rfl hl (by decide) rfl (fun ls hl => ?_)
  have loop_1 : ∀ (n_2 : Nat) (n_4 : Int32) (i_5 : Int32) (H : Heap) (locs : List Loc) (ls : Array Slot), (201 - (i_5).toInt).toNat < n_2 → (((0 : Int) ≤ (i_5).toInt ∧ (i_5).toInt ≤ (200 : Int))) → va_P (dC, dI) vwCl [(h0, .inr (9, [.ref h1, h0_1, h0_2, .int sm])), (h1, .inl (ch1, 200, .inl fh1))] H → va_D (fun _ => True) [(h0, .inr (9, [.ref h1, h0_1, h0_2, .int sm])), (h1, .inl (ch1, 200, .inl fh1))] → va_S A s.heap H locs → lv_has ls 4 [(3, .int i_5), (2, .int n_4), (0, .ref h0), (1, .int p1)] → W p l e ({ frames := 0, cells := 0, slots := 0, locals := 0 } : Room) s m ([.ref h0, .int p1] : List Value).toArray below meth c H locs 0 0 QQ (F0 m 4 ls []) := by
    intro n_2
    induction n_2 with
    | zero => intro n_4 i_5 H locs ls hm; exact absurd hm (Nat.not_lt_zero _)
    | succ n_2 ih_3 =>
      intro n_4 i_5 H locs ls hm hF_6 hP hD hS hl
      refine lv_iload_n hx hb dX9_measuredIn_4 rfl (lv_at hl 0 rfl) ?_
      refine lv_aload_n hx hb dX9_measuredIn_5 rfl (lv_at hl 2 rfl) ?_
      refine va_get (D := (dC, dI)) (ci := 9) (v := .int sm) (C := RX9) (T := TX9) (N := 4) hx hb hts hiX9 hown hK hP 0 rfl rfl 3 (by decide) w__fieldLink_RX9_21_ShellHeap_Sizes_measured_I_ (fun _ h9 => h9) rfl dX9_measuredIn_6 ?_
      refine lv_icmp_ge (tgt := 31) hx hb dX9_measuredIn_9 (by decide) (fun c_7 => ?_) (fun c_7 => ?_)
      · have k_8 : (sm).toInt ≤ (i_5).toInt := z_le c_7
        refine lv_iload_n hx hb dX9_measuredIn_31 rfl (lv_at hl 1 rfl) ?_
        refine z_backQ hQQ ?_
        refine W.widen (k := 0) (n := 0) (Nat.le_of_ble_eq_true rfl) (Nat.le_of_ble_eq_true rfl) ?_
        exact W.iret (v := n_4) hx hb hr (fun t ht hW => ⟨⟨n_4, (), rfl, trivial, trivial⟩, hS.F ht⟩) hS.2.2 dX9_measuredIn_32
      · have k_9 : (sm).toInt > (i_5).toInt := z_nle c_7
        refine lv_iload_n hx hb dX9_measuredIn_12 rfl (lv_at hl 1 rfl) ?_
        refine lv_iload_n hx hb dX9_measuredIn_13 rfl (lv_at hl 3 rfl) ?_
        refine lv_aload_n hx hb dX9_measuredIn_14 rfl (lv_at hl 2 rfl) ?_
        refine va_get (D := (dC, dI)) (ci := 9) (v := .ref h1) (C := RX9) (T := TX9) (N := 4) hx hb hts hiX9 hown hK hP 0 rfl rfl 0 (by decide) w__fieldLink_RX9_11_ShellHeap_Sizes_layerOf_I_ (fun _ h9 => h9) rfl dX9_measuredIn_15 ?_
        refine lv_iload_n hx hb dX9_measuredIn_18 rfl (lv_at hl 0 rfl) ?_
        refine va_iald hx hb hK hP 1 0 rfl rfl (z_vpin (by omega) (by omega)) dX9_measuredIn_19 ?_
        refine lv_topi (fun z_10 ez_10 => ?_)
        refine lv_ishr hx hb dX9_measuredIn_20 ?_
        refine lv_topi (fun z_11 ez_11 => ?_)
        refine lv_iconst (v := 1) hx hb dX9_measuredIn_21 (by decide) ?_
        refine lv_iand hx hb dX9_measuredIn_22 ?_
        refine lv_topi (fun z_12 ez_12 => ?_)
        have kz_12 : (0 : Int) ≤ (z_12).toInt ∧ (z_12).toInt ≤ (1 : Int) := by rw [ez_12]; exact z_and _ 1 (by decide) (by decide)
        refine lv_iadd hx hb dX9_measuredIn_23 ?_
        refine lv_topi (fun z_13 ez_13 => ?_)
        refine lv_istore_n (lv' := [(2, .int z_13), (3, .int i_5), (0, .ref h0), (1, .int p1)]) hx hb dX9_measuredIn_24 rfl hl (by decide) rfl (fun ls hl => ?_)
        obtain ⟨z_14, ez_14⟩ : ∃ y : Int32, y = i_5 + 1 := ⟨_, rfl⟩
        have kz_14 : (z_14).toInt = (i_5).toInt + (1 : Int) := by rw [ez_14]; exact z_add (b := 1) rfl rfl (z_al hF_6.1 (by decide)) (z_ah hF_6.2 (by decide))
        refine lv_iinc (v := z_14) (lv' := [(3, .int z_14), (2, .int z_13), (0, .ref h0), (1, .int p1)]) hx hb dX9_measuredIn_25 hl (k := 1) rfl (by rw [ez_14]; rfl) (by decide) rfl (fun ls hl => ?_)
        refine lv_goto (tgt := 4) hx hb dX9_measuredIn_28 (by decide) ?_
        exact ih_3 z_13 z_14 _ _ _ (show (201 - (z_14).toInt).toNat < n_2 by omega) (show ((0 : Int) ≤ (z_14).toInt ∧ (z_14).toInt ≤ (200 : Int)) by omega) hP hD hS (lv_sub hl [0, 1, 2, 3] rfl)
  exact loop_1 _ 0 0 _ _ _ (Nat.lt_succ_self _) (show ((0 : Int) ≤ (0 : Int) ∧ (0 : Int) ≤ (200 : Int)) by omega) hP hD hS hl
def u_s_X9_middleOf : List Cond := .code yX9_middleOf cX9_middleOf 5 (some .int) :: ([.fieldLink RX9 21 "ShellHeap$Sizes" "measured" "I", .methodLink RX9 25 yX9_measuredIn, .instanceMethod yX9_measuredIn, .selects RX9 yX9_measuredIn yX9_measuredIn, .initialized RX9, .fieldLink RX9 18 "ShellHeap$Sizes" "tally" "[I", .fieldLink RX9 15 "ShellHeap$Sizes" "marks" "[I", .fieldLink RX9 11 "ShellHeap$Sizes" "layerOf" "[I"] ++ (wsX90 ++ (u_s_X9_measuredIn ++ [])))
theorem gd_s_X9_middleOf : z_gd u_s_X9_middleOf := z_gdc (by decide +kernel) (z_gda gdX9 (z_gda gd_s_X9_measuredIn (z_gd0)))
set_option maxRecDepth 20000 in
theorem gw_s_X9_middleOf_s_X9_measuredIn_25 : GoodIn u_s_X9_middleOf (wsV RX9 25 RX9 yX9_measuredIn u_s_X9_measuredIn) := z_gV (z_gr _ [2, 3, 4, 5] rfl (by decide +kernel)) (fun w h => ⟨z_mc (z_mr (z_mr (z_ml h))), gd_s_X9_measuredIn w h⟩)
set_option maxHeartbeats 4000000 in
set_option maxRecDepth 100000 in
theorem s_X9_middleOf (l : Launch) (dC : Nat → ClassId) (dI : Nat → Nat → Nat) (sz : Nat) (h0 : Nat) (p1 : Int32) (p2 : Int32) (h1 : Nat) (h2 : Nat) (h3 : Nat) (sm : Int32) (ch1 : ClassId) (fh1 : Nat → Int32) (ch2 : ClassId) (fh2 : Nat → Int32) (ch3 : ClassId) (fh3 : Nat → Int32) (hB_p2 : ((0 : Int) ≤ (p2).toInt ∧ (p2).toInt ≤ (2 : Int))) (hB_sm : ((0 : Int) ≤ (sm).toInt ∧ (sm).toInt ≤ (200 : Int))) (hI_h2 : ∀ j : Nat, ((0 : Int) ≤ (fh2 j).toInt ∧ (fh2 j).toInt ≤ (99 : Int))) : Met l yX9_middleOf u_s_X9_middleOf ({ frames := 1, cells := 0, slots := 0, locals := 23 }) (va_Pc [.ref h0, .int p1, .int p2] (z_C (dC, dI) vwCl [(h0, .inr (9, [.ref h1, .ref h2, .ref h3, .int sm])), (h1, .inl (ch1, 200, .inl fh1)), (h2, .inl (ch2, 600, .inl fh2)), (h3, .inl (ch3, 100, .inl fh3))] [(ch1, .int), (ch2, .int), (ch3, .int)] sz)) (va_Qi (fun (r : Int32) (_ : Unit) => True) (fun (_ : Unit) (t : State) => ∃ (g_h3 : Nat → Int32), va_P (dC, dI) vwCl [(h0, .inr (9, [.ref h1, .ref h2, .ref h3, .int sm])), (h1, .inl (ch1, 200, .inl fh1)), (h2, .inl (ch2, 600, .inl fh2)), (h3, .inl (ch3, 100, .inl g_h3))] t.heap ∧ va_K (dC, dI) vwCl [] t ∧ va_D (va_A [(h0, .inr (9, [.ref h1, .ref h2, .ref h3, .int sm])), (h1, .inl (ch1, 200, .inl fh1)), (h2, .inl (ch2, 600, .inl fh2)), (h3, .inl (ch3, 100, .inl fh3))] sz) [(h0, .inr (9, [.ref h1, .ref h2, .ref h3, .int sm])), (h1, .inl (ch1, 200, .inl fh1)), (h2, .inl (ch2, 600, .inl fh2)), (h3, .inl (ch3, 100, .inl g_h3))]) (va_A [(h0, .inr (9, [.ref h1, .ref h2, .ref h3, .int sm])), (h1, .inl (ch1, 200, .inl fh1)), (h2, .inl (ch2, 600, .inl fh2)), (h3, .inl (ch3, 100, .inl fh3))] sz)) 0 0 (va_A [(h0, .inr (9, [.ref h1, .ref h2, .ref h3, .int sm])), (h1, .inl (ch1, 200, .inl fh1)), (h2, .inl (ch2, 600, .inl fh2)), (h3, .inl (ch3, 100, .inl fh3))] sz) := by
  refine Met.ofW (cc := cX9_middleOf) (maxL := 5) (ret := (some .int)) (by decide) rfl ?_
  intro p e s m args below meth c s₁ B hml hv
  obtain ⟨rfl, hsz, hP, hK, hD0⟩ := hv
  have hx := B.exec
  have hb := B.bytes
  have hr := B.returns
  have hts := atoms_spec (ws := u_s_X9_middleOf) B.pre
  have hown : s.vm.findClass RX9 = some m.cls := findClass_of_methodNamed B.named
  have hlocks := B.notSynchronized
  subst hsz
  have hD := hD0.self (sz := s.heap.size)
  generalize hAe : va_A [(h0, .inr (9, [.ref h1, .ref h2, .ref h3, .int sm])), (h1, .inl (ch1, 200, .inl fh1)), (h2, .inl (ch2, 600, .inl fh2)), (h3, .inl (ch3, 100, .inl fh3))] s.heap.size = A at hD ⊢
  have hA : ∀ q : Nat, s.heap.size ≤ q → A q := fun q h => by rw [← hAe]; exact Or.inr h
  have hS : va_S A s.heap s.heap [] := va_S.rf
  have hP : va_P (dC, dI) vwCl [(h0, .inr (9, [.ref h1, .ref h2, .ref h3, .int sm])), (h1, .inl (ch1, 200, .inl fh1)), (h2, .inl (ch2, 600, .inl fh2)), (h3, .inl (ch3, 100, .inl fh3))] s.heap := hP
  have w__fieldLink_RX9_21_ShellHeap_Sizes_measured_I_ := hts (.fieldLink RX9 21 "ShellHeap$Sizes" "measured" "I") (z_mc (z_ml z_m0))
  have hiX9 := show ∀ w ∈ u_ws RX9 TX9 4, w ∈ u_s_X9_middleOf from fun w h => z_mc (z_mr (z_ml h))
  have w__fieldLink_RX9_18_ShellHeap_Sizes_tally_I_ := hts (.fieldLink RX9 18 "ShellHeap$Sizes" "tally" "[I") (z_mc (z_ml z_m5))
  have w__fieldLink_RX9_15_ShellHeap_Sizes_marks_I_ := hts (.fieldLink RX9 15 "ShellHeap$Sizes" "marks" "[I") (z_mc (z_ml z_m6))
  have w__fieldLink_RX9_11_ShellHeap_Sizes_layerOf_I_ := hts (.fieldLink RX9 11 "ShellHeap$Sizes" "layerOf" "[I") (z_mc (z_ml z_m7))
  have krr_p1 := z_rng p1
  have hl := lv_entry ([.ref h0, .int p1, .int p2]) (n := 5) (Nat.le_of_ble_eq_true rfl)
  rw [lg_entry_eq]
  generalize (lg_sl ([.ref h0, .int p1, .int p2]) ++ List.replicate (5 - (lg_sl ([.ref h0, .int p1, .int p2])).length) Slot.unset).toArray = ls at hl ⊢
  have hl : lv_has ls 5 [(0, .ref h0), (1, .int p1), (2, .int p2)] := hl
  refine z_nameQ (fun QQ hQQ => ?_)
  refine lv_iconst (v := 0) hx hb dX9_middleOf_0 (by decide) ?_
  refine lv_istore_n (lv' := [(3, .int 0), (0, .ref h0), (1, .int p1), (2, .int p2)]) hx hb dX9_middleOf_1 rfl hl (by decide) rfl (fun ls hl => ?_)
  have loop_1 : ∀ (n_2 : Nat) (i_4 : Int32) (f_5 : Nat → Int32) (H : Heap) (locs : List Loc) (ls : Array Slot), (101 - (i_4).toInt).toNat < n_2 → (((0 : Int) ≤ (i_4).toInt ∧ (i_4).toInt ≤ (100 : Int))) → va_P (dC, dI) vwCl [(h0, .inr (9, [.ref h1, .ref h2, .ref h3, .int sm])), (h1, .inl (ch1, 200, .inl fh1)), (h2, .inl (ch2, 600, .inl fh2)), (h3, .inl (ch3, 100, .inl f_5))] H → va_D A [(h0, .inr (9, [.ref h1, .ref h2, .ref h3, .int sm])), (h1, .inl (ch1, 200, .inl fh1)), (h2, .inl (ch2, 600, .inl fh2)), (h3, .inl (ch3, 100, .inl f_5))] → va_S A s.heap H locs → lv_has ls 5 [(3, .int i_4), (0, .ref h0), (1, .int p1), (2, .int p2)] → W p l e ({ frames := 1, cells := 0, slots := 0, locals := 23 } : Room) s m ([.ref h0, .int p1, .int p2] : List Value).toArray below meth c H locs 0 0 QQ (F0 m 2 ls []) := by
    intro n_2
    induction n_2 with
    | zero => intro i_4 f_5 H locs ls hm; exact absurd hm (Nat.not_lt_zero _)
    | succ n_2 ih_3 =>
      intro i_4 f_5 H locs ls hm hF_6 hP hD hS hl
      refine lv_iload_n hx hb dX9_middleOf_2 rfl (lv_at hl 0 rfl) ?_
      refine lv_bipush (v := 99) hx hb dX9_middleOf_3 (by decide) ?_
      refine lv_icmp_gt (tgt := 21) hx hb dX9_middleOf_5 (by decide) (fun c_7 => ?_) (fun c_7 => ?_)
      · have k_8 : (99 : Int) < (i_4).toInt := z_lt c_7
        obtain rfl : i_4 = 100 := z_eq' (show (i_4).toInt = (100 : Int) by omega)
        refine lv_iconst (v := 0) hx hb dX9_middleOf_21 (by decide) ?_
        refine lv_istore_n (lv' := [(3, .int 0), (0, .ref h0), (1, .int p1), (2, .int p2)]) hx hb dX9_middleOf_22 rfl hl (by decide) rfl (fun ls hl => ?_)
        have loop_10 : ∀ (n_11 : Nat) (i_13 : Int32) (f_14 : Nat → Int32) (H : Heap) (locs : List Loc) (ls : Array Slot), (201 - (i_13).toInt).toNat < n_11 → (((0 : Int) ≤ (i_13).toInt ∧ (i_13).toInt ≤ (200 : Int))) → va_P (dC, dI) vwCl [(h0, .inr (9, [.ref h1, .ref h2, .ref h3, .int sm])), (h1, .inl (ch1, 200, .inl fh1)), (h2, .inl (ch2, 600, .inl fh2)), (h3, .inl (ch3, 100, .inl f_14))] H → va_D A [(h0, .inr (9, [.ref h1, .ref h2, .ref h3, .int sm])), (h1, .inl (ch1, 200, .inl fh1)), (h2, .inl (ch2, 600, .inl fh2)), (h3, .inl (ch3, 100, .inl f_14))] → va_S A s.heap H locs → lv_has ls 5 [(3, .int i_13), (0, .ref h0), (1, .int p1), (2, .int p2)] → W p l e ({ frames := 1, cells := 0, slots := 0, locals := 23 } : Room) s m ([.ref h0, .int p1, .int p2] : List Value).toArray below meth c H locs 0 0 QQ (F0 m 23 ls []) := by
          intro n_11
          induction n_11 with
          | zero => intro i_13 f_14 H locs ls hm; exact absurd hm (Nat.not_lt_zero _)
          | succ n_11 ih_12 =>
            intro i_13 f_14 H locs ls hm hF_15 hP hD hS hl
            refine lv_iload_n hx hb dX9_middleOf_23 rfl (lv_at hl 0 rfl) ?_
            refine lv_aload_n hx hb dX9_middleOf_24 rfl (lv_at hl 1 rfl) ?_
            refine va_get (D := (dC, dI)) (ci := 9) (v := .int sm) (C := RX9) (T := TX9) (N := 4) hx hb hts hiX9 hown hK hP 0 rfl rfl 3 (by decide) w__fieldLink_RX9_21_ShellHeap_Sizes_measured_I_ (fun _ h9 => h9) rfl dX9_middleOf_25 ?_
            refine lv_icmp_ge (tgt := 65) hx hb dX9_middleOf_28 (by decide) (fun c_16 => ?_) (fun c_16 => ?_)
            · have k_17 : (sm).toInt ≤ (i_13).toInt := z_le c_16
              refine lv_aload_n hx hb dX9_middleOf_65 rfl (lv_at hl 1 rfl) ?_
              refine lv_iload_n hx hb dX9_middleOf_66 rfl (lv_at hl 2 rfl) ?_
              obtain ⟨hPc, hDc⟩ := z_sub2 (ws' := [(h0, .inr (9, [.ref h1, .ref h2, .ref h3, .int sm])), (h1, .inl (ch1, 200, .inl fh1))]) hP hD [0, 1] (by decide) rfl
              have hKc := hK.sub (tys' := [(ch1, .int)]) [0] rfl
              have hFc := va_free (ws := []) (wc := []) (z_D0 _) hS hA [] rfl
              refine va_calli (va_runV (As := [.int p1]) (rest := []) ⟨hx, hb, hml, hown, hts⟩ (s_X9_measuredIn l dC dI H.size h0 p1 h1 (.ref h2) (.ref h3) sm ch1 fh1 hB_sm) (cwV 1 hts gw_s_X9_middleOf_s_X9_measuredIn_25 rfl rfl rfl (by decide +kernel) ⟨Nat.le_of_ble_eq_true rfl, Nat.le_of_ble_eq_true rfl⟩) ⟨z_blind, va_recv hKc hPc (ci := 9) (q0 := 0) rfl rfl, z_pre hPc hKc hDc⟩ rfl rfl hl.1 rfl (lv_room (Nat.le_of_ble_eq_true rfl)) dX9_middleOf_67 ⟨Nat.le_of_ble_eq_true rfl, Nat.le_of_ble_eq_true rfl⟩) hS (fun q _ h => hFc q h) hFc (fun r_19 u t H_18 locs ht hvm hw_20 hB hz1 hk1 hS => ?_)
              replace hP := z_pure hP hk1
              clear hPc hDc hKc
              refine lv_iconst (v := 1) hx hb dX9_middleOf_70 (by decide) ?_
              refine lv_iadd hx hb dX9_middleOf_71 ?_
              refine lv_topi (fun z_21 ez_21 => ?_)
              refine lv_iconst (v := 2) hx hb dX9_middleOf_72 (by decide) ?_
              refine lv_idiv hx hb dX9_middleOf_73 (by decide) ?_
              refine lv_topi (fun z_22 ez_22 => ?_)
              refine lv_istore_n (lv' := [(3, .int z_22), (0, .ref h0), (1, .int p1), (2, .int p2)]) hx hb dX9_middleOf_74 rfl hl (by decide) rfl (fun ls hl => ?_)
              refine lv_iload_n hx hb dX9_middleOf_75 rfl (lv_at hl 0 rfl) ?_
              refine lv_if_ne (tgt := 81) hx hb dX9_middleOf_76 (by decide) (fun c_23 => ?_) (fun c_23 => ?_)
              · have k_24 : (z_22).toInt ≠ (0 : Int) := z_ne c_23
                refine lv_iconst (v := 0) hx hb dX9_middleOf_81 (by decide) ?_
                refine lv_istore (lv' := [(4, .int 0), (3, .int z_22), (0, .ref h0), (1, .int p1), (2, .int p2)]) hx hb dX9_middleOf_82 hl (by decide) rfl (fun ls hl => ?_)
                have loop_25 : ∀ (n_26 : Nat) (a_28 : Int32) (i_29 : Int32) (H : Heap) (locs : List Loc) (ls : Array Slot), (101 - (i_29).toInt).toNat < n_26 → (((0 : Int) ≤ (i_29).toInt ∧ (i_29).toInt ≤ (100 : Int))) → va_P (dC, dI) vwCl [(h0, .inr (9, [.ref h1, .ref h2, .ref h3, .int sm])), (h1, .inl (ch1, 200, .inl fh1)), (h2, .inl (ch2, 600, .inl fh2)), (h3, .inl (ch3, 100, .inl f_14))] H → va_D A [(h0, .inr (9, [.ref h1, .ref h2, .ref h3, .int sm])), (h1, .inl (ch1, 200, .inl fh1)), (h2, .inl (ch2, 600, .inl fh2)), (h3, .inl (ch3, 100, .inl f_14))] → va_S A s.heap H locs → lv_has ls 5 [(4, .int i_29), (3, .int a_28), (0, .ref h0), (1, .int p1), (2, .int p2)] → W p l e ({ frames := 1, cells := 0, slots := 0, locals := 23 } : Room) s m ([.ref h0, .int p1, .int p2] : List Value).toArray below meth c H locs 0 0 QQ (F0 m 84 ls []) := by
                  intro n_26
                  induction n_26 with
                  | zero => intro a_28 i_29 H locs ls hm; exact absurd hm (Nat.not_lt_zero _)
                  | succ n_26 ih_27 =>
                    intro a_28 i_29 H locs ls hm hF_30 hP hD hS hl
                    refine lv_iload hx hb dX9_middleOf_84 (lv_at hl 0 rfl) ?_
                    refine lv_bipush (v := 99) hx hb dX9_middleOf_86 (by decide) ?_
                    refine lv_icmp_gt (tgt := 114) hx hb dX9_middleOf_88 (by decide) (fun c_31 => ?_) (fun c_31 => ?_)
                    · have k_32 : (99 : Int) < (i_29).toInt := z_lt c_31
                      obtain rfl : i_29 = 100 := z_eq' (show (i_29).toInt = (100 : Int) by omega)
                      refine lv_iconst (v := (-1)) hx hb dX9_middleOf_114 (by decide) ?_
                      refine z_backQ hQQ ?_
                      have hP9 := hP
                      have hD9 := hD
                      have hK9 := hK.sub (tys' := []) [] rfl
                      refine W.widen (k := 0) (n := 0) (Nat.le_of_ble_eq_true rfl) (Nat.le_of_ble_eq_true rfl) ?_
                      exact W.iret (v := (-1)) hx hb hr (fun t ht hW => ⟨⟨(-1), (), rfl, trivial, ⟨f_14, by rw [ht]; exact hP9, va_K.moved hW.alike hK9, hD9⟩⟩, hS.F ht⟩) hS.2.2 dX9_middleOf_115
                    · have k_34 : (99 : Int) ≥ (i_29).toInt := z_nlt c_31
                      refine lv_iload_n hx hb dX9_middleOf_91 rfl (lv_at hl 1 rfl) ?_
                      refine lv_aload_n hx hb dX9_middleOf_92 rfl (lv_at hl 2 rfl) ?_
                      refine va_get (D := (dC, dI)) (ci := 9) (v := .ref h3) (C := RX9) (T := TX9) (N := 4) hx hb hts hiX9 hown hK hP 0 rfl rfl 2 (by decide) w__fieldLink_RX9_18_ShellHeap_Sizes_tally_I_ (fun _ h9 => h9) rfl dX9_middleOf_93 ?_
                      refine lv_iload hx hb dX9_middleOf_96 (lv_at hl 0 rfl) ?_
                      refine va_iald hx hb hK hP 3 2 rfl rfl (z_vpin (by omega) (by omega)) dX9_middleOf_98 ?_
                      refine lv_topi (fun z_35 ez_35 => ?_)
                      refine lv_isub hx hb dX9_middleOf_99 ?_
                      refine lv_topi (fun z_36 ez_36 => ?_)
                      refine lv_istore_n (lv' := [(3, .int z_36), (4, .int i_29), (0, .ref h0), (1, .int p1), (2, .int p2)]) hx hb dX9_middleOf_100 rfl hl (by decide) rfl (fun ls hl => ?_)
                      refine lv_iload_n hx hb dX9_middleOf_101 rfl (lv_at hl 0 rfl) ?_
                      refine lv_if_gt (tgt := 108) hx hb dX9_middleOf_102 (by decide) (fun c_37 => ?_) (fun c_37 => ?_)
                      · have k_38 : (0 : Int) < (z_36).toInt := z_lt c_37
                        obtain ⟨z_39, ez_39⟩ : ∃ y : Int32, y = i_29 + 1 := ⟨_, rfl⟩
                        have kz_39 : (z_39).toInt = (i_29).toInt + (1 : Int) := by rw [ez_39]; exact z_add (b := 1) rfl rfl (z_al hF_30.1 (by decide)) (z_ah hF_30.2 (by decide))
                        refine lv_iinc (v := z_39) (lv' := [(4, .int z_39), (3, .int z_36), (0, .ref h0), (1, .int p1), (2, .int p2)]) hx hb dX9_middleOf_108 hl (k := 1) rfl (by rw [ez_39]; rfl) (by decide) rfl (fun ls hl => ?_)
                        refine lv_goto (tgt := 84) hx hb dX9_middleOf_111 (by decide) ?_
                        exact ih_27 z_36 z_39 _ _ _ (show (101 - (z_39).toInt).toNat < n_26 by omega) (show ((0 : Int) ≤ (z_39).toInt ∧ (z_39).toInt ≤ (100 : Int)) by omega) hP hD hS (lv_sub hl [0, 1, 2, 3, 4] rfl)
                      · have k_40 : (0 : Int) ≥ (z_36).toInt := z_nlt c_37
                        refine lv_iload hx hb dX9_middleOf_105 (lv_at hl 1 rfl) ?_
                        refine z_backQ hQQ ?_
                        have hP9 := hP
                        have hD9 := hD
                        have hK9 := hK.sub (tys' := []) [] rfl
                        refine W.widen (k := 0) (n := 0) (Nat.le_of_ble_eq_true rfl) (Nat.le_of_ble_eq_true rfl) ?_
                        exact W.iret (v := i_29) hx hb hr (fun t ht hW => ⟨⟨i_29, (), rfl, trivial, ⟨f_14, by rw [ht]; exact hP9, va_K.moved hW.alike hK9, hD9⟩⟩, hS.F ht⟩) hS.2.2 dX9_middleOf_107
                exact loop_25 _ z_22 0 _ _ _ (Nat.lt_succ_self _) (show ((0 : Int) ≤ (0 : Int) ∧ (0 : Int) ≤ (100 : Int)) by omega) hP hD hS hl
              · have k_41 : (z_22).toInt = (0 : Int) := z_eq c_23
                obtain rfl : z_22 = 0 := z_eq' (show (z_22).toInt = (0 : Int) by omega)
                refine lv_iconst (v := (-1)) hx hb dX9_middleOf_79 (by decide) ?_
                refine z_backQ hQQ ?_
                have hP9 := hP
                have hD9 := hD
                have hK9 := hK.sub (tys' := []) [] rfl
                refine W.widen (k := 0) (n := 0) (Nat.le_of_ble_eq_true rfl) (Nat.le_of_ble_eq_true rfl) ?_
                exact W.iret (v := (-1)) hx hb hr (fun t ht hW => ⟨⟨(-1), (), rfl, trivial, ⟨f_14, by rw [ht]; exact hP9, va_K.moved hW.alike hK9, hD9⟩⟩, hS.F ht⟩) hS.2.2 dX9_middleOf_80
            · have k_43 : (sm).toInt > (i_13).toInt := z_nle c_16
              refine lv_aload_n hx hb dX9_middleOf_31 rfl (lv_at hl 1 rfl) ?_
              refine va_get (D := (dC, dI)) (ci := 9) (v := .ref h3) (C := RX9) (T := TX9) (N := 4) hx hb hts hiX9 hown hK hP 0 rfl rfl 2 (by decide) w__fieldLink_RX9_18_ShellHeap_Sizes_tally_I_ (fun _ h9 => h9) rfl dX9_middleOf_32 ?_
              refine lv_aload_n hx hb dX9_middleOf_35 rfl (lv_at hl 1 rfl) ?_
              refine va_get (D := (dC, dI)) (ci := 9) (v := .ref h2) (C := RX9) (T := TX9) (N := 4) hx hb hts hiX9 hown hK hP 0 rfl rfl 1 (by decide) w__fieldLink_RX9_15_ShellHeap_Sizes_marks_I_ (fun _ h9 => h9) rfl dX9_middleOf_36 ?_
              refine lv_iload_n hx hb dX9_middleOf_39 rfl (lv_at hl 0 rfl) ?_
              refine lv_iconst (v := 3) hx hb dX9_middleOf_40 (by decide) ?_
              refine lv_imul hx hb dX9_middleOf_41 ?_
              refine lv_topi (fun z_44 ez_44 => ?_)
              have kz_44 : (z_44).toInt = (i_13).toInt * (3 : Int) := by rw [ez_44]; exact z_mul (a := (i_13).toInt) (b := (3 : Int)) rfl rfl (by omega) (by omega)
              refine lv_iload_n hx hb dX9_middleOf_42 rfl (lv_at hl 3 rfl) ?_
              refine lv_iadd hx hb dX9_middleOf_43 ?_
              refine lv_topi (fun z_45 ez_45 => ?_)
              have kz_45 : (z_45).toInt = (z_44).toInt + (p2).toInt := by rw [ez_45]; exact z_add (a := (z_44).toInt) (b := (p2).toInt) rfl rfl (by omega) (by omega)
              refine va_iald hx hb hK hP 2 1 rfl rfl (z_vpin (by omega) (by omega)) dX9_middleOf_44 ?_
              refine lv_topi (fun z_46 ez_46 => ?_)
              have kz_46 : ((0 : Int) ≤ (z_46).toInt ∧ (z_46).toInt ≤ (99 : Int)) := by rw [ez_46]; exact hI_h2 _
              refine lv_dup2_11 hx hb dX9_middleOf_45 rfl rfl ?_
              refine va_iald hx hb hK hP 3 2 rfl rfl (z_vpinB kz_46 (by decide) (by decide)) dX9_middleOf_46 ?_
              refine lv_topi (fun z_47 ez_47 => ?_)
              refine lv_iload_n hx hb dX9_middleOf_47 rfl (lv_at hl 2 rfl) ?_
              refine lv_aload_n hx hb dX9_middleOf_48 rfl (lv_at hl 1 rfl) ?_
              refine va_get (D := (dC, dI)) (ci := 9) (v := .ref h1) (C := RX9) (T := TX9) (N := 4) hx hb hts hiX9 hown hK hP 0 rfl rfl 0 (by decide) w__fieldLink_RX9_11_ShellHeap_Sizes_layerOf_I_ (fun _ h9 => h9) rfl dX9_middleOf_49 ?_
              refine lv_iload_n hx hb dX9_middleOf_52 rfl (lv_at hl 0 rfl) ?_
              refine va_iald hx hb hK hP 1 0 rfl rfl (z_vpin (by omega) (by omega)) dX9_middleOf_53 ?_
              refine lv_topi (fun z_48 ez_48 => ?_)
              refine lv_ishr hx hb dX9_middleOf_54 ?_
              refine lv_topi (fun z_49 ez_49 => ?_)
              refine lv_iconst (v := 1) hx hb dX9_middleOf_55 (by decide) ?_
              refine lv_iand hx hb dX9_middleOf_56 ?_
              refine lv_topi (fun z_50 ez_50 => ?_)
              have kz_50 : (0 : Int) ≤ (z_50).toInt ∧ (z_50).toInt ≤ (1 : Int) := by rw [ez_50]; exact z_and _ 1 (by decide) (by decide)
              refine lv_iadd hx hb dX9_middleOf_57 ?_
              refine lv_topi (fun z_51 ez_51 => ?_)
              refine va_iast hx hb hK hP hD hS 3 2 rfl rfl (z_vpinB kz_46 (by decide) (by decide)) dX9_middleOf_58 (fun H_52 locs hP hD hS => ?_)
              obtain ⟨hP, hD⟩ := z_s_3 hP hD
              generalize (upd f_14 (z_46 : Int32).toNatClampNeg z_51) = f_53 at hP hD
              obtain ⟨z_54, ez_54⟩ : ∃ y : Int32, y = i_13 + 1 := ⟨_, rfl⟩
              have kz_54 : (z_54).toInt = (i_13).toInt + (1 : Int) := by rw [ez_54]; exact z_add (b := 1) rfl rfl (z_al hF_15.1 (by decide)) (z_ah hF_15.2 (by decide))
              refine lv_iinc (v := z_54) (lv' := [(3, .int z_54), (0, .ref h0), (1, .int p1), (2, .int p2)]) hx hb dX9_middleOf_59 hl (k := 0) rfl (by rw [ez_54]; rfl) (by decide) rfl (fun ls hl => ?_)
              refine lv_goto (tgt := 23) hx hb dX9_middleOf_62 (by decide) ?_
              exact ih_12 z_54 f_53 _ _ _ (show (201 - (z_54).toInt).toNat < n_11 by omega) (show ((0 : Int) ≤ (z_54).toInt ∧ (z_54).toInt ≤ (200 : Int)) by omega) hP hD hS (lv_sub hl [0, 1, 2, 3] rfl)
        exact loop_10 _ 0 f_5 _ _ _ (Nat.lt_succ_self _) (show ((0 : Int) ≤ (0 : Int) ∧ (0 : Int) ≤ (200 : Int)) by omega) hP hD hS hl
      · have k_55 : (99 : Int) ≥ (i_4).toInt := z_nlt c_7
        refine lv_aload_n hx hb dX9_middleOf_8 rfl (lv_at hl 1 rfl) ?_
        refine va_get (D := (dC, dI)) (ci := 9) (v := .ref h3) (C := RX9) (T := TX9) (N := 4) hx hb hts hiX9 hown hK hP 0 rfl rfl 2 (by decide) w__fieldLink_RX9_18_ShellHeap_Sizes_tally_I_ (fun _ h9 => h9) rfl dX9_middleOf_9 ?_
        refine lv_iload_n hx hb dX9_middleOf_12 rfl (lv_at hl 0 rfl) ?_
        refine lv_iconst (v := 0) hx hb dX9_middleOf_13 (by decide) ?_
        refine va_iast hx hb hK hP hD hS 3 2 rfl rfl (z_vpin (by omega) (by omega)) dX9_middleOf_14 (fun H_56 locs hP hD hS => ?_)
        obtain ⟨hP, hD⟩ := z_s_3 hP hD
        generalize (upd f_5 (i_4 : Int32).toNatClampNeg 0) = f_57 at hP hD
        obtain ⟨z_58, ez_58⟩ : ∃ y : Int32, y = i_4 + 1 := ⟨_, rfl⟩
        have kz_58 : (z_58).toInt = (i_4).toInt + (1 : Int) := by rw [ez_58]; exact z_add (b := 1) rfl rfl (z_al hF_6.1 (by decide)) (z_ah hF_6.2 (by decide))
        refine lv_iinc (v := z_58) (lv' := [(3, .int z_58), (0, .ref h0), (1, .int p1), (2, .int p2)]) hx hb dX9_middleOf_15 hl (k := 0) rfl (by rw [ez_58]; rfl) (by decide) rfl (fun ls hl => ?_)
        refine lv_goto (tgt := 2) hx hb dX9_middleOf_18 (by decide) ?_
        exact ih_3 z_58 f_57 _ _ _ (show (101 - (z_58).toInt).toNat < n_2 by omega) (show ((0 : Int) ≤ (z_58).toInt ∧ (z_58).toInt ≤ (100 : Int)) by omega) hP hD hS (lv_sub hl [0, 1, 2, 3] rfl)
  exact loop_1 _ 0 fh3 _ _ _ (Nat.lt_succ_self _) (show ((0 : Int) ≤ (0 : Int) ∧ (0 : Int) ≤ (100 : Int)) by omega) hP hD hS hl
def u_s_X10_fail : List Cond := .code yX10_fail cX10_fail 2 (some .boolean) :: ([.fieldLink RX10 41 "ShellHeap$Tape" "faultSort" "I", .fieldLink RX10 29 "ShellHeap$Tape" "start" "I", .fieldLink RX10 44 "ShellHeap$Tape" "faultPlace" "I"] ++ (wsX100 ++ []))
theorem gd_s_X10_fail : z_gd u_s_X10_fail := z_gdc (by decide +kernel) (z_gda gdX10 (z_gd0))
set_option maxHeartbeats 4000000 in
set_option maxRecDepth 100000 in
theorem s_X10_fail (l : Launch) (dC : Nat → ClassId) (dI : Nat → Nat → Nat) (sz : Nat) (h0 : Nat) (p1 : Int32) (h0_0 : Value) (h0_1 : Value) (h0_2 : Value) (h0_3 : Value) (h0_4 : Value) (ts : Int32) (h0_6 : Value) (h0_7 : Value) (h0_8 : Value) (tx : Int32) (ty : Int32) (hB_ts : ((0 : Int) ≤ (ts).toInt ∧ (ts).toInt ≤ (700 : Int))) : Met l yX10_fail u_s_X10_fail ({ frames := 0, cells := 0, slots := 0, locals := 0 }) (va_Pc [.ref h0, .int p1] (z_C (dC, dI) vwCl [(h0, .inr (10, [h0_0, h0_1, h0_2, h0_3, h0_4, .int ts, h0_6, h0_7, h0_8, .int tx, .int ty]))] [] sz)) (va_Qi (fun (r : Int32) (_ : Unit) => r = 0) (fun (_ : Unit) (t : State) => ∃ (n_h0_faultSort : Int32), ∃ (n_h0_faultPlace : Int32), va_P (dC, dI) vwCl [(h0, .inr (10, [h0_0, h0_1, h0_2, h0_3, h0_4, .int ts, h0_6, h0_7, h0_8, .int n_h0_faultSort, .int n_h0_faultPlace]))] t.heap ∧ va_K (dC, dI) vwCl [] t ∧ va_D (va_A [(h0, .inr (10, [h0_0, h0_1, h0_2, h0_3, h0_4, .int ts, h0_6, h0_7, h0_8, .int tx, .int ty]))] sz) [(h0, .inr (10, [h0_0, h0_1, h0_2, h0_3, h0_4, .int ts, h0_6, h0_7, h0_8, .int n_h0_faultSort, .int n_h0_faultPlace]))]) (va_A [(h0, .inr (10, [h0_0, h0_1, h0_2, h0_3, h0_4, .int ts, h0_6, h0_7, h0_8, .int tx, .int ty]))] sz)) 0 0 (va_A [(h0, .inr (10, [h0_0, h0_1, h0_2, h0_3, h0_4, .int ts, h0_6, h0_7, h0_8, .int tx, .int ty]))] sz) := by
  refine Met.ofW (cc := cX10_fail) (maxL := 2) (ret := (some .boolean)) (by decide) rfl ?_
  intro p e s m args below meth c s₁ B hml hv
  obtain ⟨rfl, hsz, hP, hK, hD0⟩ := hv
  have hx := B.exec
  have hb := B.bytes
  have hr := B.returns
  have hts := atoms_spec (ws := u_s_X10_fail) B.pre
  have hown : s.vm.findClass RX10 = some m.cls := findClass_of_methodNamed B.named
  have hlocks := B.notSynchronized
  subst hsz
  have hD := hD0.self (sz := s.heap.size)
  generalize hAe : va_A [(h0, .inr (10, [h0_0, h0_1, h0_2, h0_3, h0_4, .int ts, h0_6, h0_7, h0_8, .int tx, .int ty]))] s.heap.size = A at hD ⊢
  have hA : ∀ q : Nat, s.heap.size ≤ q → A q := fun q h => by rw [← hAe]; exact Or.inr h
  have hS : va_S A s.heap s.heap [] := va_S.rf
  have hP : va_P (dC, dI) vwCl [(h0, .inr (10, [h0_0, h0_1, h0_2, h0_3, h0_4, .int ts, h0_6, h0_7, h0_8, .int tx, .int ty]))] s.heap := hP
  have w__fieldLink_RX10_41_ShellHeap_Tape_faultSort_I_ := hts (.fieldLink RX10 41 "ShellHeap$Tape" "faultSort" "I") (z_mc (z_ml z_m0))
  have hiX10 := show ∀ w ∈ u_ws RX10 TX10 11, w ∈ u_s_X10_fail from fun w h => z_mc (z_mr (z_ml h))
  have w__fieldLink_RX10_29_ShellHeap_Tape_start_I_ := hts (.fieldLink RX10 29 "ShellHeap$Tape" "start" "I") (z_mc (z_ml z_m1))
  have w__fieldLink_RX10_44_ShellHeap_Tape_faultPlace_I_ := hts (.fieldLink RX10 44 "ShellHeap$Tape" "faultPlace" "I") (z_mc (z_ml z_m2))
  have krr_p1 := z_rng p1
  have hl := lv_entry ([.ref h0, .int p1]) (n := 2) (Nat.le_of_ble_eq_true rfl)
  rw [lg_entry_eq]
  generalize (lg_sl ([.ref h0, .int p1]) ++ List.replicate (2 - (lg_sl ([.ref h0, .int p1])).length) Slot.unset).toArray = ls at hl ⊢
  have hl : lv_has ls 2 [(0, .ref h0), (1, .int p1)] := hl
  refine lv_aload_n hx hb dX10_fail_0 rfl (lv_at hl 0 rfl) ?_
  refine lv_iload_n hx hb dX10_fail_1 rfl (lv_at hl 1 rfl) ?_
  refine va_put (D := (dC, dI)) (ci := 10) (v := .int p1) (ty := .int) (C := RX10) (T := TX10) (N := 11) hx hb hts hiX10 tyX10 tyX10_ok nmX10 hown hK hP hD hS 0 rfl rfl 9 (by decide) w__fieldLink_RX10_41_ShellHeap_Tape_faultSort_I_ (fun _ h9 => h9) rfl (by decide +kernel) rfl rfl (Nat.le_of_ble_eq_true rfl) dX10_fail_2 (fun H_1 locs hP hD hS => ?_)
  obtain ⟨hP, hD⟩ := z_s_0_9 hP hD
  refine lv_aload_n hx hb dX10_fail_5 rfl (lv_at hl 0 rfl) ?_
  refine lv_aload_n hx hb dX10_fail_6 rfl (lv_at hl 0 rfl) ?_
  refine va_get (D := (dC, dI)) (ci := 10) (v := .int ts) (C := RX10) (T := TX10) (N := 11) hx hb hts hiX10 hown hK hP 0 rfl rfl 5 (by decide) w__fieldLink_RX10_29_ShellHeap_Tape_start_I_ (fun _ h9 => h9) rfl dX10_fail_7 ?_
  refine va_put (D := (dC, dI)) (ci := 10) (v := .int ts) (ty := .int) (C := RX10) (T := TX10) (N := 11) hx hb hts hiX10 tyX10 tyX10_ok nmX10 hown hK hP hD hS 0 rfl rfl 10 (by decide) w__fieldLink_RX10_44_ShellHeap_Tape_faultPlace_I_ (fun _ h9 => h9) rfl (by decide +kernel) rfl rfl (Nat.le_of_ble_eq_true rfl) dX10_fail_10 (fun H_2 locs hP hD hS => ?_)
  obtain ⟨hP, hD⟩ := z_s_0_10 hP hD
  refine lv_iconst (v := 0) hx hb dX10_fail_13 (by decide) ?_
  have hP9 := hP
  have hD9 := hD
  have hK9 := hK.sub (tys' := []) [] rfl
  refine W.widen (k := 0) (n := 0) (Nat.le_of_ble_eq_true rfl) (Nat.le_of_ble_eq_true rfl) ?_
  exact W.zret (v := 0) hx hb hr (by rfl) (fun t ht hW => ⟨⟨0, (), rfl, rfl, ⟨p1, ts, by rw [ht]; exact hP9, va_K.moved hW.alike hK9, hD9⟩⟩, hS.F ht⟩) hS.2.2 dX10_fail_14
def u_s_X10_byteAt : List Cond := .code yX10_byteAt cX10_byteAt 2 (some .int) :: ([.fieldLink RX10 15 "ShellHeap$Tape" "text" "I", .fieldLink RX10 11 "ShellHeap$Tape" "bytes" "[I"] ++ (wsX100 ++ []))
theorem gd_s_X10_byteAt : z_gd u_s_X10_byteAt := z_gdc (by decide +kernel) (z_gda gdX10 (z_gd0))
set_option maxHeartbeats 4000000 in
set_option maxRecDepth 100000 in
theorem s_X10_byteAt (l : Launch) (dC : Nat → ClassId) (dI : Nat → Nat → Nat) (sz : Nat) (h0 : Nat) (p1 : Int32) (h1 : Nat) (tt : Int32) (h0_2 : Value) (h0_3 : Value) (h0_4 : Value) (h0_5 : Value) (h0_6 : Value) (h0_7 : Value) (h0_8 : Value) (h0_9 : Value) (h0_10 : Value) (ch1 : ClassId) (fh1 : Nat → Int32) (hB_tt : ((0 : Int) ≤ (tt).toInt ∧ (tt).toInt ≤ (700 : Int))) (hI_h1 : ∀ j : Nat, ((0 : Int) ≤ (fh1 j).toInt ∧ (fh1 j).toInt ≤ (255 : Int))) : Met l yX10_byteAt u_s_X10_byteAt ({ frames := 0, cells := 0, slots := 0, locals := 0 }) (va_Pc [.ref h0, .int p1] (z_C (dC, dI) vwCl [(h0, .inr (10, [.ref h1, .int tt, h0_2, h0_3, h0_4, h0_5, h0_6, h0_7, h0_8, h0_9, h0_10])), (h1, .inl (ch1, 700, .inl fh1))] [(ch1, .int)] sz)) (va_Qi (fun (r : Int32) (_ : Unit) => ((0 : Int) ≤ (r).toInt ∧ (r).toInt ≤ (255 : Int)) ∧ (p1.toInt < tt.toInt ∨ r.toInt = 0)) (fun (_ : Unit) (_ : State) => True) (va_A [] sz)) 0 0 (va_A [] sz) := by
  refine Met.ofW (cc := cX10_byteAt) (maxL := 2) (ret := (some .int)) (by decide) rfl ?_
  intro p e s m args below meth c s₁ B hml hv
  obtain ⟨rfl, hsz, hP, hK, hD0⟩ := hv
  have hx := B.exec
  have hb := B.bytes
  have hr := B.returns
  have hts := atoms_spec (ws := u_s_X10_byteAt) B.pre
  have hown : s.vm.findClass RX10 = some m.cls := findClass_of_methodNamed B.named
  have hlocks := B.notSynchronized
  subst hsz
  have hD := hD0
  generalize hAe : va_A [] s.heap.size = A
  have hA : ∀ q : Nat, s.heap.size ≤ q → A q := fun q h => by rw [← hAe]; exact Or.inr h
  have hS : va_S A s.heap s.heap [] := va_S.rf
  have hP : va_P (dC, dI) vwCl [(h0, .inr (10, [.ref h1, .int tt, h0_2, h0_3, h0_4, h0_5, h0_6, h0_7, h0_8, h0_9, h0_10])), (h1, .inl (ch1, 700, .inl fh1))] s.heap := hP
  have w__fieldLink_RX10_15_ShellHeap_Tape_text_I_ := hts (.fieldLink RX10 15 "ShellHeap$Tape" "text" "I") (z_mc (z_ml z_m0))
  have hiX10 := show ∀ w ∈ u_ws RX10 TX10 11, w ∈ u_s_X10_byteAt from fun w h => z_mc (z_mr (z_ml h))
  have w__fieldLink_RX10_11_ShellHeap_Tape_bytes_I_ := hts (.fieldLink RX10 11 "ShellHeap$Tape" "bytes" "[I") (z_mc (z_ml z_m1))
  have krr_p1 := z_rng p1
  have hl := lv_entry ([.ref h0, .int p1]) (n := 2) (Nat.le_of_ble_eq_true rfl)
  rw [lg_entry_eq]
  generalize (lg_sl ([.ref h0, .int p1]) ++ List.replicate (2 - (lg_sl ([.ref h0, .int p1])).length) Slot.unset).toArray = ls at hl ⊢
  have hl : lv_has ls 2 [(0, .ref h0), (1, .int p1)] := hl
  refine lv_iload_n hx hb dX10_byteAt_0 rfl (lv_at hl 1 rfl) ?_
  refine lv_if_lt (tgt := 28) hx hb dX10_byteAt_1 (by decide) (fun c_1 => ?_) (fun c_1 => ?_)
  · have k_2 : (p1).toInt < (0 : Int) := z_lt c_1
    refine lv_iconst (v := 0) hx hb dX10_byteAt_28 (by decide) ?_
    refine W.widen (k := 0) (n := 0) (Nat.le_of_ble_eq_true rfl) (Nat.le_of_ble_eq_true rfl) ?_
    exact W.iret (v := 0) hx hb hr (fun t ht hW => ⟨⟨0, (), rfl, (show ((0 : Int) ≤ (0 : Int) ∧ (0 : Int) ≤ (255 : Int)) ∧ (p1.toInt < tt.toInt ∨ (0 : Int) = 0) by omega), trivial⟩, hS.F ht⟩) hS.2.2 dX10_byteAt_29
  · have k_3 : (p1).toInt ≥ (0 : Int) := z_nlt c_1
    refine lv_iload_n hx hb dX10_byteAt_4 rfl (lv_at hl 1 rfl) ?_
    refine lv_aload_n hx hb dX10_byteAt_5 rfl (lv_at hl 0 rfl) ?_
    refine va_get (D := (dC, dI)) (ci := 10) (v := .int tt) (C := RX10) (T := TX10) (N := 11) hx hb hts hiX10 hown hK hP 0 rfl rfl 1 (by decide) w__fieldLink_RX10_15_ShellHeap_Tape_text_I_ (fun _ h9 => h9) rfl dX10_byteAt_6 ?_
    refine lv_icmp_ge (tgt := 28) hx hb dX10_byteAt_9 (by decide) (fun c_4 => ?_) (fun c_4 => ?_)
    · have k_5 : (tt).toInt ≤ (p1).toInt := z_le c_4
      refine lv_iconst (v := 0) hx hb dX10_byteAt_28 (by decide) ?_
      refine W.widen (k := 0) (n := 0) (Nat.le_of_ble_eq_true rfl) (Nat.le_of_ble_eq_true rfl) ?_
      exact W.iret (v := 0) hx hb hr (fun t ht hW => ⟨⟨0, (), rfl, (show ((0 : Int) ≤ (0 : Int) ∧ (0 : Int) ≤ (255 : Int)) ∧ (p1.toInt < tt.toInt ∨ (0 : Int) = 0) by omega), trivial⟩, hS.F ht⟩) hS.2.2 dX10_byteAt_29
    · have k_6 : (tt).toInt > (p1).toInt := z_nle c_4
      refine lv_iload_n hx hb dX10_byteAt_12 rfl (lv_at hl 1 rfl) ?_
      refine lv_sipush (v := 700) hx hb dX10_byteAt_13 (by decide) ?_
      refine lv_icmp_ge (tgt := 28) hx hb dX10_byteAt_16 (by decide) (fun c_7 => ?_) (fun c_7 => ?_)
      · exfalso
        have k_8 : (700 : Int) ≤ (p1).toInt := z_le c_7
        omega
      refine lv_aload_n hx hb dX10_byteAt_19 rfl (lv_at hl 0 rfl) ?_
      refine va_get (D := (dC, dI)) (ci := 10) (v := .ref h1) (C := RX10) (T := TX10) (N := 11) hx hb hts hiX10 hown hK hP 0 rfl rfl 0 (by decide) w__fieldLink_RX10_11_ShellHeap_Tape_bytes_I_ (fun _ h9 => h9) rfl dX10_byteAt_20 ?_
      refine lv_iload_n hx hb dX10_byteAt_23 rfl (lv_at hl 1 rfl) ?_
      refine va_iald hx hb hK hP 1 0 rfl rfl (z_vpin (by omega) (by omega)) dX10_byteAt_24 ?_
      refine lv_topi (fun z_9 ez_9 => ?_)
      have kz_9 : ((0 : Int) ≤ (z_9).toInt ∧ (z_9).toInt ≤ (255 : Int)) := by rw [ez_9]; exact hI_h1 _
      refine lv_goto (tgt := 29) hx hb dX10_byteAt_25 (by decide) ?_
      refine W.widen (k := 0) (n := 0) (Nat.le_of_ble_eq_true rfl) (Nat.le_of_ble_eq_true rfl) ?_
      exact W.iret (v := z_9) hx hb hr (fun t ht hW => ⟨⟨z_9, (), rfl, (show ((0 : Int) ≤ (z_9).toInt ∧ (z_9).toInt ≤ (255 : Int)) ∧ (p1.toInt < tt.toInt ∨ (z_9).toInt = 0) by omega), trivial⟩, hS.F ht⟩) hS.2.2 dX10_byteAt_29
def u_s_X10_isLetter : List Cond := .code yX10_isLetter cX10_isLetter 1 (some .boolean) :: ([] ++ [])
theorem gd_s_X10_isLetter : z_gd u_s_X10_isLetter := z_gdc (by decide +kernel) (z_gd0)
set_option maxHeartbeats 4000000 in
set_option maxRecDepth 100000 in
theorem s_X10_isLetter (l : Launch) (dC : Nat → ClassId) (dI : Nat → Nat → Nat) (sz : Nat) (p0 : Int32) : Met l yX10_isLetter u_s_X10_isLetter ({ frames := 0, cells := 0, slots := 0, locals := 0 }) (va_Pc [.int p0] (z_C (dC, dI) vwCl [] [] sz)) (va_Qi (fun (r : Int32) (_ : Unit) => ((0 : Int) ≤ (r).toInt ∧ (r).toInt ≤ (1 : Int))) (fun (_ : Unit) (_ : State) => True) (va_A [] sz)) 0 0 (va_A [] sz) := by
  refine Met.ofW (cc := cX10_isLetter) (maxL := 1) (ret := (some .boolean)) (by decide) rfl ?_
  intro p e s m args below meth c s₁ B hml hv
  obtain ⟨rfl, hsz, hP, hK, hD0⟩ := hv
  have hx := B.exec
  have hb := B.bytes
  have hr := B.returns
  have hts := atoms_spec (ws := u_s_X10_isLetter) B.pre
  have hown : s.vm.findClass RX10 = some m.cls := findClass_of_methodNamed B.named
  have hlocks := B.notSynchronized
  subst hsz
  have hD := hD0
  generalize hAe : va_A [] s.heap.size = A
  have hA : ∀ q : Nat, s.heap.size ≤ q → A q := fun q h => by rw [← hAe]; exact Or.inr h
  have hS : va_S A s.heap s.heap [] := va_S.rf
  have hP : va_P (dC, dI) vwCl [] s.heap := hP
  have krr_p0 := z_rng p0
  have hl := lv_entry ([.int p0]) (n := 1) (Nat.le_of_ble_eq_true rfl)
  rw [lg_entry_eq]
  generalize (lg_sl ([.int p0]) ++ List.replicate (1 - (lg_sl ([.int p0])).length) Slot.unset).toArray = ls at hl ⊢
  have hl : lv_has ls 1 [(0, .int p0)] := hl
  refine lv_iload_n hx hb dX10_isLetter_0 rfl (lv_at hl 0 rfl) ?_
  refine lv_bipush (v := 97) hx hb dX10_isLetter_1 (by decide) ?_
  refine lv_icmp_lt (tgt := 16) hx hb dX10_isLetter_3 (by decide) (fun c_1 => ?_) (fun c_1 => ?_)
  · have k_2 : (p0).toInt < (97 : Int) := z_lt c_1
    refine lv_iconst (v := 0) hx hb dX10_isLetter_16 (by decide) ?_
    refine W.widen (k := 0) (n := 0) (Nat.le_of_ble_eq_true rfl) (Nat.le_of_ble_eq_true rfl) ?_
    exact W.zret (v := 0) hx hb hr (by rfl) (fun t ht hW => ⟨⟨0, (), rfl, (show ((0 : Int) ≤ (0 : Int) ∧ (0 : Int) ≤ (1 : Int)) by decide), trivial⟩, hS.F ht⟩) hS.2.2 dX10_isLetter_17
  · have k_3 : (p0).toInt ≥ (97 : Int) := z_nlt c_1
    refine lv_iload_n hx hb dX10_isLetter_6 rfl (lv_at hl 0 rfl) ?_
    refine lv_bipush (v := 122) hx hb dX10_isLetter_7 (by decide) ?_
    refine lv_icmp_gt (tgt := 16) hx hb dX10_isLetter_9 (by decide) (fun c_4 => ?_) (fun c_4 => ?_)
    · have k_5 : (122 : Int) < (p0).toInt := z_lt c_4
      refine lv_iconst (v := 0) hx hb dX10_isLetter_16 (by decide) ?_
      refine W.widen (k := 0) (n := 0) (Nat.le_of_ble_eq_true rfl) (Nat.le_of_ble_eq_true rfl) ?_
      exact W.zret (v := 0) hx hb hr (by rfl) (fun t ht hW => ⟨⟨0, (), rfl, (show ((0 : Int) ≤ (0 : Int) ∧ (0 : Int) ≤ (1 : Int)) by decide), trivial⟩, hS.F ht⟩) hS.2.2 dX10_isLetter_17
    · have k_6 : (122 : Int) ≥ (p0).toInt := z_nlt c_4
      refine lv_iconst (v := 1) hx hb dX10_isLetter_12 (by decide) ?_
      refine lv_goto (tgt := 17) hx hb dX10_isLetter_13 (by decide) ?_
      refine W.widen (k := 0) (n := 0) (Nat.le_of_ble_eq_true rfl) (Nat.le_of_ble_eq_true rfl) ?_
      exact W.zret (v := 1) hx hb hr (by rfl) (fun t ht hW => ⟨⟨1, (), rfl, (show ((0 : Int) ≤ (1 : Int) ∧ (1 : Int) ≤ (1 : Int)) by decide), trivial⟩, hS.F ht⟩) hS.2.2 dX10_isLetter_17
def u_s_X10_isDigit : List Cond := .code yX10_isDigit cX10_isDigit 1 (some .boolean) :: ([] ++ [])
theorem gd_s_X10_isDigit : z_gd u_s_X10_isDigit := z_gdc (by decide +kernel) (z_gd0)
set_option maxHeartbeats 4000000 in
set_option maxRecDepth 100000 in
theorem s_X10_isDigit (l : Launch) (dC : Nat → ClassId) (dI : Nat → Nat → Nat) (sz : Nat) (p0 : Int32) : Met l yX10_isDigit u_s_X10_isDigit ({ frames := 0, cells := 0, slots := 0, locals := 0 }) (va_Pc [.int p0] (z_C (dC, dI) vwCl [] [] sz)) (va_Qi (fun (r : Int32) (_ : Unit) => (r = 1 ∧ (48 ≤ p0.toInt ∧ p0.toInt ≤ 57)) ∨ (r = 0 ∧ True)) (fun (_ : Unit) (_ : State) => True) (va_A [] sz)) 0 0 (va_A [] sz) := by
  refine Met.ofW (cc := cX10_isDigit) (maxL := 1) (ret := (some .boolean)) (by decide) rfl ?_
  intro p e s m args below meth c s₁ B hml hv
  obtain ⟨rfl, hsz, hP, hK, hD0⟩ := hv
  have hx := B.exec
  have hb := B.bytes
  have hr := B.returns
  have hts := atoms_spec (ws := u_s_X10_isDigit) B.pre
  have hown : s.vm.findClass RX10 = some m.cls := findClass_of_methodNamed B.named
  have hlocks := B.notSynchronized
  subst hsz
  have hD := hD0
  generalize hAe : va_A [] s.heap.size = A
  have hA : ∀ q : Nat, s.heap.size ≤ q → A q := fun q h => by rw [← hAe]; exact Or.inr h
  have hS : va_S A s.heap s.heap [] := va_S.rf
  have hP : va_P (dC, dI) vwCl [] s.heap := hP
  have krr_p0 := z_rng p0
  have hl := lv_entry ([.int p0]) (n := 1) (Nat.le_of_ble_eq_true rfl)
  rw [lg_entry_eq]
  generalize (lg_sl ([.int p0]) ++ List.replicate (1 - (lg_sl ([.int p0])).length) Slot.unset).toArray = ls at hl ⊢
  have hl : lv_has ls 1 [(0, .int p0)] := hl
  refine lv_iload_n hx hb dX10_isDigit_0 rfl (lv_at hl 0 rfl) ?_
  refine lv_bipush (v := 48) hx hb dX10_isDigit_1 (by decide) ?_
  refine lv_icmp_lt (tgt := 16) hx hb dX10_isDigit_3 (by decide) (fun c_1 => ?_) (fun c_1 => ?_)
  · have k_2 : (p0).toInt < (48 : Int) := z_lt c_1
    refine lv_iconst (v := 0) hx hb dX10_isDigit_16 (by decide) ?_
    refine W.widen (k := 0) (n := 0) (Nat.le_of_ble_eq_true rfl) (Nat.le_of_ble_eq_true rfl) ?_
    exact W.zret (v := 0) hx hb hr (by rfl) (fun t ht hW => ⟨⟨0, (), rfl, (Or.inr (⟨rfl, by first | omega | decide⟩)), trivial⟩, hS.F ht⟩) hS.2.2 dX10_isDigit_17
  · have k_3 : (p0).toInt ≥ (48 : Int) := z_nlt c_1
    refine lv_iload_n hx hb dX10_isDigit_6 rfl (lv_at hl 0 rfl) ?_
    refine lv_bipush (v := 57) hx hb dX10_isDigit_7 (by decide) ?_
    refine lv_icmp_gt (tgt := 16) hx hb dX10_isDigit_9 (by decide) (fun c_4 => ?_) (fun c_4 => ?_)
    · have k_5 : (57 : Int) < (p0).toInt := z_lt c_4
      refine lv_iconst (v := 0) hx hb dX10_isDigit_16 (by decide) ?_
      refine W.widen (k := 0) (n := 0) (Nat.le_of_ble_eq_true rfl) (Nat.le_of_ble_eq_true rfl) ?_
      exact W.zret (v := 0) hx hb hr (by rfl) (fun t ht hW => ⟨⟨0, (), rfl, (Or.inr (⟨rfl, by first | omega | decide⟩)), trivial⟩, hS.F ht⟩) hS.2.2 dX10_isDigit_17
    · have k_6 : (57 : Int) ≥ (p0).toInt := z_nlt c_4
      refine lv_iconst (v := 1) hx hb dX10_isDigit_12 (by decide) ?_
      refine lv_goto (tgt := 17) hx hb dX10_isDigit_13 (by decide) ?_
      refine W.widen (k := 0) (n := 0) (Nat.le_of_ble_eq_true rfl) (Nat.le_of_ble_eq_true rfl) ?_
      exact W.zret (v := 1) hx hb hr (by rfl) (fun t ht hW => ⟨⟨1, (), rfl, (Or.inl (⟨rfl, by first | omega | decide⟩)), trivial⟩, hS.F ht⟩) hS.2.2 dX10_isDigit_17
def u_s_X10_passLetters : List Cond := .code yX10_passLetters cX10_passLetters 1 none :: ([.fieldLink RX10 19 "ShellHeap$Tape" "at" "I", .fieldLink RX10 15 "ShellHeap$Tape" "text" "I", .methodLink RX10 50 yX10_byteAt, .instanceMethod yX10_byteAt, .selects RX10 yX10_byteAt yX10_byteAt, .initialized RX10, .methodLink RX10 54 yX10_isLetter, .static yX10_isLetter] ++ (wsX100 ++ (u_s_X10_byteAt ++ (u_s_X10_isLetter ++ []))))
theorem gd_s_X10_passLetters : z_gd u_s_X10_passLetters := z_gdc (by decide +kernel) (z_gda gdX10 (z_gda gd_s_X10_byteAt (z_gda gd_s_X10_isLetter (z_gd0))))
set_option maxRecDepth 20000 in
theorem gw_s_X10_passLetters_s_X10_byteAt_50 : GoodIn u_s_X10_passLetters (wsV RX10 50 RX10 yX10_byteAt u_s_X10_byteAt) := z_gV (z_gr _ [3, 4, 5, 6] rfl (by decide +kernel)) (fun w h => ⟨z_mc (z_mr (z_mr (z_ml h))), gd_s_X10_byteAt w h⟩)
set_option maxRecDepth 20000 in
theorem gw_s_X10_passLetters_s_X10_isLetter_54 : GoodIn u_s_X10_passLetters (va_wsS RX10 54 yX10_isLetter u_s_X10_isLetter) := z_gS (z_gr _ [7, 8, 6] rfl (by decide +kernel)) (fun w h => ⟨z_mc (z_mr (z_mr (z_mr (z_ml h)))), gd_s_X10_isLetter w h⟩)
set_option maxHeartbeats 4000000 in
set_option maxRecDepth 100000 in
theorem s_X10_passLetters (l : Launch) (dC : Nat → ClassId) (dI : Nat → Nat → Nat) (sz : Nat) (h0 : Nat) (h1 : Nat) (tt : Int32) (ta : Int32) (h0_3 : Value) (h0_4 : Value) (h0_5 : Value) (h0_6 : Value) (h0_7 : Value) (h0_8 : Value) (h0_9 : Value) (h0_10 : Value) (ch1 : ClassId) (fh1 : Nat → Int32) (hB_tt : ((0 : Int) ≤ (tt).toInt ∧ (tt).toInt ≤ (700 : Int))) (hB_ta : ((0 : Int) ≤ (ta).toInt ∧ (ta).toInt ≤ (700 : Int))) (hI_h1 : ∀ j : Nat, ((0 : Int) ≤ (fh1 j).toInt ∧ (fh1 j).toInt ≤ (255 : Int))) : Met l yX10_passLetters u_s_X10_passLetters ({ frames := 1, cells := 0, slots := 0, locals := 21 }) (va_Pc [.ref h0] (z_C (dC, dI) vwCl [(h0, .inr (10, [.ref h1, .int tt, .int ta, h0_3, h0_4, h0_5, h0_6, h0_7, h0_8, h0_9, h0_10])), (h1, .inl (ch1, 700, .inl fh1))] [(ch1, .int)] sz)) (va_Qv (fun (_ : Unit) => True) (fun (_ : Unit) (t : State) => ∃ (n_h0_at : Int32), ((0 : Int) ≤ (n_h0_at).toInt ∧ (n_h0_at).toInt ≤ (700 : Int)) ∧ va_P (dC, dI) vwCl [(h0, .inr (10, [.ref h1, .int tt, .int n_h0_at, h0_3, h0_4, h0_5, h0_6, h0_7, h0_8, h0_9, h0_10])), (h1, .inl (ch1, 700, .inl fh1))] t.heap ∧ va_K (dC, dI) vwCl [] t ∧ va_D (va_A [(h0, .inr (10, [.ref h1, .int tt, .int ta, h0_3, h0_4, h0_5, h0_6, h0_7, h0_8, h0_9, h0_10])), (h1, .inl (ch1, 700, .inl fh1))] sz) [(h0, .inr (10, [.ref h1, .int tt, .int n_h0_at, h0_3, h0_4, h0_5, h0_6, h0_7, h0_8, h0_9, h0_10])), (h1, .inl (ch1, 700, .inl fh1))]) (va_A [(h0, .inr (10, [.ref h1, .int tt, .int ta, h0_3, h0_4, h0_5, h0_6, h0_7, h0_8, h0_9, h0_10])), (h1, .inl (ch1, 700, .inl fh1))] sz)) 0 0 (va_A [(h0, .inr (10, [.ref h1, .int tt, .int ta, h0_3, h0_4, h0_5, h0_6, h0_7, h0_8, h0_9, h0_10])), (h1, .inl (ch1, 700, .inl fh1))] sz) := by
  refine Met.ofW (cc := cX10_passLetters) (maxL := 1) (ret := none) (by decide) rfl ?_
  intro p e s m args below meth c s₁ B hml hv
  obtain ⟨rfl, hsz, hP, hK, hD0⟩ := hv
  have hx := B.exec
  have hb := B.bytes
  have hr := B.returns
  have hts := atoms_spec (ws := u_s_X10_passLetters) B.pre
  have hown : s.vm.findClass RX10 = some m.cls := findClass_of_methodNamed B.named
  have hlocks := B.notSynchronized
  subst hsz
  have hD := hD0.self (sz := s.heap.size)
  generalize hAe : va_A [(h0, .inr (10, [.ref h1, .int tt, .int ta, h0_3, h0_4, h0_5, h0_6, h0_7, h0_8, h0_9, h0_10])), (h1, .inl (ch1, 700, .inl fh1))] s.heap.size = A at hD ⊢
  have hA : ∀ q : Nat, s.heap.size ≤ q → A q := fun q h => by rw [← hAe]; exact Or.inr h
  have hS : va_S A s.heap s.heap [] := va_S.rf
  have hP : va_P (dC, dI) vwCl [(h0, .inr (10, [.ref h1, .int tt, .int ta, h0_3, h0_4, h0_5, h0_6, h0_7, h0_8, h0_9, h0_10])), (h1, .inl (ch1, 700, .inl fh1))] s.heap := hP
  have w__fieldLink_RX10_19_ShellHeap_Tape_at_I_ := hts (.fieldLink RX10 19 "ShellHeap$Tape" "at" "I") (z_mc (z_ml z_m0))
  have hiX10 := show ∀ w ∈ u_ws RX10 TX10 11, w ∈ u_s_X10_passLetters from fun w h => z_mc (z_mr (z_ml h))
  have w__fieldLink_RX10_15_ShellHeap_Tape_text_I_ := hts (.fieldLink RX10 15 "ShellHeap$Tape" "text" "I") (z_mc (z_ml z_m1))
  have hl := lv_entry ([.ref h0]) (n := 1) (Nat.le_of_ble_eq_true rfl)
  rw [lg_entry_eq]
  generalize (lg_sl ([.ref h0]) ++ List.replicate (1 - (lg_sl ([.ref h0])).length) Slot.unset).toArray = ls at hl ⊢
  have hl : lv_has ls 1 [(0, .ref h0)] := hl
  refine z_nameQ (fun QQ hQQ => ?_)
  have loop_1 : ∀ (n_2 : Nat) (v_4 : Int32) (H : Heap) (locs : List Loc) (ls : Array Slot), (701 - (v_4).toInt).toNat < n_2 → (((0 : Int) ≤ (v_4).toInt ∧ (v_4).toInt ≤ (700 : Int))) → va_P (dC, dI) vwCl [(h0, .inr (10, [.ref h1, .int tt, .int v_4, h0_3, h0_4, h0_5, h0_6, h0_7, h0_8, h0_9, h0_10])), (h1, .inl (ch1, 700, .inl fh1))] H → va_D A [(h0, .inr (10, [.ref h1, .int tt, .int v_4, h0_3, h0_4, h0_5, h0_6, h0_7, h0_8, h0_9, h0_10])), (h1, .inl (ch1, 700, .inl fh1))] → va_S A s.heap H locs → lv_has ls 1 [(0, .ref h0)] → W p l e ({ frames := 1, cells := 0, slots := 0, locals := 21 } : Room) s m ([.ref h0] : List Value).toArray below meth c H locs 0 0 QQ (F0 m 0 ls []) := by
    intro n_2
    induction n_2 with
    | zero => intro v_4 H locs ls hm; exact absurd hm (Nat.not_lt_zero _)
    | succ n_2 ih_3 =>
      intro v_4 H locs ls hm hF_5 hP hD hS hl
      refine lv_aload_n hx hb dX10_passLetters_0 rfl (lv_at hl 0 rfl) ?_
      refine va_get (D := (dC, dI)) (ci := 10) (v := .int v_4) (C := RX10) (T := TX10) (N := 11) hx hb hts hiX10 hown hK hP 0 rfl rfl 2 (by decide) w__fieldLink_RX10_19_ShellHeap_Tape_at_I_ (fun _ h9 => h9) rfl dX10_passLetters_1 ?_
      refine lv_aload_n hx hb dX10_passLetters_4 rfl (lv_at hl 0 rfl) ?_
      refine va_get (D := (dC, dI)) (ci := 10) (v := .int tt) (C := RX10) (T := TX10) (N := 11) hx hb hts hiX10 hown hK hP 0 rfl rfl 1 (by decide) w__fieldLink_RX10_15_ShellHeap_Tape_text_I_ (fun _ h9 => h9) rfl dX10_passLetters_5 ?_
      refine lv_icmp_ge (tgt := 38) hx hb dX10_passLetters_8 (by decide) (fun c_6 => ?_) (fun c_6 => ?_)
      · have k_7 : (tt).toInt ≤ (v_4).toInt := z_le c_6
        refine z_backQ hQQ ?_
        have hP9 := hP
        have hD9 := hD
        have hK9 := hK.sub (tys' := []) [] rfl
        refine W.widen (k := 0) (n := 0) (Nat.le_of_ble_eq_true rfl) (Nat.le_of_ble_eq_true rfl) ?_
        exact W.vret hx hb hr (fun t ht hW => ⟨⟨(), rfl, trivial, ⟨v_4, hF_5, by rw [ht]; exact hP9, va_K.moved hW.alike hK9, hD9⟩⟩, hS.F ht⟩) hS.2.2 dX10_passLetters_38
      · have k_8 : (tt).toInt > (v_4).toInt := z_nle c_6
        refine lv_aload_n hx hb dX10_passLetters_11 rfl (lv_at hl 0 rfl) ?_
        refine lv_aload_n hx hb dX10_passLetters_12 rfl (lv_at hl 0 rfl) ?_
        refine va_get (D := (dC, dI)) (ci := 10) (v := .int v_4) (C := RX10) (T := TX10) (N := 11) hx hb hts hiX10 hown hK hP 0 rfl rfl 2 (by decide) w__fieldLink_RX10_19_ShellHeap_Tape_at_I_ (fun _ h9 => h9) rfl dX10_passLetters_13 ?_
        have hPc := hP
        have hDc := hD
        have hKc := hK
        have hFc := va_free (ws := []) (wc := []) (z_D0 _) hS hA [] rfl
        refine va_calli (va_runV (As := [.int v_4]) (rest := []) ⟨hx, hb, hml, hown, hts⟩ (s_X10_byteAt l dC dI H.size h0 v_4 h1 tt (.int v_4) h0_3 h0_4 h0_5 h0_6 h0_7 h0_8 h0_9 h0_10 ch1 fh1 hB_tt hI_h1) (cwV 1 hts gw_s_X10_passLetters_s_X10_byteAt_50 rfl rfl rfl (by decide +kernel) ⟨Nat.le_of_ble_eq_true rfl, Nat.le_of_ble_eq_true rfl⟩) ⟨z_blind, va_recv hKc hPc (ci := 10) (q0 := 0) rfl rfl, z_pre hPc hKc hDc⟩ rfl rfl hl.1 rfl (lv_room (Nat.le_of_ble_eq_true rfl)) dX10_passLetters_16 ⟨Nat.le_of_ble_eq_true rfl, Nat.le_of_ble_eq_true rfl⟩) hS (fun q _ h => hFc q h) hFc (fun r_10 u t H_9 locs ht hvm hw_11 hB hz1 hk1 hS => ?_)
        replace hP := z_pure hP hk1
        clear hPc hDc hKc
        obtain ⟨hPc, hDc⟩ := z_sub2 (ws' := []) hP hD [] (by decide) rfl
        have hKc := hK.sub (tys' := []) [] rfl
        have hFc := va_free (ws := []) (wc := []) (z_D0 _) hS hA [] rfl
        refine va_calli (va_runS (As := [.int r_10]) (rest := []) ⟨hx, hb, hml, hown, hts⟩ (s_X10_isLetter l dC dI H_9.size r_10) (va_cwS 1 hts gw_s_X10_passLetters_s_X10_isLetter_54 rfl rfl rfl (by decide +kernel) ⟨Nat.le_of_ble_eq_true rfl, Nat.le_of_ble_eq_true rfl⟩) ⟨z_blind, z_pre hPc hKc hDc⟩ rfl rfl hl.1 rfl (lv_room (Nat.le_of_ble_eq_true rfl)) dX10_passLetters_19 ⟨Nat.le_of_ble_eq_true rfl, Nat.le_of_ble_eq_true rfl⟩) hS (fun q _ h => hFc q h) hFc (fun r_13 u t H_12 locs ht hvm hw_14 hB hz1 hk1 hS => ?_)
        replace hP := z_pure hP hk1
        clear hPc hDc hKc
        refine lv_if_eq (tgt := 38) hx hb dX10_passLetters_22 (by decide) (fun c_15 => ?_) (fun c_15 => ?_)
        · have k_16 : (r_13).toInt = (0 : Int) := z_eq c_15
          obtain rfl : r_13 = 0 := z_eq' (show (r_13).toInt = (0 : Int) by omega)
          refine z_backQ hQQ ?_
          have hP9 := hP
          have hD9 := hD
          have hK9 := hK.sub (tys' := []) [] rfl
          refine W.widen (k := 0) (n := 0) (Nat.le_of_ble_eq_true rfl) (Nat.le_of_ble_eq_true rfl) ?_
          exact W.vret hx hb hr (fun t ht hW => ⟨⟨(), rfl, trivial, ⟨v_4, hF_5, by rw [ht]; exact hP9, va_K.moved hW.alike hK9, hD9⟩⟩, hS.F ht⟩) hS.2.2 dX10_passLetters_38
        · have k_18 : (r_13).toInt ≠ (0 : Int) := z_ne c_15
          obtain rfl : r_13 = 1 := z_eq' (show (r_13).toInt = (1 : Int) by omega)
          refine lv_aload_n hx hb dX10_passLetters_25 rfl (lv_at hl 0 rfl) ?_
          refine lv_dup hx hb dX10_passLetters_26 rfl ?_
          refine va_get (D := (dC, dI)) (ci := 10) (v := .int v_4) (C := RX10) (T := TX10) (N := 11) hx hb hts hiX10 hown hK hP 0 rfl rfl 2 (by decide) w__fieldLink_RX10_19_ShellHeap_Tape_at_I_ (fun _ h9 => h9) rfl dX10_passLetters_27 ?_
          refine lv_iconst (v := 1) hx hb dX10_passLetters_30 (by decide) ?_
          refine lv_iadd hx hb dX10_passLetters_31 ?_
          refine lv_topi (fun z_20 ez_20 => ?_)
          have kz_20 : (z_20).toInt = (v_4).toInt + (1 : Int) := by rw [ez_20]; exact z_add (a := (v_4).toInt) (b := (1 : Int)) rfl rfl (z_al hF_5.1 (by decide)) (z_ah hF_5.2 (by decide))
          refine va_put (D := (dC, dI)) (ci := 10) (v := .int z_20) (ty := .int) (C := RX10) (T := TX10) (N := 11) hx hb hts hiX10 tyX10 tyX10_ok nmX10 hown hK hP hD hS 0 rfl rfl 2 (by decide) w__fieldLink_RX10_19_ShellHeap_Tape_at_I_ (fun _ h9 => h9) rfl (by decide +kernel) rfl rfl (Nat.le_of_ble_eq_true rfl) dX10_passLetters_32 (fun H_21 locs hP hD hS => ?_)
          obtain ⟨hP, hD⟩ := z_s_0_2 hP hD
          refine lv_goto (tgt := 0) hx hb dX10_passLetters_35 (by decide) ?_
          exact ih_3 z_20 _ _ _ (show (701 - (z_20).toInt).toNat < n_2 by omega) (show ((0 : Int) ≤ (z_20).toInt ∧ (z_20).toInt ≤ (700 : Int)) by omega) hP hD hS (lv_sub hl [0] rfl)
  exact loop_1 _ ta _ _ _ (Nat.lt_succ_self _) (show ((0 : Int) ≤ (ta).toInt ∧ (ta).toInt ≤ (700 : Int)) by omega) hP hD hS hl
def u_s_X10_passDigits : List Cond := .code yX10_passDigits cX10_passDigits 1 none :: ([.fieldLink RX10 19 "ShellHeap$Tape" "at" "I", .fieldLink RX10 15 "ShellHeap$Tape" "text" "I", .methodLink RX10 50 yX10_byteAt, .instanceMethod yX10_byteAt, .selects RX10 yX10_byteAt yX10_byteAt, .initialized RX10, .methodLink RX10 64 yX10_isDigit, .static yX10_isDigit] ++ (wsX100 ++ (u_s_X10_byteAt ++ (u_s_X10_isDigit ++ []))))
theorem gd_s_X10_passDigits : z_gd u_s_X10_passDigits := z_gdc (by decide +kernel) (z_gda gdX10 (z_gda gd_s_X10_byteAt (z_gda gd_s_X10_isDigit (z_gd0))))
set_option maxRecDepth 20000 in
theorem gw_s_X10_passDigits_s_X10_byteAt_50 : GoodIn u_s_X10_passDigits (wsV RX10 50 RX10 yX10_byteAt u_s_X10_byteAt) := z_gV (z_gr _ [3, 4, 5, 6] rfl (by decide +kernel)) (fun w h => ⟨z_mc (z_mr (z_mr (z_ml h))), gd_s_X10_byteAt w h⟩)
set_option maxRecDepth 20000 in
theorem gw_s_X10_passDigits_s_X10_isDigit_64 : GoodIn u_s_X10_passDigits (va_wsS RX10 64 yX10_isDigit u_s_X10_isDigit) := z_gS (z_gr _ [7, 8, 6] rfl (by decide +kernel)) (fun w h => ⟨z_mc (z_mr (z_mr (z_mr (z_ml h)))), gd_s_X10_isDigit w h⟩)
set_option maxHeartbeats 4000000 in
set_option maxRecDepth 100000 in
theorem s_X10_passDigits (l : Launch) (dC : Nat → ClassId) (dI : Nat → Nat → Nat) (sz : Nat) (h0 : Nat) (h1 : Nat) (tt : Int32) (ta : Int32) (h0_3 : Value) (h0_4 : Value) (h0_5 : Value) (h0_6 : Value) (h0_7 : Value) (h0_8 : Value) (h0_9 : Value) (h0_10 : Value) (ch1 : ClassId) (fh1 : Nat → Int32) (hB_tt : ((0 : Int) ≤ (tt).toInt ∧ (tt).toInt ≤ (700 : Int))) (hB_ta : ((0 : Int) ≤ (ta).toInt ∧ (ta).toInt ≤ (700 : Int))) (hI_h1 : ∀ j : Nat, ((0 : Int) ≤ (fh1 j).toInt ∧ (fh1 j).toInt ≤ (255 : Int))) : Met l yX10_passDigits u_s_X10_passDigits ({ frames := 1, cells := 0, slots := 0, locals := 21 }) (va_Pc [.ref h0] (z_C (dC, dI) vwCl [(h0, .inr (10, [.ref h1, .int tt, .int ta, h0_3, h0_4, h0_5, h0_6, h0_7, h0_8, h0_9, h0_10])), (h1, .inl (ch1, 700, .inl fh1))] [(ch1, .int)] sz)) (va_Qv (fun (_ : Unit) => True) (fun (_ : Unit) (t : State) => ∃ (n_h0_at : Int32), ((0 : Int) ≤ (n_h0_at).toInt ∧ (n_h0_at).toInt ≤ (700 : Int)) ∧ va_P (dC, dI) vwCl [(h0, .inr (10, [.ref h1, .int tt, .int n_h0_at, h0_3, h0_4, h0_5, h0_6, h0_7, h0_8, h0_9, h0_10])), (h1, .inl (ch1, 700, .inl fh1))] t.heap ∧ va_K (dC, dI) vwCl [] t ∧ va_D (va_A [(h0, .inr (10, [.ref h1, .int tt, .int ta, h0_3, h0_4, h0_5, h0_6, h0_7, h0_8, h0_9, h0_10])), (h1, .inl (ch1, 700, .inl fh1))] sz) [(h0, .inr (10, [.ref h1, .int tt, .int n_h0_at, h0_3, h0_4, h0_5, h0_6, h0_7, h0_8, h0_9, h0_10])), (h1, .inl (ch1, 700, .inl fh1))]) (va_A [(h0, .inr (10, [.ref h1, .int tt, .int ta, h0_3, h0_4, h0_5, h0_6, h0_7, h0_8, h0_9, h0_10])), (h1, .inl (ch1, 700, .inl fh1))] sz)) 0 0 (va_A [(h0, .inr (10, [.ref h1, .int tt, .int ta, h0_3, h0_4, h0_5, h0_6, h0_7, h0_8, h0_9, h0_10])), (h1, .inl (ch1, 700, .inl fh1))] sz) := by
  refine Met.ofW (cc := cX10_passDigits) (maxL := 1) (ret := none) (by decide) rfl ?_
  intro p e s m args below meth c s₁ B hml hv
  obtain ⟨rfl, hsz, hP, hK, hD0⟩ := hv
  have hx := B.exec
  have hb := B.bytes
  have hr := B.returns
  have hts := atoms_spec (ws := u_s_X10_passDigits) B.pre
  have hown : s.vm.findClass RX10 = some m.cls := findClass_of_methodNamed B.named
  have hlocks := B.notSynchronized
  subst hsz
  have hD := hD0.self (sz := s.heap.size)
  generalize hAe : va_A [(h0, .inr (10, [.ref h1, .int tt, .int ta, h0_3, h0_4, h0_5, h0_6, h0_7, h0_8, h0_9, h0_10])), (h1, .inl (ch1, 700, .inl fh1))] s.heap.size = A at hD ⊢
  have hA : ∀ q : Nat, s.heap.size ≤ q → A q := fun q h => by rw [← hAe]; exact Or.inr h
  have hS : va_S A s.heap s.heap [] := va_S.rf
  have hP : va_P (dC, dI) vwCl [(h0, .inr (10, [.ref h1, .int tt, .int ta, h0_3, h0_4, h0_5, h0_6, h0_7, h0_8, h0_9, h0_10])), (h1, .inl (ch1, 700, .inl fh1))] s.heap := hP
  have w__fieldLink_RX10_19_ShellHeap_Tape_at_I_ := hts (.fieldLink RX10 19 "ShellHeap$Tape" "at" "I") (z_mc (z_ml z_m0))
  have hiX10 := show ∀ w ∈ u_ws RX10 TX10 11, w ∈ u_s_X10_passDigits from fun w h => z_mc (z_mr (z_ml h))
  have w__fieldLink_RX10_15_ShellHeap_Tape_text_I_ := hts (.fieldLink RX10 15 "ShellHeap$Tape" "text" "I") (z_mc (z_ml z_m1))
  have hl := lv_entry ([.ref h0]) (n := 1) (Nat.le_of_ble_eq_true rfl)
  rw [lg_entry_eq]
  generalize (lg_sl ([.ref h0]) ++ List.replicate (1 - (lg_sl ([.ref h0])).length) Slot.unset).toArray = ls at hl ⊢
  have hl : lv_has ls 1 [(0, .ref h0)] := hl
  refine z_nameQ (fun QQ hQQ => ?_)
  have loop_1 : ∀ (n_2 : Nat) (v_4 : Int32) (H : Heap) (locs : List Loc) (ls : Array Slot), (701 - (v_4).toInt).toNat < n_2 → (((0 : Int) ≤ (v_4).toInt ∧ (v_4).toInt ≤ (700 : Int))) → va_P (dC, dI) vwCl [(h0, .inr (10, [.ref h1, .int tt, .int v_4, h0_3, h0_4, h0_5, h0_6, h0_7, h0_8, h0_9, h0_10])), (h1, .inl (ch1, 700, .inl fh1))] H → va_D A [(h0, .inr (10, [.ref h1, .int tt, .int v_4, h0_3, h0_4, h0_5, h0_6, h0_7, h0_8, h0_9, h0_10])), (h1, .inl (ch1, 700, .inl fh1))] → va_S A s.heap H locs → lv_has ls 1 [(0, .ref h0)] → W p l e ({ frames := 1, cells := 0, slots := 0, locals := 21 } : Room) s m ([.ref h0] : List Value).toArray below meth c H locs 0 0 QQ (F0 m 0 ls []) := by
    intro n_2
    induction n_2 with
    | zero => intro v_4 H locs ls hm; exact absurd hm (Nat.not_lt_zero _)
    | succ n_2 ih_3 =>
      intro v_4 H locs ls hm hF_5 hP hD hS hl
      refine lv_aload_n hx hb dX10_passDigits_0 rfl (lv_at hl 0 rfl) ?_
      refine va_get (D := (dC, dI)) (ci := 10) (v := .int v_4) (C := RX10) (T := TX10) (N := 11) hx hb hts hiX10 hown hK hP 0 rfl rfl 2 (by decide) w__fieldLink_RX10_19_ShellHeap_Tape_at_I_ (fun _ h9 => h9) rfl dX10_passDigits_1 ?_
      refine lv_aload_n hx hb dX10_passDigits_4 rfl (lv_at hl 0 rfl) ?_
      refine va_get (D := (dC, dI)) (ci := 10) (v := .int tt) (C := RX10) (T := TX10) (N := 11) hx hb hts hiX10 hown hK hP 0 rfl rfl 1 (by decide) w__fieldLink_RX10_15_ShellHeap_Tape_text_I_ (fun _ h9 => h9) rfl dX10_passDigits_5 ?_
      refine lv_icmp_ge (tgt := 38) hx hb dX10_passDigits_8 (by decide) (fun c_6 => ?_) (fun c_6 => ?_)
      · have k_7 : (tt).toInt ≤ (v_4).toInt := z_le c_6
        refine z_backQ hQQ ?_
        have hP9 := hP
        have hD9 := hD
        have hK9 := hK.sub (tys' := []) [] rfl
        refine W.widen (k := 0) (n := 0) (Nat.le_of_ble_eq_true rfl) (Nat.le_of_ble_eq_true rfl) ?_
        exact W.vret hx hb hr (fun t ht hW => ⟨⟨(), rfl, trivial, ⟨v_4, hF_5, by rw [ht]; exact hP9, va_K.moved hW.alike hK9, hD9⟩⟩, hS.F ht⟩) hS.2.2 dX10_passDigits_38
      · have k_8 : (tt).toInt > (v_4).toInt := z_nle c_6
        refine lv_aload_n hx hb dX10_passDigits_11 rfl (lv_at hl 0 rfl) ?_
        refine lv_aload_n hx hb dX10_passDigits_12 rfl (lv_at hl 0 rfl) ?_
        refine va_get (D := (dC, dI)) (ci := 10) (v := .int v_4) (C := RX10) (T := TX10) (N := 11) hx hb hts hiX10 hown hK hP 0 rfl rfl 2 (by decide) w__fieldLink_RX10_19_ShellHeap_Tape_at_I_ (fun _ h9 => h9) rfl dX10_passDigits_13 ?_
        have hPc := hP
        have hDc := hD
        have hKc := hK
        have hFc := va_free (ws := []) (wc := []) (z_D0 _) hS hA [] rfl
        refine va_calli (va_runV (As := [.int v_4]) (rest := []) ⟨hx, hb, hml, hown, hts⟩ (s_X10_byteAt l dC dI H.size h0 v_4 h1 tt (.int v_4) h0_3 h0_4 h0_5 h0_6 h0_7 h0_8 h0_9 h0_10 ch1 fh1 hB_tt hI_h1) (cwV 1 hts gw_s_X10_passDigits_s_X10_byteAt_50 rfl rfl rfl (by decide +kernel) ⟨Nat.le_of_ble_eq_true rfl, Nat.le_of_ble_eq_true rfl⟩) ⟨z_blind, va_recv hKc hPc (ci := 10) (q0 := 0) rfl rfl, z_pre hPc hKc hDc⟩ rfl rfl hl.1 rfl (lv_room (Nat.le_of_ble_eq_true rfl)) dX10_passDigits_16 ⟨Nat.le_of_ble_eq_true rfl, Nat.le_of_ble_eq_true rfl⟩) hS (fun q _ h => hFc q h) hFc (fun r_10 u t H_9 locs ht hvm hw_11 hB hz1 hk1 hS => ?_)
        replace hP := z_pure hP hk1
        clear hPc hDc hKc
        obtain ⟨hPc, hDc⟩ := z_sub2 (ws' := []) hP hD [] (by decide) rfl
        have hKc := hK.sub (tys' := []) [] rfl
        have hFc := va_free (ws := []) (wc := []) (z_D0 _) hS hA [] rfl
        refine va_calli (va_runS (As := [.int r_10]) (rest := []) ⟨hx, hb, hml, hown, hts⟩ (s_X10_isDigit l dC dI H_9.size r_10) (va_cwS 1 hts gw_s_X10_passDigits_s_X10_isDigit_64 rfl rfl rfl (by decide +kernel) ⟨Nat.le_of_ble_eq_true rfl, Nat.le_of_ble_eq_true rfl⟩) ⟨z_blind, z_pre hPc hKc hDc⟩ rfl rfl hl.1 rfl (lv_room (Nat.le_of_ble_eq_true rfl)) dX10_passDigits_19 ⟨Nat.le_of_ble_eq_true rfl, Nat.le_of_ble_eq_true rfl⟩) hS (fun q _ h => hFc q h) hFc (fun r_13 u t H_12 locs ht hvm hw_14 hB hz1 hk1 hS => ?_)
        replace hP := z_pure hP hk1
        clear hPc hDc hKc
        rcases hw_14 with ⟨rfl, hw_14⟩ | ⟨rfl, hw_14⟩
        · have hw_14 : (48 ≤ r_10.toInt ∧ r_10.toInt ≤ 57) := hw_14
          refine lv_if_eq (tgt := 38) hx hb dX10_passDigits_22 (by decide) (fun c_15 => absurd c_15 (by decide)) (fun _ => ?_)
          refine lv_aload_n hx hb dX10_passDigits_25 rfl (lv_at hl 0 rfl) ?_
          refine lv_dup hx hb dX10_passDigits_26 rfl ?_
          refine va_get (D := (dC, dI)) (ci := 10) (v := .int v_4) (C := RX10) (T := TX10) (N := 11) hx hb hts hiX10 hown hK hP 0 rfl rfl 2 (by decide) w__fieldLink_RX10_19_ShellHeap_Tape_at_I_ (fun _ h9 => h9) rfl dX10_passDigits_27 ?_
          refine lv_iconst (v := 1) hx hb dX10_passDigits_30 (by decide) ?_
          refine lv_iadd hx hb dX10_passDigits_31 ?_
          refine lv_topi (fun z_16 ez_16 => ?_)
          have kz_16 : (z_16).toInt = (v_4).toInt + (1 : Int) := by rw [ez_16]; exact z_add (a := (v_4).toInt) (b := (1 : Int)) rfl rfl (z_al hF_5.1 (by decide)) (z_ah hF_5.2 (by decide))
          refine va_put (D := (dC, dI)) (ci := 10) (v := .int z_16) (ty := .int) (C := RX10) (T := TX10) (N := 11) hx hb hts hiX10 tyX10 tyX10_ok nmX10 hown hK hP hD hS 0 rfl rfl 2 (by decide) w__fieldLink_RX10_19_ShellHeap_Tape_at_I_ (fun _ h9 => h9) rfl (by decide +kernel) rfl rfl (Nat.le_of_ble_eq_true rfl) dX10_passDigits_32 (fun H_17 locs hP hD hS => ?_)
          obtain ⟨hP, hD⟩ := z_s_0_2 hP hD
          refine lv_goto (tgt := 0) hx hb dX10_passDigits_35 (by decide) ?_
          exact ih_3 z_16 _ _ _ (show (701 - (z_16).toInt).toNat < n_2 by omega) (show ((0 : Int) ≤ (z_16).toInt ∧ (z_16).toInt ≤ (700 : Int)) by omega) hP hD hS (lv_sub hl [0] rfl)
        · have hw_14 : True := hw_14
          refine lv_if_eq (tgt := 38) hx hb dX10_passDigits_22 (by decide) (fun _ => ?_) (fun c_18 => absurd (by decide) c_18)
          refine z_backQ hQQ ?_
          have hP9 := hP
          have hD9 := hD
          have hK9 := hK.sub (tys' := []) [] rfl
          refine W.widen (k := 0) (n := 0) (Nat.le_of_ble_eq_true rfl) (Nat.le_of_ble_eq_true rfl) ?_
          exact W.vret hx hb hr (fun t ht hW => ⟨⟨(), rfl, trivial, ⟨v_4, hF_5, by rw [ht]; exact hP9, va_K.moved hW.alike hK9, hD9⟩⟩, hS.F ht⟩) hS.2.2 dX10_passDigits_38
  exact loop_1 _ ta _ _ _ (Nat.lt_succ_self _) (show ((0 : Int) ≤ (ta).toInt ∧ (ta).toInt ≤ (700 : Int)) by omega) hP hD hS hl
def u_s_X10_passSign : List Cond := .code yX10_passSign cX10_passSign 1 none :: ([.fieldLink RX10 19 "ShellHeap$Tape" "at" "I", .methodLink RX10 50 yX10_byteAt, .instanceMethod yX10_byteAt, .selects RX10 yX10_byteAt yX10_byteAt, .initialized RX10, .fieldLink RX10 38 "ShellHeap$Tape" "sign" "I"] ++ (wsX100 ++ (u_s_X10_byteAt ++ [])))
theorem gd_s_X10_passSign : z_gd u_s_X10_passSign := z_gdc (by decide +kernel) (z_gda gdX10 (z_gda gd_s_X10_byteAt (z_gd0)))
set_option maxRecDepth 20000 in
theorem gw_s_X10_passSign_s_X10_byteAt_50 : GoodIn u_s_X10_passSign (wsV RX10 50 RX10 yX10_byteAt u_s_X10_byteAt) := z_gV (z_gr _ [2, 3, 4, 5] rfl (by decide +kernel)) (fun w h => ⟨z_mc (z_mr (z_mr (z_ml h))), gd_s_X10_byteAt w h⟩)
set_option maxHeartbeats 4000000 in
set_option maxRecDepth 100000 in
theorem s_X10_passSign (l : Launch) (dC : Nat → ClassId) (dI : Nat → Nat → Nat) (sz : Nat) (h0 : Nat) (h1 : Nat) (tt : Int32) (ta : Int32) (h0_3 : Value) (h0_4 : Value) (h0_5 : Value) (h0_6 : Value) (h0_7 : Value) (tg : Int32) (h0_9 : Value) (h0_10 : Value) (ch1 : ClassId) (fh1 : Nat → Int32) (hB_tt : ((0 : Int) ≤ (tt).toInt ∧ (tt).toInt ≤ (700 : Int))) (hB_ta : ((0 : Int) ≤ (ta).toInt ∧ (ta).toInt ≤ (700 : Int))) (hI_h1 : ∀ j : Nat, ((0 : Int) ≤ (fh1 j).toInt ∧ (fh1 j).toInt ≤ (255 : Int))) (hat : ta.toInt < tt.toInt) : Met l yX10_passSign u_s_X10_passSign ({ frames := 1, cells := 0, slots := 0, locals := 21 }) (va_Pc [.ref h0] (z_C (dC, dI) vwCl [(h0, .inr (10, [.ref h1, .int tt, .int ta, h0_3, h0_4, h0_5, h0_6, h0_7, .int tg, h0_9, h0_10])), (h1, .inl (ch1, 700, .inl fh1))] [(ch1, .int)] sz)) (va_Qv (fun (_ : Unit) => True) (fun (_ : Unit) (t : State) => ∃ (n_h0_at : Int32), ∃ (n_h0_sign : Int32), ((0 : Int) ≤ (n_h0_at).toInt ∧ (n_h0_at).toInt ≤ (700 : Int)) ∧ va_P (dC, dI) vwCl [(h0, .inr (10, [.ref h1, .int tt, .int n_h0_at, h0_3, h0_4, h0_5, h0_6, h0_7, .int n_h0_sign, h0_9, h0_10])), (h1, .inl (ch1, 700, .inl fh1))] t.heap ∧ va_K (dC, dI) vwCl [] t ∧ va_D (va_A [(h0, .inr (10, [.ref h1, .int tt, .int ta, h0_3, h0_4, h0_5, h0_6, h0_7, .int tg, h0_9, h0_10])), (h1, .inl (ch1, 700, .inl fh1))] sz) [(h0, .inr (10, [.ref h1, .int tt, .int n_h0_at, h0_3, h0_4, h0_5, h0_6, h0_7, .int n_h0_sign, h0_9, h0_10])), (h1, .inl (ch1, 700, .inl fh1))]) (va_A [(h0, .inr (10, [.ref h1, .int tt, .int ta, h0_3, h0_4, h0_5, h0_6, h0_7, .int tg, h0_9, h0_10])), (h1, .inl (ch1, 700, .inl fh1))] sz)) 0 0 (va_A [(h0, .inr (10, [.ref h1, .int tt, .int ta, h0_3, h0_4, h0_5, h0_6, h0_7, .int tg, h0_9, h0_10])), (h1, .inl (ch1, 700, .inl fh1))] sz) := by
  refine Met.ofW (cc := cX10_passSign) (maxL := 1) (ret := none) (by decide) rfl ?_
  intro p e s m args below meth c s₁ B hml hv
  obtain ⟨rfl, hsz, hP, hK, hD0⟩ := hv
  have hx := B.exec
  have hb := B.bytes
  have hr := B.returns
  have hts := atoms_spec (ws := u_s_X10_passSign) B.pre
  have hown : s.vm.findClass RX10 = some m.cls := findClass_of_methodNamed B.named
  have hlocks := B.notSynchronized
  subst hsz
  have hD := hD0.self (sz := s.heap.size)
  generalize hAe : va_A [(h0, .inr (10, [.ref h1, .int tt, .int ta, h0_3, h0_4, h0_5, h0_6, h0_7, .int tg, h0_9, h0_10])), (h1, .inl (ch1, 700, .inl fh1))] s.heap.size = A at hD ⊢
  have hA : ∀ q : Nat, s.heap.size ≤ q → A q := fun q h => by rw [← hAe]; exact Or.inr h
  have hS : va_S A s.heap s.heap [] := va_S.rf
  have hP : va_P (dC, dI) vwCl [(h0, .inr (10, [.ref h1, .int tt, .int ta, h0_3, h0_4, h0_5, h0_6, h0_7, .int tg, h0_9, h0_10])), (h1, .inl (ch1, 700, .inl fh1))] s.heap := hP
  have w__fieldLink_RX10_19_ShellHeap_Tape_at_I_ := hts (.fieldLink RX10 19 "ShellHeap$Tape" "at" "I") (z_mc (z_ml z_m0))
  have hiX10 := show ∀ w ∈ u_ws RX10 TX10 11, w ∈ u_s_X10_passSign from fun w h => z_mc (z_mr (z_ml h))
  have w__fieldLink_RX10_38_ShellHeap_Tape_sign_I_ := hts (.fieldLink RX10 38 "ShellHeap$Tape" "sign" "I") (z_mc (z_ml z_m5))
  have hl := lv_entry ([.ref h0]) (n := 1) (Nat.le_of_ble_eq_true rfl)
  rw [lg_entry_eq]
  generalize (lg_sl ([.ref h0]) ++ List.replicate (1 - (lg_sl ([.ref h0])).length) Slot.unset).toArray = ls at hl ⊢
  have hl : lv_has ls 1 [(0, .ref h0)] := hl
  refine lv_aload_n hx hb dX10_passSign_0 rfl (lv_at hl 0 rfl) ?_
  refine lv_aload_n hx hb dX10_passSign_1 rfl (lv_at hl 0 rfl) ?_
  refine lv_aload_n hx hb dX10_passSign_2 rfl (lv_at hl 0 rfl) ?_
  refine va_get (D := (dC, dI)) (ci := 10) (v := .int ta) (C := RX10) (T := TX10) (N := 11) hx hb hts hiX10 hown hK hP 0 rfl rfl 2 (by decide) w__fieldLink_RX10_19_ShellHeap_Tape_at_I_ (fun _ h9 => h9) rfl dX10_passSign_3 ?_
  have hPc := hP
  have hDc := hD
  have hKc := hK
  have hFc := va_free (ws := []) (wc := []) (z_D0 _) hS hA [] rfl
  refine va_calli (va_runV (As := [.int ta]) (rest := [.ref h0]) ⟨hx, hb, hml, hown, hts⟩ (s_X10_byteAt l dC dI s.heap.size h0 ta h1 tt (.int ta) h0_3 h0_4 h0_5 h0_6 h0_7 (.int tg) h0_9 h0_10 ch1 fh1 hB_tt hI_h1) (cwV 1 hts gw_s_X10_passSign_s_X10_byteAt_50 rfl rfl rfl (by decide +kernel) ⟨Nat.le_of_ble_eq_true rfl, Nat.le_of_ble_eq_true rfl⟩) ⟨z_blind, va_recv hKc hPc (ci := 10) (q0 := 0) rfl rfl, z_pre hPc hKc hDc⟩ rfl rfl hl.1 rfl (lv_room (Nat.le_of_ble_eq_true rfl)) dX10_passSign_6 ⟨Nat.le_of_ble_eq_true rfl, Nat.le_of_ble_eq_true rfl⟩) hS (fun q _ h => hFc q h) hFc (fun r_2 u t H_1 locs ht hvm hw_3 hB hz1 hk1 hS => ?_)
  replace hP := z_pure hP hk1
  clear hPc hDc hKc
  refine va_put (D := (dC, dI)) (ci := 10) (v := .int r_2) (ty := .int) (C := RX10) (T := TX10) (N := 11) hx hb hts hiX10 tyX10 tyX10_ok nmX10 hown hK hP hD hS 0 rfl rfl 8 (by decide) w__fieldLink_RX10_38_ShellHeap_Tape_sign_I_ (fun _ h9 => h9) rfl (by decide +kernel) rfl rfl (Nat.le_of_ble_eq_true rfl) dX10_passSign_9 (fun H_4 locs hP hD hS => ?_)
  obtain ⟨hP, hD⟩ := z_s_0_8 hP hD
  refine lv_aload_n hx hb dX10_passSign_12 rfl (lv_at hl 0 rfl) ?_
  refine lv_dup hx hb dX10_passSign_13 rfl ?_
  refine va_get (D := (dC, dI)) (ci := 10) (v := .int ta) (C := RX10) (T := TX10) (N := 11) hx hb hts hiX10 hown hK hP 0 rfl rfl 2 (by decide) w__fieldLink_RX10_19_ShellHeap_Tape_at_I_ (fun _ h9 => h9) rfl dX10_passSign_14 ?_
  refine lv_iconst (v := 1) hx hb dX10_passSign_17 (by decide) ?_
  refine lv_iadd hx hb dX10_passSign_18 ?_
  refine lv_topi (fun z_5 ez_5 => ?_)
  have kz_5 : (z_5).toInt = (ta).toInt + (1 : Int) := by rw [ez_5]; exact z_add (a := (ta).toInt) (b := (1 : Int)) rfl rfl (z_al hB_ta.1 (by decide)) (z_ah hB_ta.2 (by decide))
  refine va_put (D := (dC, dI)) (ci := 10) (v := .int z_5) (ty := .int) (C := RX10) (T := TX10) (N := 11) hx hb hts hiX10 tyX10 tyX10_ok nmX10 hown hK hP hD hS 0 rfl rfl 2 (by decide) w__fieldLink_RX10_19_ShellHeap_Tape_at_I_ (fun _ h9 => h9) rfl (by decide +kernel) rfl rfl (Nat.le_of_ble_eq_true rfl) dX10_passSign_19 (fun H_6 locs hP hD hS => ?_)
  obtain ⟨hP, hD⟩ := z_s_0_2 hP hD
  refine lv_aload_n hx hb dX10_passSign_22 rfl (lv_at hl 0 rfl) ?_
  refine va_get (D := (dC, dI)) (ci := 10) (v := .int r_2) (C := RX10) (T := TX10) (N := 11) hx hb hts hiX10 hown hK hP 0 rfl rfl 8 (by decide) w__fieldLink_RX10_38_ShellHeap_Tape_sign_I_ (fun _ h9 => h9) rfl dX10_passSign_23 ?_
  refine lv_bipush (v := 60) hx hb dX10_passSign_26 (by decide) ?_
  refine lv_icmp_eq (tgt := 40) hx hb dX10_passSign_28 (by decide) (fun c_7 => ?_) (fun c_7 => ?_)
  · have k_8 : (r_2).toInt = (60 : Int) := z_eq c_7
    obtain rfl : r_2 = 60 := z_eq' (show (r_2).toInt = (60 : Int) by omega)
    refine lv_aload_n hx hb dX10_passSign_40 rfl (lv_at hl 0 rfl) ?_
    refine lv_aload_n hx hb dX10_passSign_41 rfl (lv_at hl 0 rfl) ?_
    refine va_get (D := (dC, dI)) (ci := 10) (v := .int z_5) (C := RX10) (T := TX10) (N := 11) hx hb hts hiX10 hown hK hP 0 rfl rfl 2 (by decide) w__fieldLink_RX10_19_ShellHeap_Tape_at_I_ (fun _ h9 => h9) rfl dX10_passSign_42 ?_
    have hPc := hP
    have hDc := hD
    have hKc := hK
    have hFc := va_free (ws := []) (wc := []) (z_D0 _) hS hA [] rfl
    refine va_calli (va_runV (As := [.int z_5]) (rest := []) ⟨hx, hb, hml, hown, hts⟩ (s_X10_byteAt l dC dI H_6.size h0 z_5 h1 tt (.int z_5) h0_3 h0_4 h0_5 h0_6 h0_7 (.int 60) h0_9 h0_10 ch1 fh1 hB_tt hI_h1) (cwV 1 hts gw_s_X10_passSign_s_X10_byteAt_50 rfl rfl rfl (by decide +kernel) ⟨Nat.le_of_ble_eq_true rfl, Nat.le_of_ble_eq_true rfl⟩) ⟨z_blind, va_recv hKc hPc (ci := 10) (q0 := 0) rfl rfl, z_pre hPc hKc hDc⟩ rfl rfl hl.1 rfl (lv_room (Nat.le_of_ble_eq_true rfl)) dX10_passSign_45 ⟨Nat.le_of_ble_eq_true rfl, Nat.le_of_ble_eq_true rfl⟩) hS (fun q _ h => hFc q h) hFc (fun r_11 u t H_10 locs ht hvm hw_12 hB hz1 hk1 hS => ?_)
    replace hP := z_pure hP hk1
    clear hPc hDc hKc
    refine lv_bipush (v := 61) hx hb dX10_passSign_48 (by decide) ?_
    refine lv_icmp_eq (tgt := 66) hx hb dX10_passSign_50 (by decide) (fun c_13 => ?_) (fun c_13 => ?_)
    · have k_14 : (r_11).toInt = (61 : Int) := z_eq c_13
      obtain rfl : r_11 = 61 := z_eq' (show (r_11).toInt = (61 : Int) by omega)
      refine lv_aload_n hx hb dX10_passSign_66 rfl (lv_at hl 0 rfl) ?_
      refine lv_dup hx hb dX10_passSign_67 rfl ?_
      refine va_get (D := (dC, dI)) (ci := 10) (v := .int 60) (C := RX10) (T := TX10) (N := 11) hx hb hts hiX10 hown hK hP 0 rfl rfl 8 (by decide) w__fieldLink_RX10_38_ShellHeap_Tape_sign_I_ (fun _ h9 => h9) rfl dX10_passSign_68 ?_
      refine lv_sipush (v := 256) hx hb dX10_passSign_71 (by decide) ?_
      refine lv_aload_n hx hb dX10_passSign_74 rfl (lv_at hl 0 rfl) ?_
      refine lv_aload_n hx hb dX10_passSign_75 rfl (lv_at hl 0 rfl) ?_
      refine va_get (D := (dC, dI)) (ci := 10) (v := .int z_5) (C := RX10) (T := TX10) (N := 11) hx hb hts hiX10 hown hK hP 0 rfl rfl 2 (by decide) w__fieldLink_RX10_19_ShellHeap_Tape_at_I_ (fun _ h9 => h9) rfl dX10_passSign_76 ?_
      have hPc := hP
      have hDc := hD
      have hKc := hK
      have hFc := va_free (ws := []) (wc := []) (z_D0 _) hS hA [] rfl
      refine va_calli (va_runV (As := [.int z_5]) (rest := [.int 256, .int 60, .ref h0]) ⟨hx, hb, hml, hown, hts⟩ (s_X10_byteAt l dC dI H_10.size h0 z_5 h1 tt (.int z_5) h0_3 h0_4 h0_5 h0_6 h0_7 (.int 60) h0_9 h0_10 ch1 fh1 hB_tt hI_h1) (cwV 1 hts gw_s_X10_passSign_s_X10_byteAt_50 rfl rfl rfl (by decide +kernel) ⟨Nat.le_of_ble_eq_true rfl, Nat.le_of_ble_eq_true rfl⟩) ⟨z_blind, va_recv hKc hPc (ci := 10) (q0 := 0) rfl rfl, z_pre hPc hKc hDc⟩ rfl rfl hl.1 rfl (lv_room (Nat.le_of_ble_eq_true rfl)) dX10_passSign_79 ⟨Nat.le_of_ble_eq_true rfl, Nat.le_of_ble_eq_true rfl⟩) hS (fun q _ h => hFc q h) hFc (fun r_17 u t H_16 locs ht hvm hw_18 hB hz1 hk1 hS => ?_)
      replace hP := z_pure hP hk1
      clear hPc hDc hKc
      refine lv_imul hx hb dX10_passSign_82 ?_
      refine lv_topi (fun z_19 ez_19 => ?_)
      have kz_19 : (z_19).toInt = (256 : Int) * (r_17).toInt := by rw [ez_19]; exact z_mul (a := (256 : Int)) (b := (r_17).toInt) rfl rfl (by omega) (by omega)
      refine lv_iadd hx hb dX10_passSign_83 ?_
      refine lv_topi (fun z_20 ez_20 => ?_)
      have kz_20 : (z_20).toInt = (60 : Int) + (z_19).toInt := by rw [ez_20]; exact z_add (a := (60 : Int)) (b := (z_19).toInt) rfl rfl (by omega) (by omega)
      refine va_put (D := (dC, dI)) (ci := 10) (v := .int z_20) (ty := .int) (C := RX10) (T := TX10) (N := 11) hx hb hts hiX10 tyX10 tyX10_ok nmX10 hown hK hP hD hS 0 rfl rfl 8 (by decide) w__fieldLink_RX10_38_ShellHeap_Tape_sign_I_ (fun _ h9 => h9) rfl (by decide +kernel) rfl rfl (Nat.le_of_ble_eq_true rfl) dX10_passSign_84 (fun H_21 locs hP hD hS => ?_)
      obtain ⟨hP, hD⟩ := z_s_0_8 hP hD
      refine lv_aload_n hx hb dX10_passSign_87 rfl (lv_at hl 0 rfl) ?_
      refine lv_dup hx hb dX10_passSign_88 rfl ?_
      refine va_get (D := (dC, dI)) (ci := 10) (v := .int z_5) (C := RX10) (T := TX10) (N := 11) hx hb hts hiX10 hown hK hP 0 rfl rfl 2 (by decide) w__fieldLink_RX10_19_ShellHeap_Tape_at_I_ (fun _ h9 => h9) rfl dX10_passSign_89 ?_
      refine lv_iconst (v := 1) hx hb dX10_passSign_92 (by decide) ?_
      refine lv_iadd hx hb dX10_passSign_93 ?_
      refine lv_topi (fun z_22 ez_22 => ?_)
      have kz_22 : (z_22).toInt = (z_5).toInt + (1 : Int) := by rw [ez_22]; exact z_add (a := (z_5).toInt) (b := (1 : Int)) rfl rfl (by omega) (by omega)
      refine va_put (D := (dC, dI)) (ci := 10) (v := .int z_22) (ty := .int) (C := RX10) (T := TX10) (N := 11) hx hb hts hiX10 tyX10 tyX10_ok nmX10 hown hK hP hD hS 0 rfl rfl 2 (by decide) w__fieldLink_RX10_19_ShellHeap_Tape_at_I_ (fun _ h9 => h9) rfl (by decide +kernel) rfl rfl (Nat.le_of_ble_eq_true rfl) dX10_passSign_94 (fun H_23 locs hP hD hS => ?_)
      obtain ⟨hP, hD⟩ := z_s_0_2 hP hD
      have hP9 := hP
      have hD9 := hD
      have hK9 := hK.sub (tys' := []) [] rfl
      refine W.widen (k := 0) (n := 0) (Nat.le_of_ble_eq_true rfl) (Nat.le_of_ble_eq_true rfl) ?_
      exact W.vret hx hb hr (fun t ht hW => ⟨⟨(), rfl, trivial, ⟨z_22, z_20, (by first | omega | decide), by rw [ht]; exact hP9, va_K.moved hW.alike hK9, hD9⟩⟩, hS.F ht⟩) hS.2.2 dX10_passSign_97
    · have k_24 : (r_11).toInt ≠ (61 : Int) := z_ne c_13
      refine lv_aload_n hx hb dX10_passSign_53 rfl (lv_at hl 0 rfl) ?_
      refine lv_aload_n hx hb dX10_passSign_54 rfl (lv_at hl 0 rfl) ?_
      refine va_get (D := (dC, dI)) (ci := 10) (v := .int z_5) (C := RX10) (T := TX10) (N := 11) hx hb hts hiX10 hown hK hP 0 rfl rfl 2 (by decide) w__fieldLink_RX10_19_ShellHeap_Tape_at_I_ (fun _ h9 => h9) rfl dX10_passSign_55 ?_
      have hPc := hP
      have hDc := hD
      have hKc := hK
      have hFc := va_free (ws := []) (wc := []) (z_D0 _) hS hA [] rfl
      refine va_calli (va_runV (As := [.int z_5]) (rest := []) ⟨hx, hb, hml, hown, hts⟩ (s_X10_byteAt l dC dI H_10.size h0 z_5 h1 tt (.int z_5) h0_3 h0_4 h0_5 h0_6 h0_7 (.int 60) h0_9 h0_10 ch1 fh1 hB_tt hI_h1) (cwV 1 hts gw_s_X10_passSign_s_X10_byteAt_50 rfl rfl rfl (by decide +kernel) ⟨Nat.le_of_ble_eq_true rfl, Nat.le_of_ble_eq_true rfl⟩) ⟨z_blind, va_recv hKc hPc (ci := 10) (q0 := 0) rfl rfl, z_pre hPc hKc hDc⟩ rfl rfl hl.1 rfl (lv_room (Nat.le_of_ble_eq_true rfl)) dX10_passSign_58 ⟨Nat.le_of_ble_eq_true rfl, Nat.le_of_ble_eq_true rfl⟩) hS (fun q _ h => hFc q h) hFc (fun r_26 u t H_25 locs ht hvm hw_27 hB hz1 hk1 hS => ?_)
      replace hP := z_pure hP hk1
      clear hPc hDc hKc
      refine lv_bipush (v := 62) hx hb dX10_passSign_61 (by decide) ?_
      refine lv_icmp_ne (tgt := 97) hx hb dX10_passSign_63 (by decide) (fun c_28 => ?_) (fun c_28 => ?_)
      · have k_29 : (r_26).toInt ≠ (62 : Int) := z_ne c_28
        have hP9 := hP
        have hD9 := hD
        have hK9 := hK.sub (tys' := []) [] rfl
        refine W.widen (k := 0) (n := 0) (Nat.le_of_ble_eq_true rfl) (Nat.le_of_ble_eq_true rfl) ?_
        exact W.vret hx hb hr (fun t ht hW => ⟨⟨(), rfl, trivial, ⟨z_5, 60, (by first | omega | decide), by rw [ht]; exact hP9, va_K.moved hW.alike hK9, hD9⟩⟩, hS.F ht⟩) hS.2.2 dX10_passSign_97
      · have k_30 : (r_26).toInt = (62 : Int) := z_eq c_28
        obtain rfl : r_26 = 62 := z_eq' (show (r_26).toInt = (62 : Int) by omega)
        refine lv_aload_n hx hb dX10_passSign_66 rfl (lv_at hl 0 rfl) ?_
        refine lv_dup hx hb dX10_passSign_67 rfl ?_
        refine va_get (D := (dC, dI)) (ci := 10) (v := .int 60) (C := RX10) (T := TX10) (N := 11) hx hb hts hiX10 hown hK hP 0 rfl rfl 8 (by decide) w__fieldLink_RX10_38_ShellHeap_Tape_sign_I_ (fun _ h9 => h9) rfl dX10_passSign_68 ?_
        refine lv_sipush (v := 256) hx hb dX10_passSign_71 (by decide) ?_
        refine lv_aload_n hx hb dX10_passSign_74 rfl (lv_at hl 0 rfl) ?_
        refine lv_aload_n hx hb dX10_passSign_75 rfl (lv_at hl 0 rfl) ?_
        refine va_get (D := (dC, dI)) (ci := 10) (v := .int z_5) (C := RX10) (T := TX10) (N := 11) hx hb hts hiX10 hown hK hP 0 rfl rfl 2 (by decide) w__fieldLink_RX10_19_ShellHeap_Tape_at_I_ (fun _ h9 => h9) rfl dX10_passSign_76 ?_
        have hPc := hP
        have hDc := hD
        have hKc := hK
        have hFc := va_free (ws := []) (wc := []) (z_D0 _) hS hA [] rfl
        refine va_calli (va_runV (As := [.int z_5]) (rest := [.int 256, .int 60, .ref h0]) ⟨hx, hb, hml, hown, hts⟩ (s_X10_byteAt l dC dI H_25.size h0 z_5 h1 tt (.int z_5) h0_3 h0_4 h0_5 h0_6 h0_7 (.int 60) h0_9 h0_10 ch1 fh1 hB_tt hI_h1) (cwV 1 hts gw_s_X10_passSign_s_X10_byteAt_50 rfl rfl rfl (by decide +kernel) ⟨Nat.le_of_ble_eq_true rfl, Nat.le_of_ble_eq_true rfl⟩) ⟨z_blind, va_recv hKc hPc (ci := 10) (q0 := 0) rfl rfl, z_pre hPc hKc hDc⟩ rfl rfl hl.1 rfl (lv_room (Nat.le_of_ble_eq_true rfl)) dX10_passSign_79 ⟨Nat.le_of_ble_eq_true rfl, Nat.le_of_ble_eq_true rfl⟩) hS (fun q _ h => hFc q h) hFc (fun r_33 u t H_32 locs ht hvm hw_34 hB hz1 hk1 hS => ?_)
        replace hP := z_pure hP hk1
        clear hPc hDc hKc
        refine lv_imul hx hb dX10_passSign_82 ?_
        refine lv_topi (fun z_35 ez_35 => ?_)
        have kz_35 : (z_35).toInt = (256 : Int) * (r_33).toInt := by rw [ez_35]; exact z_mul (a := (256 : Int)) (b := (r_33).toInt) rfl rfl (by omega) (by omega)
        refine lv_iadd hx hb dX10_passSign_83 ?_
        refine lv_topi (fun z_36 ez_36 => ?_)
        have kz_36 : (z_36).toInt = (60 : Int) + (z_35).toInt := by rw [ez_36]; exact z_add (a := (60 : Int)) (b := (z_35).toInt) rfl rfl (by omega) (by omega)
        refine va_put (D := (dC, dI)) (ci := 10) (v := .int z_36) (ty := .int) (C := RX10) (T := TX10) (N := 11) hx hb hts hiX10 tyX10 tyX10_ok nmX10 hown hK hP hD hS 0 rfl rfl 8 (by decide) w__fieldLink_RX10_38_ShellHeap_Tape_sign_I_ (fun _ h9 => h9) rfl (by decide +kernel) rfl rfl (Nat.le_of_ble_eq_true rfl) dX10_passSign_84 (fun H_37 locs hP hD hS => ?_)
        obtain ⟨hP, hD⟩ := z_s_0_8 hP hD
        refine lv_aload_n hx hb dX10_passSign_87 rfl (lv_at hl 0 rfl) ?_
        refine lv_dup hx hb dX10_passSign_88 rfl ?_
        refine va_get (D := (dC, dI)) (ci := 10) (v := .int z_5) (C := RX10) (T := TX10) (N := 11) hx hb hts hiX10 hown hK hP 0 rfl rfl 2 (by decide) w__fieldLink_RX10_19_ShellHeap_Tape_at_I_ (fun _ h9 => h9) rfl dX10_passSign_89 ?_
        refine lv_iconst (v := 1) hx hb dX10_passSign_92 (by decide) ?_
        refine lv_iadd hx hb dX10_passSign_93 ?_
        refine lv_topi (fun z_38 ez_38 => ?_)
        have kz_38 : (z_38).toInt = (z_5).toInt + (1 : Int) := by rw [ez_38]; exact z_add (a := (z_5).toInt) (b := (1 : Int)) rfl rfl (by omega) (by omega)
        refine va_put (D := (dC, dI)) (ci := 10) (v := .int z_38) (ty := .int) (C := RX10) (T := TX10) (N := 11) hx hb hts hiX10 tyX10 tyX10_ok nmX10 hown hK hP hD hS 0 rfl rfl 2 (by decide) w__fieldLink_RX10_19_ShellHeap_Tape_at_I_ (fun _ h9 => h9) rfl (by decide +kernel) rfl rfl (Nat.le_of_ble_eq_true rfl) dX10_passSign_94 (fun H_39 locs hP hD hS => ?_)
        obtain ⟨hP, hD⟩ := z_s_0_2 hP hD
        have hP9 := hP
        have hD9 := hD
        have hK9 := hK.sub (tys' := []) [] rfl
        refine W.widen (k := 0) (n := 0) (Nat.le_of_ble_eq_true rfl) (Nat.le_of_ble_eq_true rfl) ?_
        exact W.vret hx hb hr (fun t ht hW => ⟨⟨(), rfl, trivial, ⟨z_38, z_36, (by first | omega | decide), by rw [ht]; exact hP9, va_K.moved hW.alike hK9, hD9⟩⟩, hS.F ht⟩) hS.2.2 dX10_passSign_97
  · have k_40 : (r_2).toInt ≠ (60 : Int) := z_ne c_7
    refine lv_aload_n hx hb dX10_passSign_31 rfl (lv_at hl 0 rfl) ?_
    refine va_get (D := (dC, dI)) (ci := 10) (v := .int r_2) (C := RX10) (T := TX10) (N := 11) hx hb hts hiX10 hown hK hP 0 rfl rfl 8 (by decide) w__fieldLink_RX10_38_ShellHeap_Tape_sign_I_ (fun _ h9 => h9) rfl dX10_passSign_32 ?_
    refine lv_bipush (v := 62) hx hb dX10_passSign_35 (by decide) ?_
    refine lv_icmp_ne (tgt := 97) hx hb dX10_passSign_37 (by decide) (fun c_41 => ?_) (fun c_41 => ?_)
    · have k_42 : (r_2).toInt ≠ (62 : Int) := z_ne c_41
      have hP9 := hP
      have hD9 := hD
      have hK9 := hK.sub (tys' := []) [] rfl
      refine W.widen (k := 0) (n := 0) (Nat.le_of_ble_eq_true rfl) (Nat.le_of_ble_eq_true rfl) ?_
      exact W.vret hx hb hr (fun t ht hW => ⟨⟨(), rfl, trivial, ⟨z_5, r_2, (by first | omega | decide), by rw [ht]; exact hP9, va_K.moved hW.alike hK9, hD9⟩⟩, hS.F ht⟩) hS.2.2 dX10_passSign_97
    · have k_43 : (r_2).toInt = (62 : Int) := z_eq c_41
      obtain rfl : r_2 = 62 := z_eq' (show (r_2).toInt = (62 : Int) by omega)
      refine lv_aload_n hx hb dX10_passSign_40 rfl (lv_at hl 0 rfl) ?_
      refine lv_aload_n hx hb dX10_passSign_41 rfl (lv_at hl 0 rfl) ?_
      refine va_get (D := (dC, dI)) (ci := 10) (v := .int z_5) (C := RX10) (T := TX10) (N := 11) hx hb hts hiX10 hown hK hP 0 rfl rfl 2 (by decide) w__fieldLink_RX10_19_ShellHeap_Tape_at_I_ (fun _ h9 => h9) rfl dX10_passSign_42 ?_
      have hPc := hP
      have hDc := hD
      have hKc := hK
      have hFc := va_free (ws := []) (wc := []) (z_D0 _) hS hA [] rfl
      refine va_calli (va_runV (As := [.int z_5]) (rest := []) ⟨hx, hb, hml, hown, hts⟩ (s_X10_byteAt l dC dI H_6.size h0 z_5 h1 tt (.int z_5) h0_3 h0_4 h0_5 h0_6 h0_7 (.int 62) h0_9 h0_10 ch1 fh1 hB_tt hI_h1) (cwV 1 hts gw_s_X10_passSign_s_X10_byteAt_50 rfl rfl rfl (by decide +kernel) ⟨Nat.le_of_ble_eq_true rfl, Nat.le_of_ble_eq_true rfl⟩) ⟨z_blind, va_recv hKc hPc (ci := 10) (q0 := 0) rfl rfl, z_pre hPc hKc hDc⟩ rfl rfl hl.1 rfl (lv_room (Nat.le_of_ble_eq_true rfl)) dX10_passSign_45 ⟨Nat.le_of_ble_eq_true rfl, Nat.le_of_ble_eq_true rfl⟩) hS (fun q _ h => hFc q h) hFc (fun r_46 u t H_45 locs ht hvm hw_47 hB hz1 hk1 hS => ?_)
      replace hP := z_pure hP hk1
      clear hPc hDc hKc
      refine lv_bipush (v := 61) hx hb dX10_passSign_48 (by decide) ?_
      refine lv_icmp_eq (tgt := 66) hx hb dX10_passSign_50 (by decide) (fun c_48 => ?_) (fun c_48 => ?_)
      · have k_49 : (r_46).toInt = (61 : Int) := z_eq c_48
        obtain rfl : r_46 = 61 := z_eq' (show (r_46).toInt = (61 : Int) by omega)
        refine lv_aload_n hx hb dX10_passSign_66 rfl (lv_at hl 0 rfl) ?_
        refine lv_dup hx hb dX10_passSign_67 rfl ?_
        refine va_get (D := (dC, dI)) (ci := 10) (v := .int 62) (C := RX10) (T := TX10) (N := 11) hx hb hts hiX10 hown hK hP 0 rfl rfl 8 (by decide) w__fieldLink_RX10_38_ShellHeap_Tape_sign_I_ (fun _ h9 => h9) rfl dX10_passSign_68 ?_
        refine lv_sipush (v := 256) hx hb dX10_passSign_71 (by decide) ?_
        refine lv_aload_n hx hb dX10_passSign_74 rfl (lv_at hl 0 rfl) ?_
        refine lv_aload_n hx hb dX10_passSign_75 rfl (lv_at hl 0 rfl) ?_
        refine va_get (D := (dC, dI)) (ci := 10) (v := .int z_5) (C := RX10) (T := TX10) (N := 11) hx hb hts hiX10 hown hK hP 0 rfl rfl 2 (by decide) w__fieldLink_RX10_19_ShellHeap_Tape_at_I_ (fun _ h9 => h9) rfl dX10_passSign_76 ?_
        have hPc := hP
        have hDc := hD
        have hKc := hK
        have hFc := va_free (ws := []) (wc := []) (z_D0 _) hS hA [] rfl
        refine va_calli (va_runV (As := [.int z_5]) (rest := [.int 256, .int 62, .ref h0]) ⟨hx, hb, hml, hown, hts⟩ (s_X10_byteAt l dC dI H_45.size h0 z_5 h1 tt (.int z_5) h0_3 h0_4 h0_5 h0_6 h0_7 (.int 62) h0_9 h0_10 ch1 fh1 hB_tt hI_h1) (cwV 1 hts gw_s_X10_passSign_s_X10_byteAt_50 rfl rfl rfl (by decide +kernel) ⟨Nat.le_of_ble_eq_true rfl, Nat.le_of_ble_eq_true rfl⟩) ⟨z_blind, va_recv hKc hPc (ci := 10) (q0 := 0) rfl rfl, z_pre hPc hKc hDc⟩ rfl rfl hl.1 rfl (lv_room (Nat.le_of_ble_eq_true rfl)) dX10_passSign_79 ⟨Nat.le_of_ble_eq_true rfl, Nat.le_of_ble_eq_true rfl⟩) hS (fun q _ h => hFc q h) hFc (fun r_52 u t H_51 locs ht hvm hw_53 hB hz1 hk1 hS => ?_)
        replace hP := z_pure hP hk1
        clear hPc hDc hKc
        refine lv_imul hx hb dX10_passSign_82 ?_
        refine lv_topi (fun z_54 ez_54 => ?_)
        have kz_54 : (z_54).toInt = (256 : Int) * (r_52).toInt := by rw [ez_54]; exact z_mul (a := (256 : Int)) (b := (r_52).toInt) rfl rfl (by omega) (by omega)
        refine lv_iadd hx hb dX10_passSign_83 ?_
        refine lv_topi (fun z_55 ez_55 => ?_)
        have kz_55 : (z_55).toInt = (62 : Int) + (z_54).toInt := by rw [ez_55]; exact z_add (a := (62 : Int)) (b := (z_54).toInt) rfl rfl (by omega) (by omega)
        refine va_put (D := (dC, dI)) (ci := 10) (v := .int z_55) (ty := .int) (C := RX10) (T := TX10) (N := 11) hx hb hts hiX10 tyX10 tyX10_ok nmX10 hown hK hP hD hS 0 rfl rfl 8 (by decide) w__fieldLink_RX10_38_ShellHeap_Tape_sign_I_ (fun _ h9 => h9) rfl (by decide +kernel) rfl rfl (Nat.le_of_ble_eq_true rfl) dX10_passSign_84 (fun H_56 locs hP hD hS => ?_)
        obtain ⟨hP, hD⟩ := z_s_0_8 hP hD
        refine lv_aload_n hx hb dX10_passSign_87 rfl (lv_at hl 0 rfl) ?_
        refine lv_dup hx hb dX10_passSign_88 rfl ?_
        refine va_get (D := (dC, dI)) (ci := 10) (v := .int z_5) (C := RX10) (T := TX10) (N := 11) hx hb hts hiX10 hown hK hP 0 rfl rfl 2 (by decide) w__fieldLink_RX10_19_ShellHeap_Tape_at_I_ (fun _ h9 => h9) rfl dX10_passSign_89 ?_
        refine lv_iconst (v := 1) hx hb dX10_passSign_92 (by decide) ?_
        refine lv_iadd hx hb dX10_passSign_93 ?_
        refine lv_topi (fun z_57 ez_57 => ?_)
        have kz_57 : (z_57).toInt = (z_5).toInt + (1 : Int) := by rw [ez_57]; exact z_add (a := (z_5).toInt) (b := (1 : Int)) rfl rfl (by omega) (by omega)
        refine va_put (D := (dC, dI)) (ci := 10) (v := .int z_57) (ty := .int) (C := RX10) (T := TX10) (N := 11) hx hb hts hiX10 tyX10 tyX10_ok nmX10 hown hK hP hD hS 0 rfl rfl 2 (by decide) w__fieldLink_RX10_19_ShellHeap_Tape_at_I_ (fun _ h9 => h9) rfl (by decide +kernel) rfl rfl (Nat.le_of_ble_eq_true rfl) dX10_passSign_94 (fun H_58 locs hP hD hS => ?_)
        obtain ⟨hP, hD⟩ := z_s_0_2 hP hD
        have hP9 := hP
        have hD9 := hD
        have hK9 := hK.sub (tys' := []) [] rfl
        refine W.widen (k := 0) (n := 0) (Nat.le_of_ble_eq_true rfl) (Nat.le_of_ble_eq_true rfl) ?_
        exact W.vret hx hb hr (fun t ht hW => ⟨⟨(), rfl, trivial, ⟨z_57, z_55, (by first | omega | decide), by rw [ht]; exact hP9, va_K.moved hW.alike hK9, hD9⟩⟩, hS.F ht⟩) hS.2.2 dX10_passSign_97
      · have k_59 : (r_46).toInt ≠ (61 : Int) := z_ne c_48
        refine lv_aload_n hx hb dX10_passSign_53 rfl (lv_at hl 0 rfl) ?_
        refine lv_aload_n hx hb dX10_passSign_54 rfl (lv_at hl 0 rfl) ?_
        refine va_get (D := (dC, dI)) (ci := 10) (v := .int z_5) (C := RX10) (T := TX10) (N := 11) hx hb hts hiX10 hown hK hP 0 rfl rfl 2 (by decide) w__fieldLink_RX10_19_ShellHeap_Tape_at_I_ (fun _ h9 => h9) rfl dX10_passSign_55 ?_
        have hPc := hP
        have hDc := hD
        have hKc := hK
        have hFc := va_free (ws := []) (wc := []) (z_D0 _) hS hA [] rfl
        refine va_calli (va_runV (As := [.int z_5]) (rest := []) ⟨hx, hb, hml, hown, hts⟩ (s_X10_byteAt l dC dI H_45.size h0 z_5 h1 tt (.int z_5) h0_3 h0_4 h0_5 h0_6 h0_7 (.int 62) h0_9 h0_10 ch1 fh1 hB_tt hI_h1) (cwV 1 hts gw_s_X10_passSign_s_X10_byteAt_50 rfl rfl rfl (by decide +kernel) ⟨Nat.le_of_ble_eq_true rfl, Nat.le_of_ble_eq_true rfl⟩) ⟨z_blind, va_recv hKc hPc (ci := 10) (q0 := 0) rfl rfl, z_pre hPc hKc hDc⟩ rfl rfl hl.1 rfl (lv_room (Nat.le_of_ble_eq_true rfl)) dX10_passSign_58 ⟨Nat.le_of_ble_eq_true rfl, Nat.le_of_ble_eq_true rfl⟩) hS (fun q _ h => hFc q h) hFc (fun r_61 u t H_60 locs ht hvm hw_62 hB hz1 hk1 hS => ?_)
        replace hP := z_pure hP hk1
        clear hPc hDc hKc
        refine lv_bipush (v := 62) hx hb dX10_passSign_61 (by decide) ?_
        refine lv_icmp_ne (tgt := 97) hx hb dX10_passSign_63 (by decide) (fun c_63 => ?_) (fun c_63 => ?_)
        · have k_64 : (r_61).toInt ≠ (62 : Int) := z_ne c_63
          have hP9 := hP
          have hD9 := hD
          have hK9 := hK.sub (tys' := []) [] rfl
          refine W.widen (k := 0) (n := 0) (Nat.le_of_ble_eq_true rfl) (Nat.le_of_ble_eq_true rfl) ?_
          exact W.vret hx hb hr (fun t ht hW => ⟨⟨(), rfl, trivial, ⟨z_5, 62, (by first | omega | decide), by rw [ht]; exact hP9, va_K.moved hW.alike hK9, hD9⟩⟩, hS.F ht⟩) hS.2.2 dX10_passSign_97
        · have k_65 : (r_61).toInt = (62 : Int) := z_eq c_63
          obtain rfl : r_61 = 62 := z_eq' (show (r_61).toInt = (62 : Int) by omega)
          refine lv_aload_n hx hb dX10_passSign_66 rfl (lv_at hl 0 rfl) ?_
          refine lv_dup hx hb dX10_passSign_67 rfl ?_
          refine va_get (D := (dC, dI)) (ci := 10) (v := .int 62) (C := RX10) (T := TX10) (N := 11) hx hb hts hiX10 hown hK hP 0 rfl rfl 8 (by decide) w__fieldLink_RX10_38_ShellHeap_Tape_sign_I_ (fun _ h9 => h9) rfl dX10_passSign_68 ?_
          refine lv_sipush (v := 256) hx hb dX10_passSign_71 (by decide) ?_
          refine lv_aload_n hx hb dX10_passSign_74 rfl (lv_at hl 0 rfl) ?_
          refine lv_aload_n hx hb dX10_passSign_75 rfl (lv_at hl 0 rfl) ?_
          refine va_get (D := (dC, dI)) (ci := 10) (v := .int z_5) (C := RX10) (T := TX10) (N := 11) hx hb hts hiX10 hown hK hP 0 rfl rfl 2 (by decide) w__fieldLink_RX10_19_ShellHeap_Tape_at_I_ (fun _ h9 => h9) rfl dX10_passSign_76 ?_
          have hPc := hP
          have hDc := hD
          have hKc := hK
          have hFc := va_free (ws := []) (wc := []) (z_D0 _) hS hA [] rfl
          refine va_calli (va_runV (As := [.int z_5]) (rest := [.int 256, .int 62, .ref h0]) ⟨hx, hb, hml, hown, hts⟩ (s_X10_byteAt l dC dI H_60.size h0 z_5 h1 tt (.int z_5) h0_3 h0_4 h0_5 h0_6 h0_7 (.int 62) h0_9 h0_10 ch1 fh1 hB_tt hI_h1) (cwV 1 hts gw_s_X10_passSign_s_X10_byteAt_50 rfl rfl rfl (by decide +kernel) ⟨Nat.le_of_ble_eq_true rfl, Nat.le_of_ble_eq_true rfl⟩) ⟨z_blind, va_recv hKc hPc (ci := 10) (q0 := 0) rfl rfl, z_pre hPc hKc hDc⟩ rfl rfl hl.1 rfl (lv_room (Nat.le_of_ble_eq_true rfl)) dX10_passSign_79 ⟨Nat.le_of_ble_eq_true rfl, Nat.le_of_ble_eq_true rfl⟩) hS (fun q _ h => hFc q h) hFc (fun r_68 u t H_67 locs ht hvm hw_69 hB hz1 hk1 hS => ?_)
          replace hP := z_pure hP hk1
          clear hPc hDc hKc
          refine lv_imul hx hb dX10_passSign_82 ?_
          refine lv_topi (fun z_70 ez_70 => ?_)
          have kz_70 : (z_70).toInt = (256 : Int) * (r_68).toInt := by rw [ez_70]; exact z_mul (a := (256 : Int)) (b := (r_68).toInt) rfl rfl (by omega) (by omega)
          refine lv_iadd hx hb dX10_passSign_83 ?_
          refine lv_topi (fun z_71 ez_71 => ?_)
          have kz_71 : (z_71).toInt = (62 : Int) + (z_70).toInt := by rw [ez_71]; exact z_add (a := (62 : Int)) (b := (z_70).toInt) rfl rfl (by omega) (by omega)
          refine va_put (D := (dC, dI)) (ci := 10) (v := .int z_71) (ty := .int) (C := RX10) (T := TX10) (N := 11) hx hb hts hiX10 tyX10 tyX10_ok nmX10 hown hK hP hD hS 0 rfl rfl 8 (by decide) w__fieldLink_RX10_38_ShellHeap_Tape_sign_I_ (fun _ h9 => h9) rfl (by decide +kernel) rfl rfl (Nat.le_of_ble_eq_true rfl) dX10_passSign_84 (fun H_72 locs hP hD hS => ?_)
          obtain ⟨hP, hD⟩ := z_s_0_8 hP hD
          refine lv_aload_n hx hb dX10_passSign_87 rfl (lv_at hl 0 rfl) ?_
          refine lv_dup hx hb dX10_passSign_88 rfl ?_
          refine va_get (D := (dC, dI)) (ci := 10) (v := .int z_5) (C := RX10) (T := TX10) (N := 11) hx hb hts hiX10 hown hK hP 0 rfl rfl 2 (by decide) w__fieldLink_RX10_19_ShellHeap_Tape_at_I_ (fun _ h9 => h9) rfl dX10_passSign_89 ?_
          refine lv_iconst (v := 1) hx hb dX10_passSign_92 (by decide) ?_
          refine lv_iadd hx hb dX10_passSign_93 ?_
          refine lv_topi (fun z_73 ez_73 => ?_)
          have kz_73 : (z_73).toInt = (z_5).toInt + (1 : Int) := by rw [ez_73]; exact z_add (a := (z_5).toInt) (b := (1 : Int)) rfl rfl (by omega) (by omega)
          refine va_put (D := (dC, dI)) (ci := 10) (v := .int z_73) (ty := .int) (C := RX10) (T := TX10) (N := 11) hx hb hts hiX10 tyX10 tyX10_ok nmX10 hown hK hP hD hS 0 rfl rfl 2 (by decide) w__fieldLink_RX10_19_ShellHeap_Tape_at_I_ (fun _ h9 => h9) rfl (by decide +kernel) rfl rfl (Nat.le_of_ble_eq_true rfl) dX10_passSign_94 (fun H_74 locs hP hD hS => ?_)
          obtain ⟨hP, hD⟩ := z_s_0_2 hP hD
          have hP9 := hP
          have hD9 := hD
          have hK9 := hK.sub (tys' := []) [] rfl
          refine W.widen (k := 0) (n := 0) (Nat.le_of_ble_eq_true rfl) (Nat.le_of_ble_eq_true rfl) ?_
          exact W.vret hx hb hr (fun t ht hW => ⟨⟨(), rfl, trivial, ⟨z_73, z_71, (by first | omega | decide), by rw [ht]; exact hP9, va_K.moved hW.alike hK9, hD9⟩⟩, hS.F ht⟩) hS.2.2 dX10_passSign_97
def u_s_X10_next : List Cond := .code yX10_next cX10_next 1 none :: ([.fieldLink RX10 19 "ShellHeap$Tape" "at" "I", .fieldLink RX10 15 "ShellHeap$Tape" "text" "I", .fieldLink RX10 29 "ShellHeap$Tape" "start" "I", .fieldLink RX10 38 "ShellHeap$Tape" "sign" "I", .methodLink RX10 50 yX10_byteAt, .instanceMethod yX10_byteAt, .selects RX10 yX10_byteAt yX10_byteAt, .initialized RX10, .methodLink RX10 54 yX10_isLetter, .static yX10_isLetter, .methodLink RX10 64 yX10_isDigit, .static yX10_isDigit, .fieldLink RX10 35 "ShellHeap$Tape" "sort" "I", .methodLink RX10 61 yX10_passDigits, .instanceMethod yX10_passDigits, .selects RX10 yX10_passDigits yX10_passDigits, .fieldLink RX10 32 "ShellHeap$Tape" "end" "I", .methodLink RX10 67 yX10_passSign, .instanceMethod yX10_passSign, .selects RX10 yX10_passSign yX10_passSign, .methodLink RX10 58 yX10_passLetters, .instanceMethod yX10_passLetters, .selects RX10 yX10_passLetters yX10_passLetters, .fieldLink RX10 22 "ShellHeap$Tape" "digitsJoin" "Z"] ++ (wsX100 ++ (u_s_X10_byteAt ++ (u_s_X10_isLetter ++ (u_s_X10_isDigit ++ (u_s_X10_passDigits ++ (u_s_X10_passSign ++ (u_s_X10_passLetters ++ []))))))))
theorem gd_s_X10_next : z_gd u_s_X10_next := z_gdc (by decide +kernel) (z_gda gdX10 (z_gda gd_s_X10_byteAt (z_gda gd_s_X10_isLetter (z_gda gd_s_X10_isDigit (z_gda gd_s_X10_passDigits (z_gda gd_s_X10_passSign (z_gda gd_s_X10_passLetters (z_gd0))))))))
set_option maxRecDepth 20000 in
theorem gw_s_X10_next_s_X10_byteAt_50 : GoodIn u_s_X10_next (wsV RX10 50 RX10 yX10_byteAt u_s_X10_byteAt) := z_gV (z_gr _ [5, 6, 7, 8] rfl (by decide +kernel)) (fun w h => ⟨z_mc (z_mr (z_mr (z_ml h))), gd_s_X10_byteAt w h⟩)
set_option maxRecDepth 20000 in
theorem gw_s_X10_next_s_X10_isLetter_54 : GoodIn u_s_X10_next (va_wsS RX10 54 yX10_isLetter u_s_X10_isLetter) := z_gS (z_gr _ [9, 10, 8] rfl (by decide +kernel)) (fun w h => ⟨z_mc (z_mr (z_mr (z_mr (z_ml h)))), gd_s_X10_isLetter w h⟩)
set_option maxRecDepth 20000 in
theorem gw_s_X10_next_s_X10_isDigit_64 : GoodIn u_s_X10_next (va_wsS RX10 64 yX10_isDigit u_s_X10_isDigit) := z_gS (z_gr _ [11, 12, 8] rfl (by decide +kernel)) (fun w h => ⟨z_mc (z_mr (z_mr (z_mr (z_mr (z_ml h))))), gd_s_X10_isDigit w h⟩)
set_option maxRecDepth 20000 in
theorem gw_s_X10_next_s_X10_passDigits_61 : GoodIn u_s_X10_next (wsV RX10 61 RX10 yX10_passDigits u_s_X10_passDigits) := z_gV (z_gr _ [14, 15, 16, 8] rfl (by decide +kernel)) (fun w h => ⟨z_mc (z_mr (z_mr (z_mr (z_mr (z_mr (z_ml h)))))), gd_s_X10_passDigits w h⟩)
set_option maxRecDepth 20000 in
theorem gw_s_X10_next_s_X10_passSign_67 : GoodIn u_s_X10_next (wsV RX10 67 RX10 yX10_passSign u_s_X10_passSign) := z_gV (z_gr _ [18, 19, 20, 8] rfl (by decide +kernel)) (fun w h => ⟨z_mc (z_mr (z_mr (z_mr (z_mr (z_mr (z_mr (z_ml h))))))), gd_s_X10_passSign w h⟩)
set_option maxRecDepth 20000 in
theorem gw_s_X10_next_s_X10_passLetters_58 : GoodIn u_s_X10_next (wsV RX10 58 RX10 yX10_passLetters u_s_X10_passLetters) := z_gV (z_gr _ [21, 22, 23, 8] rfl (by decide +kernel)) (fun w h => ⟨z_mc (z_mr (z_mr (z_mr (z_mr (z_mr (z_mr (z_mr (z_ml h)))))))), gd_s_X10_passLetters w h⟩)
set_option maxHeartbeats 4000000 in
set_option maxRecDepth 100000 in
theorem s_X10_next (l : Launch) (dC : Nat → ClassId) (dI : Nat → Nat → Nat) (sz : Nat) (h0 : Nat) (h1 : Nat) (tt : Int32) (ta : Int32) (tj : Int32) (tf : Int32) (ts : Int32) (te : Int32) (to : Int32) (tg : Int32) (tx : Int32) (ty : Int32) (ch1 : ClassId) (fh1 : Nat → Int32) (hB_tt : ((0 : Int) ≤ (tt).toInt ∧ (tt).toInt ≤ (700 : Int))) (hB_ta : ((0 : Int) ≤ (ta).toInt ∧ (ta).toInt ≤ (700 : Int))) (hB_tf : ((0 : Int) ≤ (tf).toInt ∧ (tf).toInt ≤ (700 : Int))) (hB_ts : ((0 : Int) ≤ (ts).toInt ∧ (ts).toInt ≤ (700 : Int))) (hB_te : ((0 : Int) ≤ (te).toInt ∧ (te).toInt ≤ (700 : Int))) (hI_h1 : ∀ j : Nat, ((0 : Int) ≤ (fh1 j).toInt ∧ (fh1 j).toInt ≤ (255 : Int))) : Met l yX10_next u_s_X10_next ({ frames := 2, cells := 0, slots := 0, locals := 41 }) (va_Pc [.ref h0] (z_C (dC, dI) vwCl [(h0, .inr (10, [.ref h1, .int tt, .int ta, .int tj, .int tf, .int ts, .int te, .int to, .int tg, .int tx, .int ty])), (h1, .inl (ch1, 700, .inl fh1))] [(ch1, .int)] sz)) (va_Qv (fun (_ : Unit) => True) (fun (_ : Unit) (t : State) => ∃ (n_h0_at : Int32), ∃ (n_h0_start : Int32), ∃ (n_h0_end : Int32), ∃ (n_h0_sort : Int32), ∃ (n_h0_sign : Int32), ((0 : Int) ≤ (n_h0_at).toInt ∧ (n_h0_at).toInt ≤ (700 : Int)) ∧ ((0 : Int) ≤ (n_h0_start).toInt ∧ (n_h0_start).toInt ≤ (700 : Int)) ∧ ((0 : Int) ≤ (n_h0_end).toInt ∧ (n_h0_end).toInt ≤ (700 : Int)) ∧ va_P (dC, dI) vwCl [(h0, .inr (10, [.ref h1, .int tt, .int n_h0_at, .int tj, .int tf, .int n_h0_start, .int n_h0_end, .int n_h0_sort, .int n_h0_sign, .int tx, .int ty])), (h1, .inl (ch1, 700, .inl fh1))] t.heap ∧ va_K (dC, dI) vwCl [] t ∧ va_D (va_A [(h0, .inr (10, [.ref h1, .int tt, .int ta, .int tj, .int tf, .int ts, .int te, .int to, .int tg, .int tx, .int ty])), (h1, .inl (ch1, 700, .inl fh1))] sz) [(h0, .inr (10, [.ref h1, .int tt, .int n_h0_at, .int tj, .int tf, .int n_h0_start, .int n_h0_end, .int n_h0_sort, .int n_h0_sign, .int tx, .int ty])), (h1, .inl (ch1, 700, .inl fh1))]) (va_A [(h0, .inr (10, [.ref h1, .int tt, .int ta, .int tj, .int tf, .int ts, .int te, .int to, .int tg, .int tx, .int ty])), (h1, .inl (ch1, 700, .inl fh1))] sz)) 0 0 (va_A [(h0, .inr (10, [.ref h1, .int tt, .int ta, .int tj, .int tf, .int ts, .int te, .int to, .int tg, .int tx, .int ty])), (h1, .inl (ch1, 700, .inl fh1))] sz) := by
  refine Met.ofW (cc := cX10_next) (maxL := 1) (ret := none) (by decide) rfl ?_
  intro p e s m args below meth c s₁ B hml hv
  obtain ⟨rfl, hsz, hP, hK, hD0⟩ := hv
  have hx := B.exec
  have hb := B.bytes
  have hr := B.returns
  have hts := atoms_spec (ws := u_s_X10_next) B.pre
  have hown : s.vm.findClass RX10 = some m.cls := findClass_of_methodNamed B.named
  have hlocks := B.notSynchronized
  subst hsz
  have hD := hD0.self (sz := s.heap.size)
  generalize hAe : va_A [(h0, .inr (10, [.ref h1, .int tt, .int ta, .int tj, .int tf, .int ts, .int te, .int to, .int tg, .int tx, .int ty])), (h1, .inl (ch1, 700, .inl fh1))] s.heap.size = A at hD ⊢
  have hA : ∀ q : Nat, s.heap.size ≤ q → A q := fun q h => by rw [← hAe]; exact Or.inr h
  have hS : va_S A s.heap s.heap [] := va_S.rf
  have hP : va_P (dC, dI) vwCl [(h0, .inr (10, [.ref h1, .int tt, .int ta, .int tj, .int tf, .int ts, .int te, .int to, .int tg, .int tx, .int ty])), (h1, .inl (ch1, 700, .inl fh1))] s.heap := hP
  have w__fieldLink_RX10_19_ShellHeap_Tape_at_I_ := hts (.fieldLink RX10 19 "ShellHeap$Tape" "at" "I") (z_mc (z_ml z_m0))
  have hiX10 := show ∀ w ∈ u_ws RX10 TX10 11, w ∈ u_s_X10_next from fun w h => z_mc (z_mr (z_ml h))
  have w__fieldLink_RX10_15_ShellHeap_Tape_text_I_ := hts (.fieldLink RX10 15 "ShellHeap$Tape" "text" "I") (z_mc (z_ml z_m1))
  have w__fieldLink_RX10_29_ShellHeap_Tape_start_I_ := hts (.fieldLink RX10 29 "ShellHeap$Tape" "start" "I") (z_mc (z_ml z_m2))
  have w__fieldLink_RX10_38_ShellHeap_Tape_sign_I_ := hts (.fieldLink RX10 38 "ShellHeap$Tape" "sign" "I") (z_mc (z_ml z_m3))
  have w__fieldLink_RX10_35_ShellHeap_Tape_sort_I_ := hts (.fieldLink RX10 35 "ShellHeap$Tape" "sort" "I") (z_mc (z_ml z_m12))
  have w__fieldLink_RX10_32_ShellHeap_Tape_end_I_ := hts (.fieldLink RX10 32 "ShellHeap$Tape" "end" "I") (z_mc (z_ml z_m16))
  have w__fieldLink_RX10_22_ShellHeap_Tape_digitsJoin_Z_ := hts (.fieldLink RX10 22 "ShellHeap$Tape" "digitsJoin" "Z") (z_mc (z_ml z_m23))
  have hl := lv_entry ([.ref h0]) (n := 1) (Nat.le_of_ble_eq_true rfl)
  rw [lg_entry_eq]
  generalize (lg_sl ([.ref h0]) ++ List.replicate (1 - (lg_sl ([.ref h0])).length) Slot.unset).toArray = ls at hl ⊢
  have hl : lv_has ls 1 [(0, .ref h0)] := hl
  refine z_nameQ (fun QQ hQQ => ?_)
  have loop_1 : ∀ (n_2 : Nat) (v_4 : Int32) (H : Heap) (locs : List Loc) (ls : Array Slot), (701 - (v_4).toInt).toNat < n_2 → (((0 : Int) ≤ (v_4).toInt ∧ (v_4).toInt ≤ (700 : Int))) → va_P (dC, dI) vwCl [(h0, .inr (10, [.ref h1, .int tt, .int v_4, .int tj, .int tf, .int ts, .int te, .int to, .int tg, .int tx, .int ty])), (h1, .inl (ch1, 700, .inl fh1))] H → va_D A [(h0, .inr (10, [.ref h1, .int tt, .int v_4, .int tj, .int tf, .int ts, .int te, .int to, .int tg, .int tx, .int ty])), (h1, .inl (ch1, 700, .inl fh1))] → va_S A s.heap H locs → lv_has ls 1 [(0, .ref h0)] → W p l e ({ frames := 2, cells := 0, slots := 0, locals := 41 } : Room) s m ([.ref h0] : List Value).toArray below meth c H locs 0 0 QQ (F0 m 0 ls []) := by
    intro n_2
    induction n_2 with
    | zero => intro v_4 H locs ls hm; exact absurd hm (Nat.not_lt_zero _)
    | succ n_2 ih_3 =>
      intro v_4 H locs ls hm hF_5 hP hD hS hl
      refine lv_aload_n hx hb dX10_next_0 rfl (lv_at hl 0 rfl) ?_
      refine va_get (D := (dC, dI)) (ci := 10) (v := .int v_4) (C := RX10) (T := TX10) (N := 11) hx hb hts hiX10 hown hK hP 0 rfl rfl 2 (by decide) w__fieldLink_RX10_19_ShellHeap_Tape_at_I_ (fun _ h9 => h9) rfl dX10_next_1 ?_
      refine lv_aload_n hx hb dX10_next_4 rfl (lv_at hl 0 rfl) ?_
      refine va_get (D := (dC, dI)) (ci := 10) (v := .int tt) (C := RX10) (T := TX10) (N := 11) hx hb hts hiX10 hown hK hP 0 rfl rfl 1 (by decide) w__fieldLink_RX10_15_ShellHeap_Tape_text_I_ (fun _ h9 => h9) rfl dX10_next_5 ?_
      refine lv_icmp_ge (tgt := 50) hx hb dX10_next_8 (by decide) (fun c_6 => ?_) (fun c_6 => ?_)
      · have k_7 : (tt).toInt ≤ (v_4).toInt := z_le c_6
        refine lv_aload_n hx hb dX10_next_50 rfl (lv_at hl 0 rfl) ?_
        refine lv_aload_n hx hb dX10_next_51 rfl (lv_at hl 0 rfl) ?_
        refine va_get (D := (dC, dI)) (ci := 10) (v := .int v_4) (C := RX10) (T := TX10) (N := 11) hx hb hts hiX10 hown hK hP 0 rfl rfl 2 (by decide) w__fieldLink_RX10_19_ShellHeap_Tape_at_I_ (fun _ h9 => h9) rfl dX10_next_52 ?_
        refine va_put (D := (dC, dI)) (ci := 10) (v := .int v_4) (ty := .int) (C := RX10) (T := TX10) (N := 11) hx hb hts hiX10 tyX10 tyX10_ok nmX10 hown hK hP hD hS 0 rfl rfl 5 (by decide) w__fieldLink_RX10_29_ShellHeap_Tape_start_I_ (fun _ h9 => h9) rfl (by decide +kernel) rfl rfl (Nat.le_of_ble_eq_true rfl) dX10_next_55 (fun H_8 locs hP hD hS => ?_)
        obtain ⟨hP, hD⟩ := z_s_0_5 hP hD
        refine lv_aload_n hx hb dX10_next_58 rfl (lv_at hl 0 rfl) ?_
        refine lv_iconst (v := (-1)) hx hb dX10_next_59 (by decide) ?_
        refine va_put (D := (dC, dI)) (ci := 10) (v := .int (-1)) (ty := .int) (C := RX10) (T := TX10) (N := 11) hx hb hts hiX10 tyX10 tyX10_ok nmX10 hown hK hP hD hS 0 rfl rfl 8 (by decide) w__fieldLink_RX10_38_ShellHeap_Tape_sign_I_ (fun _ h9 => h9) rfl (by decide +kernel) rfl rfl (Nat.le_of_ble_eq_true rfl) dX10_next_60 (fun H_9 locs hP hD hS => ?_)
        obtain ⟨hP, hD⟩ := z_s_0_8 hP hD
        refine lv_aload_n hx hb dX10_next_63 rfl (lv_at hl 0 rfl) ?_
        refine va_get (D := (dC, dI)) (ci := 10) (v := .int v_4) (C := RX10) (T := TX10) (N := 11) hx hb hts hiX10 hown hK hP 0 rfl rfl 2 (by decide) w__fieldLink_RX10_19_ShellHeap_Tape_at_I_ (fun _ h9 => h9) rfl dX10_next_64 ?_
        refine lv_aload_n hx hb dX10_next_67 rfl (lv_at hl 0 rfl) ?_
        refine va_get (D := (dC, dI)) (ci := 10) (v := .int tt) (C := RX10) (T := TX10) (N := 11) hx hb hts hiX10 hown hK hP 0 rfl rfl 1 (by decide) w__fieldLink_RX10_15_ShellHeap_Tape_text_I_ (fun _ h9 => h9) rfl dX10_next_68 ?_
        refine lv_icmp_lt (tgt := 82) hx hb dX10_next_71 (by decide) (fun c_10 => ?_) (fun c_10 => ?_)
        · have k_11 : (v_4).toInt < (tt).toInt := z_lt c_10
          refine lv_aload_n hx hb dX10_next_82 rfl (lv_at hl 0 rfl) ?_
          refine lv_aload_n hx hb dX10_next_83 rfl (lv_at hl 0 rfl) ?_
          refine va_get (D := (dC, dI)) (ci := 10) (v := .int v_4) (C := RX10) (T := TX10) (N := 11) hx hb hts hiX10 hown hK hP 0 rfl rfl 2 (by decide) w__fieldLink_RX10_19_ShellHeap_Tape_at_I_ (fun _ h9 => h9) rfl dX10_next_84 ?_
          have hPc := hP
          have hDc := hD
          have hKc := hK
          have hFc := va_free (ws := []) (wc := []) (z_D0 _) hS hA [] rfl
          refine va_calli (va_runV (As := [.int v_4]) (rest := []) ⟨hx, hb, hml, hown, hts⟩ (s_X10_byteAt l dC dI H_9.size h0 v_4 h1 tt (.int v_4) (.int tj) (.int tf) (.int v_4) (.int te) (.int to) (.int (-1)) (.int tx) (.int ty) ch1 fh1 hB_tt hI_h1) (cwV 1 hts gw_s_X10_next_s_X10_byteAt_50 rfl rfl rfl (by decide +kernel) ⟨Nat.le_of_ble_eq_true rfl, Nat.le_of_ble_eq_true rfl⟩) ⟨z_blind, va_recv hKc hPc (ci := 10) (q0 := 0) rfl rfl, z_pre hPc hKc hDc⟩ rfl rfl hl.1 rfl (lv_room (Nat.le_of_ble_eq_true rfl)) dX10_next_87 ⟨Nat.le_of_ble_eq_true rfl, Nat.le_of_ble_eq_true rfl⟩) hS (fun q _ h => hFc q h) hFc (fun r_13 u t H_12 locs ht hvm hw_14 hB hz1 hk1 hS => ?_)
          replace hP := z_pure hP hk1
          clear hPc hDc hKc
          obtain ⟨hPc, hDc⟩ := z_sub2 (ws' := []) hP hD [] (by decide) rfl
          have hKc := hK.sub (tys' := []) [] rfl
          have hFc := va_free (ws := []) (wc := []) (z_D0 _) hS hA [] rfl
          refine va_calli (va_runS (As := [.int r_13]) (rest := []) ⟨hx, hb, hml, hown, hts⟩ (s_X10_isLetter l dC dI H_12.size r_13) (va_cwS 1 hts gw_s_X10_next_s_X10_isLetter_54 rfl rfl rfl (by decide +kernel) ⟨Nat.le_of_ble_eq_true rfl, Nat.le_of_ble_eq_true rfl⟩) ⟨z_blind, z_pre hPc hKc hDc⟩ rfl rfl hl.1 rfl (lv_room (Nat.le_of_ble_eq_true rfl)) dX10_next_90 ⟨Nat.le_of_ble_eq_true rfl, Nat.le_of_ble_eq_true rfl⟩) hS (fun q _ h => hFc q h) hFc (fun r_16 u t H_15 locs ht hvm hw_17 hB hz1 hk1 hS => ?_)
          replace hP := z_pure hP hk1
          clear hPc hDc hKc
          refine lv_if_eq (tgt := 119) hx hb dX10_next_93 (by decide) (fun c_18 => ?_) (fun c_18 => ?_)
          · have k_19 : (r_16).toInt = (0 : Int) := z_eq c_18
            obtain rfl : r_16 = 0 := z_eq' (show (r_16).toInt = (0 : Int) by omega)
            refine lv_aload_n hx hb dX10_next_119 rfl (lv_at hl 0 rfl) ?_
            refine lv_aload_n hx hb dX10_next_120 rfl (lv_at hl 0 rfl) ?_
            refine va_get (D := (dC, dI)) (ci := 10) (v := .int v_4) (C := RX10) (T := TX10) (N := 11) hx hb hts hiX10 hown hK hP 0 rfl rfl 2 (by decide) w__fieldLink_RX10_19_ShellHeap_Tape_at_I_ (fun _ h9 => h9) rfl dX10_next_121 ?_
            have hPc := hP
            have hDc := hD
            have hKc := hK
            have hFc := va_free (ws := []) (wc := []) (z_D0 _) hS hA [] rfl
            refine va_calli (va_runV (As := [.int v_4]) (rest := []) ⟨hx, hb, hml, hown, hts⟩ (s_X10_byteAt l dC dI H_15.size h0 v_4 h1 tt (.int v_4) (.int tj) (.int tf) (.int v_4) (.int te) (.int to) (.int (-1)) (.int tx) (.int ty) ch1 fh1 hB_tt hI_h1) (cwV 1 hts gw_s_X10_next_s_X10_byteAt_50 rfl rfl rfl (by decide +kernel) ⟨Nat.le_of_ble_eq_true rfl, Nat.le_of_ble_eq_true rfl⟩) ⟨z_blind, va_recv hKc hPc (ci := 10) (q0 := 0) rfl rfl, z_pre hPc hKc hDc⟩ rfl rfl hl.1 rfl (lv_room (Nat.le_of_ble_eq_true rfl)) dX10_next_124 ⟨Nat.le_of_ble_eq_true rfl, Nat.le_of_ble_eq_true rfl⟩) hS (fun q _ h => hFc q h) hFc (fun r_22 u t H_21 locs ht hvm hw_23 hB hz1 hk1 hS => ?_)
            replace hP := z_pure hP hk1
            clear hPc hDc hKc
            obtain ⟨hPc, hDc⟩ := z_sub2 (ws' := []) hP hD [] (by decide) rfl
            have hKc := hK.sub (tys' := []) [] rfl
            have hFc := va_free (ws := []) (wc := []) (z_D0 _) hS hA [] rfl
            refine va_calli (va_runS (As := [.int r_22]) (rest := []) ⟨hx, hb, hml, hown, hts⟩ (s_X10_isDigit l dC dI H_21.size r_22) (va_cwS 1 hts gw_s_X10_next_s_X10_isDigit_64 rfl rfl rfl (by decide +kernel) ⟨Nat.le_of_ble_eq_true rfl, Nat.le_of_ble_eq_true rfl⟩) ⟨z_blind, z_pre hPc hKc hDc⟩ rfl rfl hl.1 rfl (lv_room (Nat.le_of_ble_eq_true rfl)) dX10_next_127 ⟨Nat.le_of_ble_eq_true rfl, Nat.le_of_ble_eq_true rfl⟩) hS (fun q _ h => hFc q h) hFc (fun r_25 u t H_24 locs ht hvm hw_26 hB hz1 hk1 hS => ?_)
            replace hP := z_pure hP hk1
            clear hPc hDc hKc
            rcases hw_26 with ⟨rfl, hw_26⟩ | ⟨rfl, hw_26⟩
            · have hw_26 : (48 ≤ r_22.toInt ∧ r_22.toInt ≤ 57) := hw_26
              refine lv_if_eq (tgt := 145) hx hb dX10_next_130 (by decide) (fun c_27 => absurd c_27 (by decide)) (fun _ => ?_)
              refine lv_aload_n hx hb dX10_next_133 rfl (lv_at hl 0 rfl) ?_
              refine lv_iconst (v := 2) hx hb dX10_next_134 (by decide) ?_
              refine va_put (D := (dC, dI)) (ci := 10) (v := .int 2) (ty := .int) (C := RX10) (T := TX10) (N := 11) hx hb hts hiX10 tyX10 tyX10_ok nmX10 hown hK hP hD hS 0 rfl rfl 7 (by decide) w__fieldLink_RX10_35_ShellHeap_Tape_sort_I_ (fun _ h9 => h9) rfl (by decide +kernel) rfl rfl (Nat.le_of_ble_eq_true rfl) dX10_next_135 (fun H_28 locs hP hD hS => ?_)
              obtain ⟨hP, hD⟩ := z_s_0_7 hP hD
              refine lv_aload_n hx hb dX10_next_138 rfl (lv_at hl 0 rfl) ?_
              have hPc := hP
              have hDc := hD
              have hKc := hK
              have hFc := z_freeI hD hS hA
              refine va_callv (va_runV (As := []) (rest := []) ⟨hx, hb, hml, hown, hts⟩ (s_X10_passDigits l dC dI H_28.size h0 h1 tt v_4 (.int tj) (.int tf) (.int v_4) (.int te) (.int 2) (.int (-1)) (.int tx) (.int ty) ch1 fh1 hB_tt hF_5 hI_h1) (cwV 0 hts gw_s_X10_next_s_X10_passDigits_61 rfl rfl rfl (by decide +kernel) ⟨Nat.le_of_ble_eq_true rfl, Nat.le_of_ble_eq_true rfl⟩) ⟨z_blind, va_recv hKc hPc (ci := 10) (q0 := 0) rfl rfl, z_pre hPc hKc hDc⟩ rfl rfl hl.1 rfl (lv_room (Nat.le_of_ble_eq_true rfl)) dX10_next_139 ⟨Nat.le_of_ble_eq_true rfl, Nat.le_of_ble_eq_true rfl⟩) hS (fun q _ h => hFc q h) hFc (fun u t H_29 locs ht hvm hw_31 hB hz1 hk1 hS => ?_)
              obtain ⟨n_h0_at_32, hp_33, hP1, hK1, hD1⟩ := hB
              rw [ht] at hP1
              have hK1 := va_K.moved hvm.symm hK1
              obtain ⟨hP, hD⟩ := z_ap_0 (va_join (wr := []) hP hD [0, 1] [] rfl rfl (by decide) (by decide) hk1 hFc hP1 hD1)
              clear hPc hDc hKc
              refine lv_goto (tgt := 154) hx hb dX10_next_142 (by decide) ?_
              refine lv_aload_n hx hb dX10_next_154 rfl (lv_at hl 0 rfl) ?_
              refine lv_aload_n hx hb dX10_next_155 rfl (lv_at hl 0 rfl) ?_
              refine va_get (D := (dC, dI)) (ci := 10) (v := .int n_h0_at_32) (C := RX10) (T := TX10) (N := 11) hx hb hts hiX10 hown hK hP 0 rfl rfl 2 (by decide) w__fieldLink_RX10_19_ShellHeap_Tape_at_I_ (fun _ h9 => h9) rfl dX10_next_156 ?_
              refine va_put (D := (dC, dI)) (ci := 10) (v := .int n_h0_at_32) (ty := .int) (C := RX10) (T := TX10) (N := 11) hx hb hts hiX10 tyX10 tyX10_ok nmX10 hown hK hP hD hS 0 rfl rfl 6 (by decide) w__fieldLink_RX10_32_ShellHeap_Tape_end_I_ (fun _ h9 => h9) rfl (by decide +kernel) rfl rfl (Nat.le_of_ble_eq_true rfl) dX10_next_159 (fun H_34 locs hP hD hS => ?_)
              obtain ⟨hP, hD⟩ := z_s_0_6 hP hD
              refine z_backQ hQQ ?_
              have hP9 := hP
              have hD9 := hD
              have hK9 := hK.sub (tys' := []) [] rfl
              refine W.widen (k := 0) (n := 0) (Nat.le_of_ble_eq_true rfl) (Nat.le_of_ble_eq_true rfl) ?_
              exact W.vret hx hb hr (fun t ht hW => ⟨⟨(), rfl, trivial, ⟨n_h0_at_32, v_4, n_h0_at_32, 2, (-1), hp_33, hF_5, hp_33, by rw [ht]; exact hP9, va_K.moved hW.alike hK9, hD9⟩⟩, hS.F ht⟩) hS.2.2 dX10_next_162
            · have hw_26 : True := hw_26
              refine lv_if_eq (tgt := 145) hx hb dX10_next_130 (by decide) (fun _ => ?_) (fun c_35 => absurd (by decide) c_35)
              refine lv_aload_n hx hb dX10_next_145 rfl (lv_at hl 0 rfl) ?_
              refine lv_iconst (v := 3) hx hb dX10_next_146 (by decide) ?_
              refine va_put (D := (dC, dI)) (ci := 10) (v := .int 3) (ty := .int) (C := RX10) (T := TX10) (N := 11) hx hb hts hiX10 tyX10 tyX10_ok nmX10 hown hK hP hD hS 0 rfl rfl 7 (by decide) w__fieldLink_RX10_35_ShellHeap_Tape_sort_I_ (fun _ h9 => h9) rfl (by decide +kernel) rfl rfl (Nat.le_of_ble_eq_true rfl) dX10_next_147 (fun H_36 locs hP hD hS => ?_)
              obtain ⟨hP, hD⟩ := z_s_0_7 hP hD
              refine lv_aload_n hx hb dX10_next_150 rfl (lv_at hl 0 rfl) ?_
              have hPc := hP
              have hDc := hD
              have hKc := hK
              have hFc := z_freeI hD hS hA
              refine va_callv (va_runV (As := []) (rest := []) ⟨hx, hb, hml, hown, hts⟩ (s_X10_passSign l dC dI H_36.size h0 h1 tt v_4 (.int tj) (.int tf) (.int v_4) (.int te) (.int 3) (-1) (.int tx) (.int ty) ch1 fh1 hB_tt hF_5 hI_h1 (by first | omega | decide)) (cwV 0 hts gw_s_X10_next_s_X10_passSign_67 rfl rfl rfl (by decide +kernel) ⟨Nat.le_of_ble_eq_true rfl, Nat.le_of_ble_eq_true rfl⟩) ⟨z_blind, va_recv hKc hPc (ci := 10) (q0 := 0) rfl rfl, z_pre hPc hKc hDc⟩ rfl rfl hl.1 rfl (lv_room (Nat.le_of_ble_eq_true rfl)) dX10_next_151 ⟨Nat.le_of_ble_eq_true rfl, Nat.le_of_ble_eq_true rfl⟩) hS (fun q _ h => hFc q h) hFc (fun u t H_37 locs ht hvm hw_39 hB hz1 hk1 hS => ?_)
              obtain ⟨n_h0_at_40, n_h0_sign_41, hp_42, hP1, hK1, hD1⟩ := hB
              rw [ht] at hP1
              have hK1 := va_K.moved hvm.symm hK1
              obtain ⟨hP, hD⟩ := z_ap_0 (va_join (wr := []) hP hD [0, 1] [] rfl rfl (by decide) (by decide) hk1 hFc hP1 hD1)
              clear hPc hDc hKc
              refine lv_aload_n hx hb dX10_next_154 rfl (lv_at hl 0 rfl) ?_
              refine lv_aload_n hx hb dX10_next_155 rfl (lv_at hl 0 rfl) ?_
              refine va_get (D := (dC, dI)) (ci := 10) (v := .int n_h0_at_40) (C := RX10) (T := TX10) (N := 11) hx hb hts hiX10 hown hK hP 0 rfl rfl 2 (by decide) w__fieldLink_RX10_19_ShellHeap_Tape_at_I_ (fun _ h9 => h9) rfl dX10_next_156 ?_
              refine va_put (D := (dC, dI)) (ci := 10) (v := .int n_h0_at_40) (ty := .int) (C := RX10) (T := TX10) (N := 11) hx hb hts hiX10 tyX10 tyX10_ok nmX10 hown hK hP hD hS 0 rfl rfl 6 (by decide) w__fieldLink_RX10_32_ShellHeap_Tape_end_I_ (fun _ h9 => h9) rfl (by decide +kernel) rfl rfl (Nat.le_of_ble_eq_true rfl) dX10_next_159 (fun H_43 locs hP hD hS => ?_)
              obtain ⟨hP, hD⟩ := z_s_0_6 hP hD
              refine z_backQ hQQ ?_
              have hP9 := hP
              have hD9 := hD
              have hK9 := hK.sub (tys' := []) [] rfl
              refine W.widen (k := 0) (n := 0) (Nat.le_of_ble_eq_true rfl) (Nat.le_of_ble_eq_true rfl) ?_
              exact W.vret hx hb hr (fun t ht hW => ⟨⟨(), rfl, trivial, ⟨n_h0_at_40, v_4, n_h0_at_40, 3, n_h0_sign_41, hp_42, hF_5, hp_42, by rw [ht]; exact hP9, va_K.moved hW.alike hK9, hD9⟩⟩, hS.F ht⟩) hS.2.2 dX10_next_162
          · have k_44 : (r_16).toInt ≠ (0 : Int) := z_ne c_18
            obtain rfl : r_16 = 1 := z_eq' (show (r_16).toInt = (1 : Int) by omega)
            refine lv_aload_n hx hb dX10_next_96 rfl (lv_at hl 0 rfl) ?_
            refine lv_iconst (v := 1) hx hb dX10_next_97 (by decide) ?_
            refine va_put (D := (dC, dI)) (ci := 10) (v := .int 1) (ty := .int) (C := RX10) (T := TX10) (N := 11) hx hb hts hiX10 tyX10 tyX10_ok nmX10 hown hK hP hD hS 0 rfl rfl 7 (by decide) w__fieldLink_RX10_35_ShellHeap_Tape_sort_I_ (fun _ h9 => h9) rfl (by decide +kernel) rfl rfl (Nat.le_of_ble_eq_true rfl) dX10_next_98 (fun H_46 locs hP hD hS => ?_)
            obtain ⟨hP, hD⟩ := z_s_0_7 hP hD
            refine lv_aload_n hx hb dX10_next_101 rfl (lv_at hl 0 rfl) ?_
            have hPc := hP
            have hDc := hD
            have hKc := hK
            have hFc := z_freeI hD hS hA
            refine va_callv (va_runV (As := []) (rest := []) ⟨hx, hb, hml, hown, hts⟩ (s_X10_passLetters l dC dI H_46.size h0 h1 tt v_4 (.int tj) (.int tf) (.int v_4) (.int te) (.int 1) (.int (-1)) (.int tx) (.int ty) ch1 fh1 hB_tt hF_5 hI_h1) (cwV 0 hts gw_s_X10_next_s_X10_passLetters_58 rfl rfl rfl (by decide +kernel) ⟨Nat.le_of_ble_eq_true rfl, Nat.le_of_ble_eq_true rfl⟩) ⟨z_blind, va_recv hKc hPc (ci := 10) (q0 := 0) rfl rfl, z_pre hPc hKc hDc⟩ rfl rfl hl.1 rfl (lv_room (Nat.le_of_ble_eq_true rfl)) dX10_next_102 ⟨Nat.le_of_ble_eq_true rfl, Nat.le_of_ble_eq_true rfl⟩) hS (fun q _ h => hFc q h) hFc (fun u t H_47 locs ht hvm hw_49 hB hz1 hk1 hS => ?_)
            obtain ⟨n_h0_at_50, hp_51, hP1, hK1, hD1⟩ := hB
            rw [ht] at hP1
            have hK1 := va_K.moved hvm.symm hK1
            obtain ⟨hP, hD⟩ := z_ap_0 (va_join (wr := []) hP hD [0, 1] [] rfl rfl (by decide) (by decide) hk1 hFc hP1 hD1)
            clear hPc hDc hKc
            refine lv_aload_n hx hb dX10_next_105 rfl (lv_at hl 0 rfl) ?_
            refine va_get (D := (dC, dI)) (ci := 10) (v := .int tj) (C := RX10) (T := TX10) (N := 11) hx hb hts hiX10 hown hK hP 0 rfl rfl 3 (by decide) w__fieldLink_RX10_22_ShellHeap_Tape_digitsJoin_Z_ (fun _ h9 => h9) rfl dX10_next_106 ?_
            refine lv_if_eq (tgt := 154) hx hb dX10_next_109 (by decide) (fun c_52 => ?_) (fun c_52 => ?_)
            · have k_53 : (tj).toInt = (0 : Int) := z_eq c_52
              obtain rfl : tj = 0 := z_eq' (show (tj).toInt = (0 : Int) by omega)
              refine lv_aload_n hx hb dX10_next_154 rfl (lv_at hl 0 rfl) ?_
              refine lv_aload_n hx hb dX10_next_155 rfl (lv_at hl 0 rfl) ?_
              refine va_get (D := (dC, dI)) (ci := 10) (v := .int n_h0_at_50) (C := RX10) (T := TX10) (N := 11) hx hb hts hiX10 hown hK hP 0 rfl rfl 2 (by decide) w__fieldLink_RX10_19_ShellHeap_Tape_at_I_ (fun _ h9 => h9) rfl dX10_next_156 ?_
              refine va_put (D := (dC, dI)) (ci := 10) (v := .int n_h0_at_50) (ty := .int) (C := RX10) (T := TX10) (N := 11) hx hb hts hiX10 tyX10 tyX10_ok nmX10 hown hK hP hD hS 0 rfl rfl 6 (by decide) w__fieldLink_RX10_32_ShellHeap_Tape_end_I_ (fun _ h9 => h9) rfl (by decide +kernel) rfl rfl (Nat.le_of_ble_eq_true rfl) dX10_next_159 (fun H_55 locs hP hD hS => ?_)
              obtain ⟨hP, hD⟩ := z_s_0_6 hP hD
              refine z_backQ hQQ ?_
              have hP9 := hP
              have hD9 := hD
              have hK9 := hK.sub (tys' := []) [] rfl
              refine W.widen (k := 0) (n := 0) (Nat.le_of_ble_eq_true rfl) (Nat.le_of_ble_eq_true rfl) ?_
              exact W.vret hx hb hr (fun t ht hW => ⟨⟨(), rfl, trivial, ⟨n_h0_at_50, v_4, n_h0_at_50, 1, (-1), hp_51, hF_5, hp_51, by rw [ht]; exact hP9, va_K.moved hW.alike hK9, hD9⟩⟩, hS.F ht⟩) hS.2.2 dX10_next_162
            · have k_56 : (tj).toInt ≠ (0 : Int) := z_ne c_52
              refine lv_aload_n hx hb dX10_next_112 rfl (lv_at hl 0 rfl) ?_
              have hPc := hP
              have hDc := hD
              have hKc := hK
              have hFc := z_freeI hD hS hA
              refine va_callv (va_runV (As := []) (rest := []) ⟨hx, hb, hml, hown, hts⟩ (s_X10_passDigits l dC dI H_47.size h0 h1 tt n_h0_at_50 (.int tj) (.int tf) (.int v_4) (.int te) (.int 1) (.int (-1)) (.int tx) (.int ty) ch1 fh1 hB_tt hp_51 hI_h1) (cwV 0 hts gw_s_X10_next_s_X10_passDigits_61 rfl rfl rfl (by decide +kernel) ⟨Nat.le_of_ble_eq_true rfl, Nat.le_of_ble_eq_true rfl⟩) ⟨z_blind, va_recv hKc hPc (ci := 10) (q0 := 0) rfl rfl, z_pre hPc hKc hDc⟩ rfl rfl hl.1 rfl (lv_room (Nat.le_of_ble_eq_true rfl)) dX10_next_113 ⟨Nat.le_of_ble_eq_true rfl, Nat.le_of_ble_eq_true rfl⟩) hS (fun q _ h => hFc q h) hFc (fun u t H_57 locs ht hvm hw_59 hB hz1 hk1 hS => ?_)
              obtain ⟨n_h0_at_60, hp_61, hP1, hK1, hD1⟩ := hB
              rw [ht] at hP1
              have hK1 := va_K.moved hvm.symm hK1
              obtain ⟨hP, hD⟩ := z_ap_0 (va_join (wr := []) hP hD [0, 1] [] rfl rfl (by decide) (by decide) hk1 hFc hP1 hD1)
              clear hPc hDc hKc
              refine lv_goto (tgt := 154) hx hb dX10_next_116 (by decide) ?_
              refine lv_aload_n hx hb dX10_next_154 rfl (lv_at hl 0 rfl) ?_
              refine lv_aload_n hx hb dX10_next_155 rfl (lv_at hl 0 rfl) ?_
              refine va_get (D := (dC, dI)) (ci := 10) (v := .int n_h0_at_60) (C := RX10) (T := TX10) (N := 11) hx hb hts hiX10 hown hK hP 0 rfl rfl 2 (by decide) w__fieldLink_RX10_19_ShellHeap_Tape_at_I_ (fun _ h9 => h9) rfl dX10_next_156 ?_
              refine va_put (D := (dC, dI)) (ci := 10) (v := .int n_h0_at_60) (ty := .int) (C := RX10) (T := TX10) (N := 11) hx hb hts hiX10 tyX10 tyX10_ok nmX10 hown hK hP hD hS 0 rfl rfl 6 (by decide) w__fieldLink_RX10_32_ShellHeap_Tape_end_I_ (fun _ h9 => h9) rfl (by decide +kernel) rfl rfl (Nat.le_of_ble_eq_true rfl) dX10_next_159 (fun H_62 locs hP hD hS => ?_)
              obtain ⟨hP, hD⟩ := z_s_0_6 hP hD
              refine z_backQ hQQ ?_
              have hP9 := hP
              have hD9 := hD
              have hK9 := hK.sub (tys' := []) [] rfl
              refine W.widen (k := 0) (n := 0) (Nat.le_of_ble_eq_true rfl) (Nat.le_of_ble_eq_true rfl) ?_
              exact W.vret hx hb hr (fun t ht hW => ⟨⟨(), rfl, trivial, ⟨n_h0_at_60, v_4, n_h0_at_60, 1, (-1), hp_61, hF_5, hp_61, by rw [ht]; exact hP9, va_K.moved hW.alike hK9, hD9⟩⟩, hS.F ht⟩) hS.2.2 dX10_next_162
        · have k_63 : (v_4).toInt ≥ (tt).toInt := z_nlt c_10
          refine lv_aload_n hx hb dX10_next_74 rfl (lv_at hl 0 rfl) ?_
          refine lv_iconst (v := 0) hx hb dX10_next_75 (by decide) ?_
          refine va_put (D := (dC, dI)) (ci := 10) (v := .int 0) (ty := .int) (C := RX10) (T := TX10) (N := 11) hx hb hts hiX10 tyX10 tyX10_ok nmX10 hown hK hP hD hS 0 rfl rfl 7 (by decide) w__fieldLink_RX10_35_ShellHeap_Tape_sort_I_ (fun _ h9 => h9) rfl (by decide +kernel) rfl rfl (Nat.le_of_ble_eq_true rfl) dX10_next_76 (fun H_64 locs hP hD hS => ?_)
          obtain ⟨hP, hD⟩ := z_s_0_7 hP hD
          refine lv_goto (tgt := 154) hx hb dX10_next_79 (by decide) ?_
          refine lv_aload_n hx hb dX10_next_154 rfl (lv_at hl 0 rfl) ?_
          refine lv_aload_n hx hb dX10_next_155 rfl (lv_at hl 0 rfl) ?_
          refine va_get (D := (dC, dI)) (ci := 10) (v := .int v_4) (C := RX10) (T := TX10) (N := 11) hx hb hts hiX10 hown hK hP 0 rfl rfl 2 (by decide) w__fieldLink_RX10_19_ShellHeap_Tape_at_I_ (fun _ h9 => h9) rfl dX10_next_156 ?_
          refine va_put (D := (dC, dI)) (ci := 10) (v := .int v_4) (ty := .int) (C := RX10) (T := TX10) (N := 11) hx hb hts hiX10 tyX10 tyX10_ok nmX10 hown hK hP hD hS 0 rfl rfl 6 (by decide) w__fieldLink_RX10_32_ShellHeap_Tape_end_I_ (fun _ h9 => h9) rfl (by decide +kernel) rfl rfl (Nat.le_of_ble_eq_true rfl) dX10_next_159 (fun H_65 locs hP hD hS => ?_)
          obtain ⟨hP, hD⟩ := z_s_0_6 hP hD
          refine z_backQ hQQ ?_
          have hP9 := hP
          have hD9 := hD
          have hK9 := hK.sub (tys' := []) [] rfl
          refine W.widen (k := 0) (n := 0) (Nat.le_of_ble_eq_true rfl) (Nat.le_of_ble_eq_true rfl) ?_
          exact W.vret hx hb hr (fun t ht hW => ⟨⟨(), rfl, trivial, ⟨v_4, v_4, v_4, 0, (-1), hF_5, hF_5, hF_5, by rw [ht]; exact hP9, va_K.moved hW.alike hK9, hD9⟩⟩, hS.F ht⟩) hS.2.2 dX10_next_162
      · have k_66 : (tt).toInt > (v_4).toInt := z_nle c_6
        refine lv_aload_n hx hb dX10_next_11 rfl (lv_at hl 0 rfl) ?_
        refine lv_aload_n hx hb dX10_next_12 rfl (lv_at hl 0 rfl) ?_
        refine va_get (D := (dC, dI)) (ci := 10) (v := .int v_4) (C := RX10) (T := TX10) (N := 11) hx hb hts hiX10 hown hK hP 0 rfl rfl 2 (by decide) w__fieldLink_RX10_19_ShellHeap_Tape_at_I_ (fun _ h9 => h9) rfl dX10_next_13 ?_
        have hPc := hP
        have hDc := hD
        have hKc := hK
        have hFc := va_free (ws := []) (wc := []) (z_D0 _) hS hA [] rfl
        refine va_calli (va_runV (As := [.int v_4]) (rest := []) ⟨hx, hb, hml, hown, hts⟩ (s_X10_byteAt l dC dI H.size h0 v_4 h1 tt (.int v_4) (.int tj) (.int tf) (.int ts) (.int te) (.int to) (.int tg) (.int tx) (.int ty) ch1 fh1 hB_tt hI_h1) (cwV 1 hts gw_s_X10_next_s_X10_byteAt_50 rfl rfl rfl (by decide +kernel) ⟨Nat.le_of_ble_eq_true rfl, Nat.le_of_ble_eq_true rfl⟩) ⟨z_blind, va_recv hKc hPc (ci := 10) (q0 := 0) rfl rfl, z_pre hPc hKc hDc⟩ rfl rfl hl.1 rfl (lv_room (Nat.le_of_ble_eq_true rfl)) dX10_next_16 ⟨Nat.le_of_ble_eq_true rfl, Nat.le_of_ble_eq_true rfl⟩) hS (fun q _ h => hFc q h) hFc (fun r_68 u t H_67 locs ht hvm hw_69 hB hz1 hk1 hS => ?_)
        replace hP := z_pure hP hk1
        clear hPc hDc hKc
        refine lv_bipush (v := 10) hx hb dX10_next_19 (by decide) ?_
        refine lv_icmp_eq (tgt := 37) hx hb dX10_next_21 (by decide) (fun c_70 => ?_) (fun c_70 => ?_)
        · have k_71 : (r_68).toInt = (10 : Int) := z_eq c_70
          obtain rfl : r_68 = 10 := z_eq' (show (r_68).toInt = (10 : Int) by omega)
          refine lv_aload_n hx hb dX10_next_37 rfl (lv_at hl 0 rfl) ?_
          refine lv_dup hx hb dX10_next_38 rfl ?_
          refine va_get (D := (dC, dI)) (ci := 10) (v := .int v_4) (C := RX10) (T := TX10) (N := 11) hx hb hts hiX10 hown hK hP 0 rfl rfl 2 (by decide) w__fieldLink_RX10_19_ShellHeap_Tape_at_I_ (fun _ h9 => h9) rfl dX10_next_39 ?_
          refine lv_iconst (v := 1) hx hb dX10_next_42 (by decide) ?_
          refine lv_iadd hx hb dX10_next_43 ?_
          refine lv_topi (fun z_73 ez_73 => ?_)
          have kz_73 : (z_73).toInt = (v_4).toInt + (1 : Int) := by rw [ez_73]; exact z_add (a := (v_4).toInt) (b := (1 : Int)) rfl rfl (z_al hF_5.1 (by decide)) (z_ah hF_5.2 (by decide))
          refine va_put (D := (dC, dI)) (ci := 10) (v := .int z_73) (ty := .int) (C := RX10) (T := TX10) (N := 11) hx hb hts hiX10 tyX10 tyX10_ok nmX10 hown hK hP hD hS 0 rfl rfl 2 (by decide) w__fieldLink_RX10_19_ShellHeap_Tape_at_I_ (fun _ h9 => h9) rfl (by decide +kernel) rfl rfl (Nat.le_of_ble_eq_true rfl) dX10_next_44 (fun H_74 locs hP hD hS => ?_)
          obtain ⟨hP, hD⟩ := z_s_0_2 hP hD
          refine lv_goto (tgt := 0) hx hb dX10_next_47 (by decide) ?_
          exact ih_3 z_73 _ _ _ (show (701 - (z_73).toInt).toNat < n_2 by omega) (show ((0 : Int) ≤ (z_73).toInt ∧ (z_73).toInt ≤ (700 : Int)) by omega) hP hD hS (lv_sub hl [0] rfl)
        · have k_75 : (r_68).toInt ≠ (10 : Int) := z_ne c_70
          refine lv_aload_n hx hb dX10_next_24 rfl (lv_at hl 0 rfl) ?_
          refine lv_aload_n hx hb dX10_next_25 rfl (lv_at hl 0 rfl) ?_
          refine va_get (D := (dC, dI)) (ci := 10) (v := .int v_4) (C := RX10) (T := TX10) (N := 11) hx hb hts hiX10 hown hK hP 0 rfl rfl 2 (by decide) w__fieldLink_RX10_19_ShellHeap_Tape_at_I_ (fun _ h9 => h9) rfl dX10_next_26 ?_
          have hPc := hP
          have hDc := hD
          have hKc := hK
          have hFc := va_free (ws := []) (wc := []) (z_D0 _) hS hA [] rfl
          refine va_calli (va_runV (As := [.int v_4]) (rest := []) ⟨hx, hb, hml, hown, hts⟩ (s_X10_byteAt l dC dI H_67.size h0 v_4 h1 tt (.int v_4) (.int tj) (.int tf) (.int ts) (.int te) (.int to) (.int tg) (.int tx) (.int ty) ch1 fh1 hB_tt hI_h1) (cwV 1 hts gw_s_X10_next_s_X10_byteAt_50 rfl rfl rfl (by decide +kernel) ⟨Nat.le_of_ble_eq_true rfl, Nat.le_of_ble_eq_true rfl⟩) ⟨z_blind, va_recv hKc hPc (ci := 10) (q0 := 0) rfl rfl, z_pre hPc hKc hDc⟩ rfl rfl hl.1 rfl (lv_room (Nat.le_of_ble_eq_true rfl)) dX10_next_29 ⟨Nat.le_of_ble_eq_true rfl, Nat.le_of_ble_eq_true rfl⟩) hS (fun q _ h => hFc q h) hFc (fun r_77 u t H_76 locs ht hvm hw_78 hB hz1 hk1 hS => ?_)
          replace hP := z_pure hP hk1
          clear hPc hDc hKc
          refine lv_bipush (v := 32) hx hb dX10_next_32 (by decide) ?_
          refine lv_icmp_ne (tgt := 50) hx hb dX10_next_34 (by decide) (fun c_79 => ?_) (fun c_79 => ?_)
          · have k_80 : (r_77).toInt ≠ (32 : Int) := z_ne c_79
            refine lv_aload_n hx hb dX10_next_50 rfl (lv_at hl 0 rfl) ?_
            refine lv_aload_n hx hb dX10_next_51 rfl (lv_at hl 0 rfl) ?_
            refine va_get (D := (dC, dI)) (ci := 10) (v := .int v_4) (C := RX10) (T := TX10) (N := 11) hx hb hts hiX10 hown hK hP 0 rfl rfl 2 (by decide) w__fieldLink_RX10_19_ShellHeap_Tape_at_I_ (fun _ h9 => h9) rfl dX10_next_52 ?_
            refine va_put (D := (dC, dI)) (ci := 10) (v := .int v_4) (ty := .int) (C := RX10) (T := TX10) (N := 11) hx hb hts hiX10 tyX10 tyX10_ok nmX10 hown hK hP hD hS 0 rfl rfl 5 (by decide) w__fieldLink_RX10_29_ShellHeap_Tape_start_I_ (fun _ h9 => h9) rfl (by decide +kernel) rfl rfl (Nat.le_of_ble_eq_true rfl) dX10_next_55 (fun H_81 locs hP hD hS => ?_)
            obtain ⟨hP, hD⟩ := z_s_0_5 hP hD
            refine lv_aload_n hx hb dX10_next_58 rfl (lv_at hl 0 rfl) ?_
            refine lv_iconst (v := (-1)) hx hb dX10_next_59 (by decide) ?_
            refine va_put (D := (dC, dI)) (ci := 10) (v := .int (-1)) (ty := .int) (C := RX10) (T := TX10) (N := 11) hx hb hts hiX10 tyX10 tyX10_ok nmX10 hown hK hP hD hS 0 rfl rfl 8 (by decide) w__fieldLink_RX10_38_ShellHeap_Tape_sign_I_ (fun _ h9 => h9) rfl (by decide +kernel) rfl rfl (Nat.le_of_ble_eq_true rfl) dX10_next_60 (fun H_82 locs hP hD hS => ?_)
            obtain ⟨hP, hD⟩ := z_s_0_8 hP hD
            refine lv_aload_n hx hb dX10_next_63 rfl (lv_at hl 0 rfl) ?_
            refine va_get (D := (dC, dI)) (ci := 10) (v := .int v_4) (C := RX10) (T := TX10) (N := 11) hx hb hts hiX10 hown hK hP 0 rfl rfl 2 (by decide) w__fieldLink_RX10_19_ShellHeap_Tape_at_I_ (fun _ h9 => h9) rfl dX10_next_64 ?_
            refine lv_aload_n hx hb dX10_next_67 rfl (lv_at hl 0 rfl) ?_
            refine va_get (D := (dC, dI)) (ci := 10) (v := .int tt) (C := RX10) (T := TX10) (N := 11) hx hb hts hiX10 hown hK hP 0 rfl rfl 1 (by decide) w__fieldLink_RX10_15_ShellHeap_Tape_text_I_ (fun _ h9 => h9) rfl dX10_next_68 ?_
            refine lv_icmp_lt (tgt := 82) hx hb dX10_next_71 (by decide) (fun c_83 => ?_) (fun c_83 => ?_)
            · have k_84 : (v_4).toInt < (tt).toInt := z_lt c_83
              refine lv_aload_n hx hb dX10_next_82 rfl (lv_at hl 0 rfl) ?_
              refine lv_aload_n hx hb dX10_next_83 rfl (lv_at hl 0 rfl) ?_
              refine va_get (D := (dC, dI)) (ci := 10) (v := .int v_4) (C := RX10) (T := TX10) (N := 11) hx hb hts hiX10 hown hK hP 0 rfl rfl 2 (by decide) w__fieldLink_RX10_19_ShellHeap_Tape_at_I_ (fun _ h9 => h9) rfl dX10_next_84 ?_
              have hPc := hP
              have hDc := hD
              have hKc := hK
              have hFc := va_free (ws := []) (wc := []) (z_D0 _) hS hA [] rfl
              refine va_calli (va_runV (As := [.int v_4]) (rest := []) ⟨hx, hb, hml, hown, hts⟩ (s_X10_byteAt l dC dI H_82.size h0 v_4 h1 tt (.int v_4) (.int tj) (.int tf) (.int v_4) (.int te) (.int to) (.int (-1)) (.int tx) (.int ty) ch1 fh1 hB_tt hI_h1) (cwV 1 hts gw_s_X10_next_s_X10_byteAt_50 rfl rfl rfl (by decide +kernel) ⟨Nat.le_of_ble_eq_true rfl, Nat.le_of_ble_eq_true rfl⟩) ⟨z_blind, va_recv hKc hPc (ci := 10) (q0 := 0) rfl rfl, z_pre hPc hKc hDc⟩ rfl rfl hl.1 rfl (lv_room (Nat.le_of_ble_eq_true rfl)) dX10_next_87 ⟨Nat.le_of_ble_eq_true rfl, Nat.le_of_ble_eq_true rfl⟩) hS (fun q _ h => hFc q h) hFc (fun r_86 u t H_85 locs ht hvm hw_87 hB hz1 hk1 hS => ?_)
              replace hP := z_pure hP hk1
              clear hPc hDc hKc
              obtain ⟨hPc, hDc⟩ := z_sub2 (ws' := []) hP hD [] (by decide) rfl
              have hKc := hK.sub (tys' := []) [] rfl
              have hFc := va_free (ws := []) (wc := []) (z_D0 _) hS hA [] rfl
              refine va_calli (va_runS (As := [.int r_86]) (rest := []) ⟨hx, hb, hml, hown, hts⟩ (s_X10_isLetter l dC dI H_85.size r_86) (va_cwS 1 hts gw_s_X10_next_s_X10_isLetter_54 rfl rfl rfl (by decide +kernel) ⟨Nat.le_of_ble_eq_true rfl, Nat.le_of_ble_eq_true rfl⟩) ⟨z_blind, z_pre hPc hKc hDc⟩ rfl rfl hl.1 rfl (lv_room (Nat.le_of_ble_eq_true rfl)) dX10_next_90 ⟨Nat.le_of_ble_eq_true rfl, Nat.le_of_ble_eq_true rfl⟩) hS (fun q _ h => hFc q h) hFc (fun r_89 u t H_88 locs ht hvm hw_90 hB hz1 hk1 hS => ?_)
              replace hP := z_pure hP hk1
              clear hPc hDc hKc
              refine lv_if_eq (tgt := 119) hx hb dX10_next_93 (by decide) (fun c_91 => ?_) (fun c_91 => ?_)
              · have k_92 : (r_89).toInt = (0 : Int) := z_eq c_91
                obtain rfl : r_89 = 0 := z_eq' (show (r_89).toInt = (0 : Int) by omega)
                refine lv_aload_n hx hb dX10_next_119 rfl (lv_at hl 0 rfl) ?_
                refine lv_aload_n hx hb dX10_next_120 rfl (lv_at hl 0 rfl) ?_
                refine va_get (D := (dC, dI)) (ci := 10) (v := .int v_4) (C := RX10) (T := TX10) (N := 11) hx hb hts hiX10 hown hK hP 0 rfl rfl 2 (by decide) w__fieldLink_RX10_19_ShellHeap_Tape_at_I_ (fun _ h9 => h9) rfl dX10_next_121 ?_
                have hPc := hP
                have hDc := hD
                have hKc := hK
                have hFc := va_free (ws := []) (wc := []) (z_D0 _) hS hA [] rfl
                refine va_calli (va_runV (As := [.int v_4]) (rest := []) ⟨hx, hb, hml, hown, hts⟩ (s_X10_byteAt l dC dI H_88.size h0 v_4 h1 tt (.int v_4) (.int tj) (.int tf) (.int v_4) (.int te) (.int to) (.int (-1)) (.int tx) (.int ty) ch1 fh1 hB_tt hI_h1) (cwV 1 hts gw_s_X10_next_s_X10_byteAt_50 rfl rfl rfl (by decide +kernel) ⟨Nat.le_of_ble_eq_true rfl, Nat.le_of_ble_eq_true rfl⟩) ⟨z_blind, va_recv hKc hPc (ci := 10) (q0 := 0) rfl rfl, z_pre hPc hKc hDc⟩ rfl rfl hl.1 rfl (lv_room (Nat.le_of_ble_eq_true rfl)) dX10_next_124 ⟨Nat.le_of_ble_eq_true rfl, Nat.le_of_ble_eq_true rfl⟩) hS (fun q _ h => hFc q h) hFc (fun r_95 u t H_94 locs ht hvm hw_96 hB hz1 hk1 hS => ?_)
                replace hP := z_pure hP hk1
                clear hPc hDc hKc
                obtain ⟨hPc, hDc⟩ := z_sub2 (ws' := []) hP hD [] (by decide) rfl
                have hKc := hK.sub (tys' := []) [] rfl
                have hFc := va_free (ws := []) (wc := []) (z_D0 _) hS hA [] rfl
                refine va_calli (va_runS (As := [.int r_95]) (rest := []) ⟨hx, hb, hml, hown, hts⟩ (s_X10_isDigit l dC dI H_94.size r_95) (va_cwS 1 hts gw_s_X10_next_s_X10_isDigit_64 rfl rfl rfl (by decide +kernel) ⟨Nat.le_of_ble_eq_true rfl, Nat.le_of_ble_eq_true rfl⟩) ⟨z_blind, z_pre hPc hKc hDc⟩ rfl rfl hl.1 rfl (lv_room (Nat.le_of_ble_eq_true rfl)) dX10_next_127 ⟨Nat.le_of_ble_eq_true rfl, Nat.le_of_ble_eq_true rfl⟩) hS (fun q _ h => hFc q h) hFc (fun r_98 u t H_97 locs ht hvm hw_99 hB hz1 hk1 hS => ?_)
                replace hP := z_pure hP hk1
                clear hPc hDc hKc
                rcases hw_99 with ⟨rfl, hw_99⟩ | ⟨rfl, hw_99⟩
                · have hw_99 : (48 ≤ r_95.toInt ∧ r_95.toInt ≤ 57) := hw_99
                  refine lv_if_eq (tgt := 145) hx hb dX10_next_130 (by decide) (fun c_100 => absurd c_100 (by decide)) (fun _ => ?_)
                  refine lv_aload_n hx hb dX10_next_133 rfl (lv_at hl 0 rfl) ?_
                  refine lv_iconst (v := 2) hx hb dX10_next_134 (by decide) ?_
                  refine va_put (D := (dC, dI)) (ci := 10) (v := .int 2) (ty := .int) (C := RX10) (T := TX10) (N := 11) hx hb hts hiX10 tyX10 tyX10_ok nmX10 hown hK hP hD hS 0 rfl rfl 7 (by decide) w__fieldLink_RX10_35_ShellHeap_Tape_sort_I_ (fun _ h9 => h9) rfl (by decide +kernel) rfl rfl (Nat.le_of_ble_eq_true rfl) dX10_next_135 (fun H_101 locs hP hD hS => ?_)
                  obtain ⟨hP, hD⟩ := z_s_0_7 hP hD
                  refine lv_aload_n hx hb dX10_next_138 rfl (lv_at hl 0 rfl) ?_
                  have hPc := hP
                  have hDc := hD
                  have hKc := hK
                  have hFc := z_freeI hD hS hA
                  refine va_callv (va_runV (As := []) (rest := []) ⟨hx, hb, hml, hown, hts⟩ (s_X10_passDigits l dC dI H_101.size h0 h1 tt v_4 (.int tj) (.int tf) (.int v_4) (.int te) (.int 2) (.int (-1)) (.int tx) (.int ty) ch1 fh1 hB_tt hF_5 hI_h1) (cwV 0 hts gw_s_X10_next_s_X10_passDigits_61 rfl rfl rfl (by decide +kernel) ⟨Nat.le_of_ble_eq_true rfl, Nat.le_of_ble_eq_true rfl⟩) ⟨z_blind, va_recv hKc hPc (ci := 10) (q0 := 0) rfl rfl, z_pre hPc hKc hDc⟩ rfl rfl hl.1 rfl (lv_room (Nat.le_of_ble_eq_true rfl)) dX10_next_139 ⟨Nat.le_of_ble_eq_true rfl, Nat.le_of_ble_eq_true rfl⟩) hS (fun q _ h => hFc q h) hFc (fun u t H_102 locs ht hvm hw_104 hB hz1 hk1 hS => ?_)
                  obtain ⟨n_h0_at_105, hp_106, hP1, hK1, hD1⟩ := hB
                  rw [ht] at hP1
                  have hK1 := va_K.moved hvm.symm hK1
                  obtain ⟨hP, hD⟩ := z_ap_0 (va_join (wr := []) hP hD [0, 1] [] rfl rfl (by decide) (by decide) hk1 hFc hP1 hD1)
                  clear hPc hDc hKc
                  refine lv_goto (tgt := 154) hx hb dX10_next_142 (by decide) ?_
                  refine lv_aload_n hx hb dX10_next_154 rfl (lv_at hl 0 rfl) ?_
                  refine lv_aload_n hx hb dX10_next_155 rfl (lv_at hl 0 rfl) ?_
                  refine va_get (D := (dC, dI)) (ci := 10) (v := .int n_h0_at_105) (C := RX10) (T := TX10) (N := 11) hx hb hts hiX10 hown hK hP 0 rfl rfl 2 (by decide) w__fieldLink_RX10_19_ShellHeap_Tape_at_I_ (fun _ h9 => h9) rfl dX10_next_156 ?_
                  refine va_put (D := (dC, dI)) (ci := 10) (v := .int n_h0_at_105) (ty := .int) (C := RX10) (T := TX10) (N := 11) hx hb hts hiX10 tyX10 tyX10_ok nmX10 hown hK hP hD hS 0 rfl rfl 6 (by decide) w__fieldLink_RX10_32_ShellHeap_Tape_end_I_ (fun _ h9 => h9) rfl (by decide +kernel) rfl rfl (Nat.le_of_ble_eq_true rfl) dX10_next_159 (fun H_107 locs hP hD hS => ?_)
                  obtain ⟨hP, hD⟩ := z_s_0_6 hP hD
                  refine z_backQ hQQ ?_
                  have hP9 := hP
                  have hD9 := hD
                  have hK9 := hK.sub (tys' := []) [] rfl
                  refine W.widen (k := 0) (n := 0) (Nat.le_of_ble_eq_true rfl) (Nat.le_of_ble_eq_true rfl) ?_
                  exact W.vret hx hb hr (fun t ht hW => ⟨⟨(), rfl, trivial, ⟨n_h0_at_105, v_4, n_h0_at_105, 2, (-1), hp_106, hF_5, hp_106, by rw [ht]; exact hP9, va_K.moved hW.alike hK9, hD9⟩⟩, hS.F ht⟩) hS.2.2 dX10_next_162
                · have hw_99 : True := hw_99
                  refine lv_if_eq (tgt := 145) hx hb dX10_next_130 (by decide) (fun _ => ?_) (fun c_108 => absurd (by decide) c_108)
                  refine lv_aload_n hx hb dX10_next_145 rfl (lv_at hl 0 rfl) ?_
                  refine lv_iconst (v := 3) hx hb dX10_next_146 (by decide) ?_
                  refine va_put (D := (dC, dI)) (ci := 10) (v := .int 3) (ty := .int) (C := RX10) (T := TX10) (N := 11) hx hb hts hiX10 tyX10 tyX10_ok nmX10 hown hK hP hD hS 0 rfl rfl 7 (by decide) w__fieldLink_RX10_35_ShellHeap_Tape_sort_I_ (fun _ h9 => h9) rfl (by decide +kernel) rfl rfl (Nat.le_of_ble_eq_true rfl) dX10_next_147 (fun H_109 locs hP hD hS => ?_)
                  obtain ⟨hP, hD⟩ := z_s_0_7 hP hD
                  refine lv_aload_n hx hb dX10_next_150 rfl (lv_at hl 0 rfl) ?_
                  have hPc := hP
                  have hDc := hD
                  have hKc := hK
                  have hFc := z_freeI hD hS hA
                  refine va_callv (va_runV (As := []) (rest := []) ⟨hx, hb, hml, hown, hts⟩ (s_X10_passSign l dC dI H_109.size h0 h1 tt v_4 (.int tj) (.int tf) (.int v_4) (.int te) (.int 3) (-1) (.int tx) (.int ty) ch1 fh1 hB_tt hF_5 hI_h1 (by first | omega | decide)) (cwV 0 hts gw_s_X10_next_s_X10_passSign_67 rfl rfl rfl (by decide +kernel) ⟨Nat.le_of_ble_eq_true rfl, Nat.le_of_ble_eq_true rfl⟩) ⟨z_blind, va_recv hKc hPc (ci := 10) (q0 := 0) rfl rfl, z_pre hPc hKc hDc⟩ rfl rfl hl.1 rfl (lv_room (Nat.le_of_ble_eq_true rfl)) dX10_next_151 ⟨Nat.le_of_ble_eq_true rfl, Nat.le_of_ble_eq_true rfl⟩) hS (fun q _ h => hFc q h) hFc (fun u t H_110 locs ht hvm hw_112 hB hz1 hk1 hS => ?_)
                  obtain ⟨n_h0_at_113, n_h0_sign_114, hp_115, hP1, hK1, hD1⟩ := hB
                  rw [ht] at hP1
                  have hK1 := va_K.moved hvm.symm hK1
                  obtain ⟨hP, hD⟩ := z_ap_0 (va_join (wr := []) hP hD [0, 1] [] rfl rfl (by decide) (by decide) hk1 hFc hP1 hD1)
                  clear hPc hDc hKc
                  refine lv_aload_n hx hb dX10_next_154 rfl (lv_at hl 0 rfl) ?_
                  refine lv_aload_n hx hb dX10_next_155 rfl (lv_at hl 0 rfl) ?_
                  refine va_get (D := (dC, dI)) (ci := 10) (v := .int n_h0_at_113) (C := RX10) (T := TX10) (N := 11) hx hb hts hiX10 hown hK hP 0 rfl rfl 2 (by decide) w__fieldLink_RX10_19_ShellHeap_Tape_at_I_ (fun _ h9 => h9) rfl dX10_next_156 ?_
                  refine va_put (D := (dC, dI)) (ci := 10) (v := .int n_h0_at_113) (ty := .int) (C := RX10) (T := TX10) (N := 11) hx hb hts hiX10 tyX10 tyX10_ok nmX10 hown hK hP hD hS 0 rfl rfl 6 (by decide) w__fieldLink_RX10_32_ShellHeap_Tape_end_I_ (fun _ h9 => h9) rfl (by decide +kernel) rfl rfl (Nat.le_of_ble_eq_true rfl) dX10_next_159 (fun H_116 locs hP hD hS => ?_)
                  obtain ⟨hP, hD⟩ := z_s_0_6 hP hD
                  refine z_backQ hQQ ?_
                  have hP9 := hP
                  have hD9 := hD
                  have hK9 := hK.sub (tys' := []) [] rfl
                  refine W.widen (k := 0) (n := 0) (Nat.le_of_ble_eq_true rfl) (Nat.le_of_ble_eq_true rfl) ?_
                  exact W.vret hx hb hr (fun t ht hW => ⟨⟨(), rfl, trivial, ⟨n_h0_at_113, v_4, n_h0_at_113, 3, n_h0_sign_114, hp_115, hF_5, hp_115, by rw [ht]; exact hP9, va_K.moved hW.alike hK9, hD9⟩⟩, hS.F ht⟩) hS.2.2 dX10_next_162
              · have k_117 : (r_89).toInt ≠ (0 : Int) := z_ne c_91
                obtain rfl : r_89 = 1 := z_eq' (show (r_89).toInt = (1 : Int) by omega)
                refine lv_aload_n hx hb dX10_next_96 rfl (lv_at hl 0 rfl) ?_
                refine lv_iconst (v := 1) hx hb dX10_next_97 (by decide) ?_
                refine va_put (D := (dC, dI)) (ci := 10) (v := .int 1) (ty := .int) (C := RX10) (T := TX10) (N := 11) hx hb hts hiX10 tyX10 tyX10_ok nmX10 hown hK hP hD hS 0 rfl rfl 7 (by decide) w__fieldLink_RX10_35_ShellHeap_Tape_sort_I_ (fun _ h9 => h9) rfl (by decide +kernel) rfl rfl (Nat.le_of_ble_eq_true rfl) dX10_next_98 (fun H_119 locs hP hD hS => ?_)
                obtain ⟨hP, hD⟩ := z_s_0_7 hP hD
                refine lv_aload_n hx hb dX10_next_101 rfl (lv_at hl 0 rfl) ?_
                have hPc := hP
                have hDc := hD
                have hKc := hK
                have hFc := z_freeI hD hS hA
                refine va_callv (va_runV (As := []) (rest := []) ⟨hx, hb, hml, hown, hts⟩ (s_X10_passLetters l dC dI H_119.size h0 h1 tt v_4 (.int tj) (.int tf) (.int v_4) (.int te) (.int 1) (.int (-1)) (.int tx) (.int ty) ch1 fh1 hB_tt hF_5 hI_h1) (cwV 0 hts gw_s_X10_next_s_X10_passLetters_58 rfl rfl rfl (by decide +kernel) ⟨Nat.le_of_ble_eq_true rfl, Nat.le_of_ble_eq_true rfl⟩) ⟨z_blind, va_recv hKc hPc (ci := 10) (q0 := 0) rfl rfl, z_pre hPc hKc hDc⟩ rfl rfl hl.1 rfl (lv_room (Nat.le_of_ble_eq_true rfl)) dX10_next_102 ⟨Nat.le_of_ble_eq_true rfl, Nat.le_of_ble_eq_true rfl⟩) hS (fun q _ h => hFc q h) hFc (fun u t H_120 locs ht hvm hw_122 hB hz1 hk1 hS => ?_)
                obtain ⟨n_h0_at_123, hp_124, hP1, hK1, hD1⟩ := hB
                rw [ht] at hP1
                have hK1 := va_K.moved hvm.symm hK1
                obtain ⟨hP, hD⟩ := z_ap_0 (va_join (wr := []) hP hD [0, 1] [] rfl rfl (by decide) (by decide) hk1 hFc hP1 hD1)
                clear hPc hDc hKc
                refine lv_aload_n hx hb dX10_next_105 rfl (lv_at hl 0 rfl) ?_
                refine va_get (D := (dC, dI)) (ci := 10) (v := .int tj) (C := RX10) (T := TX10) (N := 11) hx hb hts hiX10 hown hK hP 0 rfl rfl 3 (by decide) w__fieldLink_RX10_22_ShellHeap_Tape_digitsJoin_Z_ (fun _ h9 => h9) rfl dX10_next_106 ?_
                refine lv_if_eq (tgt := 154) hx hb dX10_next_109 (by decide) (fun c_125 => ?_) (fun c_125 => ?_)
                · have k_126 : (tj).toInt = (0 : Int) := z_eq c_125
                  obtain rfl : tj = 0 := z_eq' (show (tj).toInt = (0 : Int) by omega)
                  refine lv_aload_n hx hb dX10_next_154 rfl (lv_at hl 0 rfl) ?_
                  refine lv_aload_n hx hb dX10_next_155 rfl (lv_at hl 0 rfl) ?_
                  refine va_get (D := (dC, dI)) (ci := 10) (v := .int n_h0_at_123) (C := RX10) (T := TX10) (N := 11) hx hb hts hiX10 hown hK hP 0 rfl rfl 2 (by decide) w__fieldLink_RX10_19_ShellHeap_Tape_at_I_ (fun _ h9 => h9) rfl dX10_next_156 ?_
                  refine va_put (D := (dC, dI)) (ci := 10) (v := .int n_h0_at_123) (ty := .int) (C := RX10) (T := TX10) (N := 11) hx hb hts hiX10 tyX10 tyX10_ok nmX10 hown hK hP hD hS 0 rfl rfl 6 (by decide) w__fieldLink_RX10_32_ShellHeap_Tape_end_I_ (fun _ h9 => h9) rfl (by decide +kernel) rfl rfl (Nat.le_of_ble_eq_true rfl) dX10_next_159 (fun H_128 locs hP hD hS => ?_)
                  obtain ⟨hP, hD⟩ := z_s_0_6 hP hD
                  refine z_backQ hQQ ?_
                  have hP9 := hP
                  have hD9 := hD
                  have hK9 := hK.sub (tys' := []) [] rfl
                  refine W.widen (k := 0) (n := 0) (Nat.le_of_ble_eq_true rfl) (Nat.le_of_ble_eq_true rfl) ?_
                  exact W.vret hx hb hr (fun t ht hW => ⟨⟨(), rfl, trivial, ⟨n_h0_at_123, v_4, n_h0_at_123, 1, (-1), hp_124, hF_5, hp_124, by rw [ht]; exact hP9, va_K.moved hW.alike hK9, hD9⟩⟩, hS.F ht⟩) hS.2.2 dX10_next_162
                · have k_129 : (tj).toInt ≠ (0 : Int) := z_ne c_125
                  refine lv_aload_n hx hb dX10_next_112 rfl (lv_at hl 0 rfl) ?_
                  have hPc := hP
                  have hDc := hD
                  have hKc := hK
                  have hFc := z_freeI hD hS hA
                  refine va_callv (va_runV (As := []) (rest := []) ⟨hx, hb, hml, hown, hts⟩ (s_X10_passDigits l dC dI H_120.size h0 h1 tt n_h0_at_123 (.int tj) (.int tf) (.int v_4) (.int te) (.int 1) (.int (-1)) (.int tx) (.int ty) ch1 fh1 hB_tt hp_124 hI_h1) (cwV 0 hts gw_s_X10_next_s_X10_passDigits_61 rfl rfl rfl (by decide +kernel) ⟨Nat.le_of_ble_eq_true rfl, Nat.le_of_ble_eq_true rfl⟩) ⟨z_blind, va_recv hKc hPc (ci := 10) (q0 := 0) rfl rfl, z_pre hPc hKc hDc⟩ rfl rfl hl.1 rfl (lv_room (Nat.le_of_ble_eq_true rfl)) dX10_next_113 ⟨Nat.le_of_ble_eq_true rfl, Nat.le_of_ble_eq_true rfl⟩) hS (fun q _ h => hFc q h) hFc (fun u t H_130 locs ht hvm hw_132 hB hz1 hk1 hS => ?_)
                  obtain ⟨n_h0_at_133, hp_134, hP1, hK1, hD1⟩ := hB
                  rw [ht] at hP1
                  have hK1 := va_K.moved hvm.symm hK1
                  obtain ⟨hP, hD⟩ := z_ap_0 (va_join (wr := []) hP hD [0, 1] [] rfl rfl (by decide) (by decide) hk1 hFc hP1 hD1)
                  clear hPc hDc hKc
                  refine lv_goto (tgt := 154) hx hb dX10_next_116 (by decide) ?_
                  refine lv_aload_n hx hb dX10_next_154 rfl (lv_at hl 0 rfl) ?_
                  refine lv_aload_n hx hb dX10_next_155 rfl (lv_at hl 0 rfl) ?_
                  refine va_get (D := (dC, dI)) (ci := 10) (v := .int n_h0_at_133) (C := RX10) (T := TX10) (N := 11) hx hb hts hiX10 hown hK hP 0 rfl rfl 2 (by decide) w__fieldLink_RX10_19_ShellHeap_Tape_at_I_ (fun _ h9 => h9) rfl dX10_next_156 ?_
                  refine va_put (D := (dC, dI)) (ci := 10) (v := .int n_h0_at_133) (ty := .int) (C := RX10) (T := TX10) (N := 11) hx hb hts hiX10 tyX10 tyX10_ok nmX10 hown hK hP hD hS 0 rfl rfl 6 (by decide) w__fieldLink_RX10_32_ShellHeap_Tape_end_I_ (fun _ h9 => h9) rfl (by decide +kernel) rfl rfl (Nat.le_of_ble_eq_true rfl) dX10_next_159 (fun H_135 locs hP hD hS => ?_)
                  obtain ⟨hP, hD⟩ := z_s_0_6 hP hD
                  refine z_backQ hQQ ?_
                  have hP9 := hP
                  have hD9 := hD
                  have hK9 := hK.sub (tys' := []) [] rfl
                  refine W.widen (k := 0) (n := 0) (Nat.le_of_ble_eq_true rfl) (Nat.le_of_ble_eq_true rfl) ?_
                  exact W.vret hx hb hr (fun t ht hW => ⟨⟨(), rfl, trivial, ⟨n_h0_at_133, v_4, n_h0_at_133, 1, (-1), hp_134, hF_5, hp_134, by rw [ht]; exact hP9, va_K.moved hW.alike hK9, hD9⟩⟩, hS.F ht⟩) hS.2.2 dX10_next_162
            · have k_136 : (v_4).toInt ≥ (tt).toInt := z_nlt c_83
              refine lv_aload_n hx hb dX10_next_74 rfl (lv_at hl 0 rfl) ?_
              refine lv_iconst (v := 0) hx hb dX10_next_75 (by decide) ?_
              refine va_put (D := (dC, dI)) (ci := 10) (v := .int 0) (ty := .int) (C := RX10) (T := TX10) (N := 11) hx hb hts hiX10 tyX10 tyX10_ok nmX10 hown hK hP hD hS 0 rfl rfl 7 (by decide) w__fieldLink_RX10_35_ShellHeap_Tape_sort_I_ (fun _ h9 => h9) rfl (by decide +kernel) rfl rfl (Nat.le_of_ble_eq_true rfl) dX10_next_76 (fun H_137 locs hP hD hS => ?_)
              obtain ⟨hP, hD⟩ := z_s_0_7 hP hD
              refine lv_goto (tgt := 154) hx hb dX10_next_79 (by decide) ?_
              refine lv_aload_n hx hb dX10_next_154 rfl (lv_at hl 0 rfl) ?_
              refine lv_aload_n hx hb dX10_next_155 rfl (lv_at hl 0 rfl) ?_
              refine va_get (D := (dC, dI)) (ci := 10) (v := .int v_4) (C := RX10) (T := TX10) (N := 11) hx hb hts hiX10 hown hK hP 0 rfl rfl 2 (by decide) w__fieldLink_RX10_19_ShellHeap_Tape_at_I_ (fun _ h9 => h9) rfl dX10_next_156 ?_
              refine va_put (D := (dC, dI)) (ci := 10) (v := .int v_4) (ty := .int) (C := RX10) (T := TX10) (N := 11) hx hb hts hiX10 tyX10 tyX10_ok nmX10 hown hK hP hD hS 0 rfl rfl 6 (by decide) w__fieldLink_RX10_32_ShellHeap_Tape_end_I_ (fun _ h9 => h9) rfl (by decide +kernel) rfl rfl (Nat.le_of_ble_eq_true rfl) dX10_next_159 (fun H_138 locs hP hD hS => ?_)
              obtain ⟨hP, hD⟩ := z_s_0_6 hP hD
              refine z_backQ hQQ ?_
              have hP9 := hP
              have hD9 := hD
              have hK9 := hK.sub (tys' := []) [] rfl
              refine W.widen (k := 0) (n := 0) (Nat.le_of_ble_eq_true rfl) (Nat.le_of_ble_eq_true rfl) ?_
              exact W.vret hx hb hr (fun t ht hW => ⟨⟨(), rfl, trivial, ⟨v_4, v_4, v_4, 0, (-1), hF_5, hF_5, hF_5, by rw [ht]; exact hP9, va_K.moved hW.alike hK9, hD9⟩⟩, hS.F ht⟩) hS.2.2 dX10_next_162
          · have k_139 : (r_77).toInt = (32 : Int) := z_eq c_79
            obtain rfl : r_77 = 32 := z_eq' (show (r_77).toInt = (32 : Int) by omega)
            refine lv_aload_n hx hb dX10_next_37 rfl (lv_at hl 0 rfl) ?_
            refine lv_dup hx hb dX10_next_38 rfl ?_
            refine va_get (D := (dC, dI)) (ci := 10) (v := .int v_4) (C := RX10) (T := TX10) (N := 11) hx hb hts hiX10 hown hK hP 0 rfl rfl 2 (by decide) w__fieldLink_RX10_19_ShellHeap_Tape_at_I_ (fun _ h9 => h9) rfl dX10_next_39 ?_
            refine lv_iconst (v := 1) hx hb dX10_next_42 (by decide) ?_
            refine lv_iadd hx hb dX10_next_43 ?_
            refine lv_topi (fun z_141 ez_141 => ?_)
            have kz_141 : (z_141).toInt = (v_4).toInt + (1 : Int) := by rw [ez_141]; exact z_add (a := (v_4).toInt) (b := (1 : Int)) rfl rfl (z_al hF_5.1 (by decide)) (z_ah hF_5.2 (by decide))
            refine va_put (D := (dC, dI)) (ci := 10) (v := .int z_141) (ty := .int) (C := RX10) (T := TX10) (N := 11) hx hb hts hiX10 tyX10 tyX10_ok nmX10 hown hK hP hD hS 0 rfl rfl 2 (by decide) w__fieldLink_RX10_19_ShellHeap_Tape_at_I_ (fun _ h9 => h9) rfl (by decide +kernel) rfl rfl (Nat.le_of_ble_eq_true rfl) dX10_next_44 (fun H_142 locs hP hD hS => ?_)
            obtain ⟨hP, hD⟩ := z_s_0_2 hP hD
            refine lv_goto (tgt := 0) hx hb dX10_next_47 (by decide) ?_
            exact ih_3 z_141 _ _ _ (show (701 - (z_141).toInt).toNat < n_2 by omega) (show ((0 : Int) ≤ (z_141).toInt ∧ (z_141).toInt ≤ (700 : Int)) by omega) hP hD hS (lv_sub hl [0] rfl)
  exact loop_1 _ ta _ _ _ (Nat.lt_succ_self _) (show ((0 : Int) ≤ (ta).toInt ∧ (ta).toInt ≤ (700 : Int)) by omega) hP hD hS hl
