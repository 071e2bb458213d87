def u_s_X10_passSign2 : List Cond := .code yX10_passSign cX10_passSign 1 none :: ([.fieldLink RX10 19 "ShellHeap$Tape" "at" "I", .methodLink RX10 50 yX10_byteAt, .instanceMethod yX10_byteAt, .selects RX10 yX10_byteAt yX10_byteAt, .initialized RX10, .fieldLink RX10 38 "ShellHeap$Tape" "sign" "I"] ++ (wsX100 ++ (u_s_X10_byteAt ++ [])))
theorem gd_s_X10_passSign2 : z_gd u_s_X10_passSign2 := z_gdc (by decide +kernel) (z_gda gdX10 (z_gda gd_s_X10_byteAt (z_gd0)))
set_option maxRecDepth 20000 in
theorem gw_s_X10_passSign2_s_X10_byteAt_50 : GoodIn u_s_X10_passSign2 (wsV RX10 50 RX10 yX10_byteAt u_s_X10_byteAt) := z_gV (z_gr _ [2, 3, 4, 5] rfl (by decide +kernel)) (fun w h => ⟨z_mc (z_mr (z_mr (z_ml h))), gd_s_X10_byteAt w h⟩)
set_option maxHeartbeats 4000000 in
set_option maxRecDepth 100000 in
theorem s_X10_passSign2 (l : Launch) (dC : Nat → ClassId) (dI : Nat → Nat → Nat) (sz : Nat) (h0 : Nat) (h1 : Nat) (tt : Int32) (ta : Int32) (h0_3 : Value) (h0_4 : Value) (h0_5 : Value) (h0_6 : Value) (h0_7 : Value) (tg : Int32) (h0_9 : Value) (h0_10 : Value) (ch1 : ClassId) (fh1 : Nat → Int32) (hB_tt : ((0 : Int) ≤ (tt).toInt ∧ (tt).toInt ≤ (700 : Int))) (hB_ta : ((0 : Int) ≤ (ta).toInt ∧ (ta).toInt ≤ (700 : Int))) (hI_h1 : ∀ j : Nat, ((0 : Int) ≤ (fh1 j).toInt ∧ (fh1 j).toInt ≤ (255 : Int))) (hat : ta.toInt < tt.toInt) : Met l yX10_passSign u_s_X10_passSign2 ({ frames := 1, cells := 0, slots := 0, locals := 21 }) (va_Pc [.ref h0] (z_C (dC, dI) vwCl [(h0, .inr (10, [.ref h1, .int tt, .int ta, h0_3, h0_4, h0_5, h0_6, h0_7, .int tg, h0_9, h0_10])), (h1, .inl (ch1, 700, .inl fh1))] [(ch1, .int)] sz)) (va_Qv (fun (_ : Unit) => True) (fun (_ : Unit) (t : State) => ∃ (n_h0_at : Int32), ∃ (n_h0_sign : Int32), ((0 : Int) ≤ (n_h0_at).toInt ∧ (n_h0_at).toInt ≤ (700 : Int)) ∧ (n_h0_at.toInt ≤ tt.toInt) ∧ va_P (dC, dI) vwCl [(h0, .inr (10, [.ref h1, .int tt, .int n_h0_at, h0_3, h0_4, h0_5, h0_6, h0_7, .int n_h0_sign, h0_9, h0_10])), (h1, .inl (ch1, 700, .inl fh1))] t.heap ∧ va_K (dC, dI) vwCl [] t ∧ va_D (va_A [(h0, .inr (10, [.ref h1, .int tt, .int ta, h0_3, h0_4, h0_5, h0_6, h0_7, .int tg, h0_9, h0_10])), (h1, .inl (ch1, 700, .inl fh1))] sz) [(h0, .inr (10, [.ref h1, .int tt, .int n_h0_at, h0_3, h0_4, h0_5, h0_6, h0_7, .int n_h0_sign, h0_9, h0_10])), (h1, .inl (ch1, 700, .inl fh1))]) (va_A [(h0, .inr (10, [.ref h1, .int tt, .int ta, h0_3, h0_4, h0_5, h0_6, h0_7, .int tg, h0_9, h0_10])), (h1, .inl (ch1, 700, .inl fh1))] sz)) 0 0 (va_A [(h0, .inr (10, [.ref h1, .int tt, .int ta, h0_3, h0_4, h0_5, h0_6, h0_7, .int tg, h0_9, h0_10])), (h1, .inl (ch1, 700, .inl fh1))] sz) := by
  refine Met.ofW (cc := cX10_passSign) (maxL := 1) (ret := none) (by decide) rfl ?_
  intro p e s m args below meth c s₁ B hml hv
  obtain ⟨rfl, hsz, hP, hK, hD0⟩ := hv
  have hx := B.exec
  have hb := B.bytes
  have hr := B.returns
  have hts := atoms_spec (ws := u_s_X10_passSign2) B.pre
  have hown : s.vm.findClass RX10 = some m.cls := findClass_of_methodNamed B.named
  have hlocks := B.notSynchronized
  subst hsz
  have hD := hD0.self (sz := s.heap.size)
  generalize hAe : va_A [(h0, .inr (10, [.ref h1, .int tt, .int ta, h0_3, h0_4, h0_5, h0_6, h0_7, .int tg, h0_9, h0_10])), (h1, .inl (ch1, 700, .inl fh1))] s.heap.size = A at hD ⊢
  have hA : ∀ q : Nat, s.heap.size ≤ q → A q := fun q h => by rw [← hAe]; exact Or.inr h
  have hS : va_S A s.heap s.heap [] := va_S.rf
  have hP : va_P (dC, dI) vwCl [(h0, .inr (10, [.ref h1, .int tt, .int ta, h0_3, h0_4, h0_5, h0_6, h0_7, .int tg, h0_9, h0_10])), (h1, .inl (ch1, 700, .inl fh1))] s.heap := hP
  have w__fieldLink_RX10_19_ShellHeap_Tape_at_I_ := hts (.fieldLink RX10 19 "ShellHeap$Tape" "at" "I") (z_mc (z_ml z_m0))
  have hiX10 := show ∀ w ∈ u_ws RX10 TX10 11, w ∈ u_s_X10_passSign2 from fun w h => z_mc (z_mr (z_ml h))
  have w__fieldLink_RX10_38_ShellHeap_Tape_sign_I_ := hts (.fieldLink RX10 38 "ShellHeap$Tape" "sign" "I") (z_mc (z_ml z_m5))
  have hl := lv_entry ([.ref h0]) (n := 1) (Nat.le_of_ble_eq_true rfl)
  rw [lg_entry_eq]
  generalize (lg_sl ([.ref h0]) ++ List.replicate (1 - (lg_sl ([.ref h0])).length) Slot.unset).toArray = ls at hl ⊢
  have hl : lv_has ls 1 [(0, .ref h0)] := hl
  refine lv_aload_n hx hb dX10_passSign_0 rfl (lv_at hl 0 rfl) ?_
  refine lv_aload_n hx hb dX10_passSign_1 rfl (lv_at hl 0 rfl) ?_
  refine lv_aload_n hx hb dX10_passSign_2 rfl (lv_at hl 0 rfl) ?_
  refine va_get (D := (dC, dI)) (ci := 10) (v := .int ta) (C := RX10) (T := TX10) (N := 11) hx hb hts hiX10 hown hK hP 0 rfl rfl 2 (by decide) w__fieldLink_RX10_19_ShellHeap_Tape_at_I_ (fun _ h9 => h9) rfl dX10_passSign_3 ?_
  have hPc := hP
  have hDc := hD
  have hKc := hK
  have hFc := va_free (ws := []) (wc := []) (z_D0 _) hS hA [] rfl
  refine va_calli (va_runV (As := [.int ta]) (rest := [.ref h0]) ⟨hx, hb, hml, hown, hts⟩ (s_X10_byteAt l dC dI s.heap.size h0 ta h1 tt (.int ta) h0_3 h0_4 h0_5 h0_6 h0_7 (.int tg) h0_9 h0_10 ch1 fh1 hB_tt hI_h1) (cwV 1 hts gw_s_X10_passSign2_s_X10_byteAt_50 rfl rfl rfl (by decide +kernel) ⟨Nat.le_of_ble_eq_true rfl, Nat.le_of_ble_eq_true rfl⟩) ⟨z_blind, va_recv hKc hPc (ci := 10) (q0 := 0) rfl rfl, z_pre hPc hKc hDc⟩ rfl rfl hl.1 rfl (lv_room (Nat.le_of_ble_eq_true rfl)) dX10_passSign_6 ⟨Nat.le_of_ble_eq_true rfl, Nat.le_of_ble_eq_true rfl⟩) hS (fun q _ h => hFc q h) hFc (fun r_2 u t H_1 locs ht hvm hw_3 hB hz1 hk1 hS => ?_)
  replace hP := z_pure hP hk1
  clear hPc hDc hKc
  refine va_put (D := (dC, dI)) (ci := 10) (v := .int r_2) (ty := .int) (C := RX10) (T := TX10) (N := 11) hx hb hts hiX10 tyX10 tyX10_ok nmX10 hown hK hP hD hS 0 rfl rfl 8 (by decide) w__fieldLink_RX10_38_ShellHeap_Tape_sign_I_ (fun _ h9 => h9) rfl (by decide +kernel) rfl rfl (Nat.le_of_ble_eq_true rfl) dX10_passSign_9 (fun H_4 locs hP hD hS => ?_)
  obtain ⟨hP, hD⟩ := z_s_0_8 hP hD
  refine lv_aload_n hx hb dX10_passSign_12 rfl (lv_at hl 0 rfl) ?_
  refine lv_dup hx hb dX10_passSign_13 rfl ?_
  refine va_get (D := (dC, dI)) (ci := 10) (v := .int ta) (C := RX10) (T := TX10) (N := 11) hx hb hts hiX10 hown hK hP 0 rfl rfl 2 (by decide) w__fieldLink_RX10_19_ShellHeap_Tape_at_I_ (fun _ h9 => h9) rfl dX10_passSign_14 ?_
  refine lv_iconst (v := 1) hx hb dX10_passSign_17 (by decide) ?_
  refine lv_iadd hx hb dX10_passSign_18 ?_
  refine lv_topi (fun z_5 ez_5 => ?_)
  have kz_5 : (z_5).toInt = (ta).toInt + (1 : Int) := by rw [ez_5]; exact z_add (a := (ta).toInt) (b := (1 : Int)) rfl rfl (z_al hB_ta.1 (by decide)) (z_ah hB_ta.2 (by decide))
  refine va_put (D := (dC, dI)) (ci := 10) (v := .int z_5) (ty := .int) (C := RX10) (T := TX10) (N := 11) hx hb hts hiX10 tyX10 tyX10_ok nmX10 hown hK hP hD hS 0 rfl rfl 2 (by decide) w__fieldLink_RX10_19_ShellHeap_Tape_at_I_ (fun _ h9 => h9) rfl (by decide +kernel) rfl rfl (Nat.le_of_ble_eq_true rfl) dX10_passSign_19 (fun H_6 locs hP hD hS => ?_)
  obtain ⟨hP, hD⟩ := z_s_0_2 hP hD
  refine lv_aload_n hx hb dX10_passSign_22 rfl (lv_at hl 0 rfl) ?_
  refine va_get (D := (dC, dI)) (ci := 10) (v := .int r_2) (C := RX10) (T := TX10) (N := 11) hx hb hts hiX10 hown hK hP 0 rfl rfl 8 (by decide) w__fieldLink_RX10_38_ShellHeap_Tape_sign_I_ (fun _ h9 => h9) rfl dX10_passSign_23 ?_
  refine lv_bipush (v := 60) hx hb dX10_passSign_26 (by decide) ?_
  refine lv_icmp_eq (tgt := 40) hx hb dX10_passSign_28 (by decide) (fun c_7 => ?_) (fun c_7 => ?_)
  · have k_8 : (r_2).toInt = (60 : Int) := z_eq c_7
    obtain rfl : r_2 = 60 := z_eq' (show (r_2).toInt = (60 : Int) by omega)
    refine lv_aload_n hx hb dX10_passSign_40 rfl (lv_at hl 0 rfl) ?_
    refine lv_aload_n hx hb dX10_passSign_41 rfl (lv_at hl 0 rfl) ?_
    refine va_get (D := (dC, dI)) (ci := 10) (v := .int z_5) (C := RX10) (T := TX10) (N := 11) hx hb hts hiX10 hown hK hP 0 rfl rfl 2 (by decide) w__fieldLink_RX10_19_ShellHeap_Tape_at_I_ (fun _ h9 => h9) rfl dX10_passSign_42 ?_
    have hPc := hP
    have hDc := hD
    have hKc := hK
    have hFc := va_free (ws := []) (wc := []) (z_D0 _) hS hA [] rfl
    refine va_calli (va_runV (As := [.int z_5]) (rest := []) ⟨hx, hb, hml, hown, hts⟩ (s_X10_byteAt l dC dI H_6.size h0 z_5 h1 tt (.int z_5) h0_3 h0_4 h0_5 h0_6 h0_7 (.int 60) h0_9 h0_10 ch1 fh1 hB_tt hI_h1) (cwV 1 hts gw_s_X10_passSign2_s_X10_byteAt_50 rfl rfl rfl (by decide +kernel) ⟨Nat.le_of_ble_eq_true rfl, Nat.le_of_ble_eq_true rfl⟩) ⟨z_blind, va_recv hKc hPc (ci := 10) (q0 := 0) rfl rfl, z_pre hPc hKc hDc⟩ rfl rfl hl.1 rfl (lv_room (Nat.le_of_ble_eq_true rfl)) dX10_passSign_45 ⟨Nat.le_of_ble_eq_true rfl, Nat.le_of_ble_eq_true rfl⟩) hS (fun q _ h => hFc q h) hFc (fun r_11 u t H_10 locs ht hvm hw_12 hB hz1 hk1 hS => ?_)
    replace hP := z_pure hP hk1
    clear hPc hDc hKc
    refine lv_bipush (v := 61) hx hb dX10_passSign_48 (by decide) ?_
    refine lv_icmp_eq (tgt := 66) hx hb dX10_passSign_50 (by decide) (fun c_13 => ?_) (fun c_13 => ?_)
    · have k_14 : (r_11).toInt = (61 : Int) := z_eq c_13
      obtain rfl : r_11 = 61 := z_eq' (show (r_11).toInt = (61 : Int) by omega)
      refine lv_aload_n hx hb dX10_passSign_66 rfl (lv_at hl 0 rfl) ?_
      refine lv_dup hx hb dX10_passSign_67 rfl ?_
      refine va_get (D := (dC, dI)) (ci := 10) (v := .int 60) (C := RX10) (T := TX10) (N := 11) hx hb hts hiX10 hown hK hP 0 rfl rfl 8 (by decide) w__fieldLink_RX10_38_ShellHeap_Tape_sign_I_ (fun _ h9 => h9) rfl dX10_passSign_68 ?_
      refine lv_sipush (v := 256) hx hb dX10_passSign_71 (by decide) ?_
      refine lv_aload_n hx hb dX10_passSign_74 rfl (lv_at hl 0 rfl) ?_
      refine lv_aload_n hx hb dX10_passSign_75 rfl (lv_at hl 0 rfl) ?_
      refine va_get (D := (dC, dI)) (ci := 10) (v := .int z_5) (C := RX10) (T := TX10) (N := 11) hx hb hts hiX10 hown hK hP 0 rfl rfl 2 (by decide) w__fieldLink_RX10_19_ShellHeap_Tape_at_I_ (fun _ h9 => h9) rfl dX10_passSign_76 ?_
      have hPc := hP
      have hDc := hD
      have hKc := hK
      have hFc := va_free (ws := []) (wc := []) (z_D0 _) hS hA [] rfl
      refine va_calli (va_runV (As := [.int z_5]) (rest := [.int 256, .int 60, .ref h0]) ⟨hx, hb, hml, hown, hts⟩ (s_X10_byteAt l dC dI H_10.size h0 z_5 h1 tt (.int z_5) h0_3 h0_4 h0_5 h0_6 h0_7 (.int 60) h0_9 h0_10 ch1 fh1 hB_tt hI_h1) (cwV 1 hts gw_s_X10_passSign2_s_X10_byteAt_50 rfl rfl rfl (by decide +kernel) ⟨Nat.le_of_ble_eq_true rfl, Nat.le_of_ble_eq_true rfl⟩) ⟨z_blind, va_recv hKc hPc (ci := 10) (q0 := 0) rfl rfl, z_pre hPc hKc hDc⟩ rfl rfl hl.1 rfl (lv_room (Nat.le_of_ble_eq_true rfl)) dX10_passSign_79 ⟨Nat.le_of_ble_eq_true rfl, Nat.le_of_ble_eq_true rfl⟩) hS (fun q _ h => hFc q h) hFc (fun r_17 u t H_16 locs ht hvm hw_18 hB hz1 hk1 hS => ?_)
      replace hP := z_pure hP hk1
      clear hPc hDc hKc
      refine lv_imul hx hb dX10_passSign_82 ?_
      refine lv_topi (fun z_19 ez_19 => ?_)
      have kz_19 : (z_19).toInt = (256 : Int) * (r_17).toInt := by rw [ez_19]; exact z_mul (a := (256 : Int)) (b := (r_17).toInt) rfl rfl (by omega) (by omega)
      refine lv_iadd hx hb dX10_passSign_83 ?_
      refine lv_topi (fun z_20 ez_20 => ?_)
      have kz_20 : (z_20).toInt = (60 : Int) + (z_19).toInt := by rw [ez_20]; exact z_add (a := (60 : Int)) (b := (z_19).toInt) rfl rfl (by omega) (by omega)
      refine va_put (D := (dC, dI)) (ci := 10) (v := .int z_20) (ty := .int) (C := RX10) (T := TX10) (N := 11) hx hb hts hiX10 tyX10 tyX10_ok nmX10 hown hK hP hD hS 0 rfl rfl 8 (by decide) w__fieldLink_RX10_38_ShellHeap_Tape_sign_I_ (fun _ h9 => h9) rfl (by decide +kernel) rfl rfl (Nat.le_of_ble_eq_true rfl) dX10_passSign_84 (fun H_21 locs hP hD hS => ?_)
      obtain ⟨hP, hD⟩ := z_s_0_8 hP hD
      refine lv_aload_n hx hb dX10_passSign_87 rfl (lv_at hl 0 rfl) ?_
      refine lv_dup hx hb dX10_passSign_88 rfl ?_
      refine va_get (D := (dC, dI)) (ci := 10) (v := .int z_5) (C := RX10) (T := TX10) (N := 11) hx hb hts hiX10 hown hK hP 0 rfl rfl 2 (by decide) w__fieldLink_RX10_19_ShellHeap_Tape_at_I_ (fun _ h9 => h9) rfl dX10_passSign_89 ?_
      refine lv_iconst (v := 1) hx hb dX10_passSign_92 (by decide) ?_
      refine lv_iadd hx hb dX10_passSign_93 ?_
      refine lv_topi (fun z_22 ez_22 => ?_)
      have kz_22 : (z_22).toInt = (z_5).toInt + (1 : Int) := by rw [ez_22]; exact z_add (a := (z_5).toInt) (b := (1 : Int)) rfl rfl (by omega) (by omega)
      refine va_put (D := (dC, dI)) (ci := 10) (v := .int z_22) (ty := .int) (C := RX10) (T := TX10) (N := 11) hx hb hts hiX10 tyX10 tyX10_ok nmX10 hown hK hP hD hS 0 rfl rfl 2 (by decide) w__fieldLink_RX10_19_ShellHeap_Tape_at_I_ (fun _ h9 => h9) rfl (by decide +kernel) rfl rfl (Nat.le_of_ble_eq_true rfl) dX10_passSign_94 (fun H_23 locs hP hD hS => ?_)
      obtain ⟨hP, hD⟩ := z_s_0_2 hP hD
      have hP9 := hP
      have hD9 := hD
      have hK9 := hK.sub (tys' := []) [] rfl
      refine W.widen (k := 0) (n := 0) (Nat.le_of_ble_eq_true rfl) (Nat.le_of_ble_eq_true rfl) ?_
      exact W.vret hx hb hr (fun t ht hW => ⟨⟨(), rfl, trivial, ⟨z_22, z_20, (by first | omega | decide), (show z_22.toInt ≤ tt.toInt by omega), by rw [ht]; exact hP9, va_K.moved hW.alike hK9, hD9⟩⟩, hS.F ht⟩) hS.2.2 dX10_passSign_97
    · have k_24 : (r_11).toInt ≠ (61 : Int) := z_ne c_13
      refine lv_aload_n hx hb dX10_passSign_53 rfl (lv_at hl 0 rfl) ?_
      refine lv_aload_n hx hb dX10_passSign_54 rfl (lv_at hl 0 rfl) ?_
      refine va_get (D := (dC, dI)) (ci := 10) (v := .int z_5) (C := RX10) (T := TX10) (N := 11) hx hb hts hiX10 hown hK hP 0 rfl rfl 2 (by decide) w__fieldLink_RX10_19_ShellHeap_Tape_at_I_ (fun _ h9 => h9) rfl dX10_passSign_55 ?_
      have hPc := hP
      have hDc := hD
      have hKc := hK
      have hFc := va_free (ws := []) (wc := []) (z_D0 _) hS hA [] rfl
      refine va_calli (va_runV (As := [.int z_5]) (rest := []) ⟨hx, hb, hml, hown, hts⟩ (s_X10_byteAt l dC dI H_10.size h0 z_5 h1 tt (.int z_5) h0_3 h0_4 h0_5 h0_6 h0_7 (.int 60) h0_9 h0_10 ch1 fh1 hB_tt hI_h1) (cwV 1 hts gw_s_X10_passSign2_s_X10_byteAt_50 rfl rfl rfl (by decide +kernel) ⟨Nat.le_of_ble_eq_true rfl, Nat.le_of_ble_eq_true rfl⟩) ⟨z_blind, va_recv hKc hPc (ci := 10) (q0 := 0) rfl rfl, z_pre hPc hKc hDc⟩ rfl rfl hl.1 rfl (lv_room (Nat.le_of_ble_eq_true rfl)) dX10_passSign_58 ⟨Nat.le_of_ble_eq_true rfl, Nat.le_of_ble_eq_true rfl⟩) hS (fun q _ h => hFc q h) hFc (fun r_26 u t H_25 locs ht hvm hw_27 hB hz1 hk1 hS => ?_)
      replace hP := z_pure hP hk1
      clear hPc hDc hKc
      refine lv_bipush (v := 62) hx hb dX10_passSign_61 (by decide) ?_
      refine lv_icmp_ne (tgt := 97) hx hb dX10_passSign_63 (by decide) (fun c_28 => ?_) (fun c_28 => ?_)
      · have k_29 : (r_26).toInt ≠ (62 : Int) := z_ne c_28
        have hP9 := hP
        have hD9 := hD
        have hK9 := hK.sub (tys' := []) [] rfl
        refine W.widen (k := 0) (n := 0) (Nat.le_of_ble_eq_true rfl) (Nat.le_of_ble_eq_true rfl) ?_
        exact W.vret hx hb hr (fun t ht hW => ⟨⟨(), rfl, trivial, ⟨z_5, 60, (by first | omega | decide), (show z_5.toInt ≤ tt.toInt by omega), by rw [ht]; exact hP9, va_K.moved hW.alike hK9, hD9⟩⟩, hS.F ht⟩) hS.2.2 dX10_passSign_97
      · have k_30 : (r_26).toInt = (62 : Int) := z_eq c_28
        obtain rfl : r_26 = 62 := z_eq' (show (r_26).toInt = (62 : Int) by omega)
        refine lv_aload_n hx hb dX10_passSign_66 rfl (lv_at hl 0 rfl) ?_
        refine lv_dup hx hb dX10_passSign_67 rfl ?_
        refine va_get (D := (dC, dI)) (ci := 10) (v := .int 60) (C := RX10) (T := TX10) (N := 11) hx hb hts hiX10 hown hK hP 0 rfl rfl 8 (by decide) w__fieldLink_RX10_38_ShellHeap_Tape_sign_I_ (fun _ h9 => h9) rfl dX10_passSign_68 ?_
        refine lv_sipush (v := 256) hx hb dX10_passSign_71 (by decide) ?_
        refine lv_aload_n hx hb dX10_passSign_74 rfl (lv_at hl 0 rfl) ?_
        refine lv_aload_n hx hb dX10_passSign_75 rfl (lv_at hl 0 rfl) ?_
        refine va_get (D := (dC, dI)) (ci := 10) (v := .int z_5) (C := RX10) (T := TX10) (N := 11) hx hb hts hiX10 hown hK hP 0 rfl rfl 2 (by decide) w__fieldLink_RX10_19_ShellHeap_Tape_at_I_ (fun _ h9 => h9) rfl dX10_passSign_76 ?_
        have hPc := hP
        have hDc := hD
        have hKc := hK
        have hFc := va_free (ws := []) (wc := []) (z_D0 _) hS hA [] rfl
        refine va_calli (va_runV (As := [.int z_5]) (rest := [.int 256, .int 60, .ref h0]) ⟨hx, hb, hml, hown, hts⟩ (s_X10_byteAt l dC dI H_25.size h0 z_5 h1 tt (.int z_5) h0_3 h0_4 h0_5 h0_6 h0_7 (.int 60) h0_9 h0_10 ch1 fh1 hB_tt hI_h1) (cwV 1 hts gw_s_X10_passSign2_s_X10_byteAt_50 rfl rfl rfl (by decide +kernel) ⟨Nat.le_of_ble_eq_true rfl, Nat.le_of_ble_eq_true rfl⟩) ⟨z_blind, va_recv hKc hPc (ci := 10) (q0 := 0) rfl rfl, z_pre hPc hKc hDc⟩ rfl rfl hl.1 rfl (lv_room (Nat.le_of_ble_eq_true rfl)) dX10_passSign_79 ⟨Nat.le_of_ble_eq_true rfl, Nat.le_of_ble_eq_true rfl⟩) hS (fun q _ h => hFc q h) hFc (fun r_33 u t H_32 locs ht hvm hw_34 hB hz1 hk1 hS => ?_)
        replace hP := z_pure hP hk1
        clear hPc hDc hKc
        refine lv_imul hx hb dX10_passSign_82 ?_
        refine lv_topi (fun z_35 ez_35 => ?_)
        have kz_35 : (z_35).toInt = (256 : Int) * (r_33).toInt := by rw [ez_35]; exact z_mul (a := (256 : Int)) (b := (r_33).toInt) rfl rfl (by omega) (by omega)
        refine lv_iadd hx hb dX10_passSign_83 ?_
        refine lv_topi (fun z_36 ez_36 => ?_)
        have kz_36 : (z_36).toInt = (60 : Int) + (z_35).toInt := by rw [ez_36]; exact z_add (a := (60 : Int)) (b := (z_35).toInt) rfl rfl (by omega) (by omega)
        refine va_put (D := (dC, dI)) (ci := 10) (v := .int z_36) (ty := .int) (C := RX10) (T := TX10) (N := 11) hx hb hts hiX10 tyX10 tyX10_ok nmX10 hown hK hP hD hS 0 rfl rfl 8 (by decide) w__fieldLink_RX10_38_ShellHeap_Tape_sign_I_ (fun _ h9 => h9) rfl (by decide +kernel) rfl rfl (Nat.le_of_ble_eq_true rfl) dX10_passSign_84 (fun H_37 locs hP hD hS => ?_)
        obtain ⟨hP, hD⟩ := z_s_0_8 hP hD
        refine lv_aload_n hx hb dX10_passSign_87 rfl (lv_at hl 0 rfl) ?_
        refine lv_dup hx hb dX10_passSign_88 rfl ?_
        refine va_get (D := (dC, dI)) (ci := 10) (v := .int z_5) (C := RX10) (T := TX10) (N := 11) hx hb hts hiX10 hown hK hP 0 rfl rfl 2 (by decide) w__fieldLink_RX10_19_ShellHeap_Tape_at_I_ (fun _ h9 => h9) rfl dX10_passSign_89 ?_
        refine lv_iconst (v := 1) hx hb dX10_passSign_92 (by decide) ?_
        refine lv_iadd hx hb dX10_passSign_93 ?_
        refine lv_topi (fun z_38 ez_38 => ?_)
        have kz_38 : (z_38).toInt = (z_5).toInt + (1 : Int) := by rw [ez_38]; exact z_add (a := (z_5).toInt) (b := (1 : Int)) rfl rfl (by omega) (by omega)
        refine va_put (D := (dC, dI)) (ci := 10) (v := .int z_38) (ty := .int) (C := RX10) (T := TX10) (N := 11) hx hb hts hiX10 tyX10 tyX10_ok nmX10 hown hK hP hD hS 0 rfl rfl 2 (by decide) w__fieldLink_RX10_19_ShellHeap_Tape_at_I_ (fun _ h9 => h9) rfl (by decide +kernel) rfl rfl (Nat.le_of_ble_eq_true rfl) dX10_passSign_94 (fun H_39 locs hP hD hS => ?_)
        obtain ⟨hP, hD⟩ := z_s_0_2 hP hD
        have hP9 := hP
        have hD9 := hD
        have hK9 := hK.sub (tys' := []) [] rfl
        refine W.widen (k := 0) (n := 0) (Nat.le_of_ble_eq_true rfl) (Nat.le_of_ble_eq_true rfl) ?_
        exact W.vret hx hb hr (fun t ht hW => ⟨⟨(), rfl, trivial, ⟨z_38, z_36, (by first | omega | decide), (show z_38.toInt ≤ tt.toInt by omega), by rw [ht]; exact hP9, va_K.moved hW.alike hK9, hD9⟩⟩, hS.F ht⟩) hS.2.2 dX10_passSign_97
  · have k_40 : (r_2).toInt ≠ (60 : Int) := z_ne c_7
    refine lv_aload_n hx hb dX10_passSign_31 rfl (lv_at hl 0 rfl) ?_
    refine va_get (D := (dC, dI)) (ci := 10) (v := .int r_2) (C := RX10) (T := TX10) (N := 11) hx hb hts hiX10 hown hK hP 0 rfl rfl 8 (by decide) w__fieldLink_RX10_38_ShellHeap_Tape_sign_I_ (fun _ h9 => h9) rfl dX10_passSign_32 ?_
    refine lv_bipush (v := 62) hx hb dX10_passSign_35 (by decide) ?_
    refine lv_icmp_ne (tgt := 97) hx hb dX10_passSign_37 (by decide) (fun c_41 => ?_) (fun c_41 => ?_)
    · have k_42 : (r_2).toInt ≠ (62 : Int) := z_ne c_41
      have hP9 := hP
      have hD9 := hD
      have hK9 := hK.sub (tys' := []) [] rfl
      refine W.widen (k := 0) (n := 0) (Nat.le_of_ble_eq_true rfl) (Nat.le_of_ble_eq_true rfl) ?_
      exact W.vret hx hb hr (fun t ht hW => ⟨⟨(), rfl, trivial, ⟨z_5, r_2, (by first | omega | decide), (show z_5.toInt ≤ tt.toInt by omega), by rw [ht]; exact hP9, va_K.moved hW.alike hK9, hD9⟩⟩, hS.F ht⟩) hS.2.2 dX10_passSign_97
    · have k_43 : (r_2).toInt = (62 : Int) := z_eq c_41
      obtain rfl : r_2 = 62 := z_eq' (show (r_2).toInt = (62 : Int) by omega)
      refine lv_aload_n hx hb dX10_passSign_40 rfl (lv_at hl 0 rfl) ?_
      refine lv_aload_n hx hb dX10_passSign_41 rfl (lv_at hl 0 rfl) ?_
      refine va_get (D := (dC, dI)) (ci := 10) (v := .int z_5) (C := RX10) (T := TX10) (N := 11) hx hb hts hiX10 hown hK hP 0 rfl rfl 2 (by decide) w__fieldLink_RX10_19_ShellHeap_Tape_at_I_ (fun _ h9 => h9) rfl dX10_passSign_42 ?_
      have hPc := hP
      have hDc := hD
      have hKc := hK
      have hFc := va_free (ws := []) (wc := []) (z_D0 _) hS hA [] rfl
      refine va_calli (va_runV (As := [.int z_5]) (rest := []) ⟨hx, hb, hml, hown, hts⟩ (s_X10_byteAt l dC dI H_6.size h0 z_5 h1 tt (.int z_5) h0_3 h0_4 h0_5 h0_6 h0_7 (.int 62) h0_9 h0_10 ch1 fh1 hB_tt hI_h1) (cwV 1 hts gw_s_X10_passSign2_s_X10_byteAt_50 rfl rfl rfl (by decide +kernel) ⟨Nat.le_of_ble_eq_true rfl, Nat.le_of_ble_eq_true rfl⟩) ⟨z_blind, va_recv hKc hPc (ci := 10) (q0 := 0) rfl rfl, z_pre hPc hKc hDc⟩ rfl rfl hl.1 rfl (lv_room (Nat.le_of_ble_eq_true rfl)) dX10_passSign_45 ⟨Nat.le_of_ble_eq_true rfl, Nat.le_of_ble_eq_true rfl⟩) hS (fun q _ h => hFc q h) hFc (fun r_46 u t H_45 locs ht hvm hw_47 hB hz1 hk1 hS => ?_)
      replace hP := z_pure hP hk1
      clear hPc hDc hKc
      refine lv_bipush (v := 61) hx hb dX10_passSign_48 (by decide) ?_
      refine lv_icmp_eq (tgt := 66) hx hb dX10_passSign_50 (by decide) (fun c_48 => ?_) (fun c_48 => ?_)
      · have k_49 : (r_46).toInt = (61 : Int) := z_eq c_48
        obtain rfl : r_46 = 61 := z_eq' (show (r_46).toInt = (61 : Int) by omega)
        refine lv_aload_n hx hb dX10_passSign_66 rfl (lv_at hl 0 rfl) ?_
        refine lv_dup hx hb dX10_passSign_67 rfl ?_
        refine va_get (D := (dC, dI)) (ci := 10) (v := .int 62) (C := RX10) (T := TX10) (N := 11) hx hb hts hiX10 hown hK hP 0 rfl rfl 8 (by decide) w__fieldLink_RX10_38_ShellHeap_Tape_sign_I_ (fun _ h9 => h9) rfl dX10_passSign_68 ?_
        refine lv_sipush (v := 256) hx hb dX10_passSign_71 (by decide) ?_
        refine lv_aload_n hx hb dX10_passSign_74 rfl (lv_at hl 0 rfl) ?_
        refine lv_aload_n hx hb dX10_passSign_75 rfl (lv_at hl 0 rfl) ?_
        refine va_get (D := (dC, dI)) (ci := 10) (v := .int z_5) (C := RX10) (T := TX10) (N := 11) hx hb hts hiX10 hown hK hP 0 rfl rfl 2 (by decide) w__fieldLink_RX10_19_ShellHeap_Tape_at_I_ (fun _ h9 => h9) rfl dX10_passSign_76 ?_
        have hPc := hP
        have hDc := hD
        have hKc := hK
        have hFc := va_free (ws := []) (wc := []) (z_D0 _) hS hA [] rfl
        refine va_calli (va_runV (As := [.int z_5]) (rest := [.int 256, .int 62, .ref h0]) ⟨hx, hb, hml, hown, hts⟩ (s_X10_byteAt l dC dI H_45.size h0 z_5 h1 tt (.int z_5) h0_3 h0_4 h0_5 h0_6 h0_7 (.int 62) h0_9 h0_10 ch1 fh1 hB_tt hI_h1) (cwV 1 hts gw_s_X10_passSign2_s_X10_byteAt_50 rfl rfl rfl (by decide +kernel) ⟨Nat.le_of_ble_eq_true rfl, Nat.le_of_ble_eq_true rfl⟩) ⟨z_blind, va_recv hKc hPc (ci := 10) (q0 := 0) rfl rfl, z_pre hPc hKc hDc⟩ rfl rfl hl.1 rfl (lv_room (Nat.le_of_ble_eq_true rfl)) dX10_passSign_79 ⟨Nat.le_of_ble_eq_true rfl, Nat.le_of_ble_eq_true rfl⟩) hS (fun q _ h => hFc q h) hFc (fun r_52 u t H_51 locs ht hvm hw_53 hB hz1 hk1 hS => ?_)
        replace hP := z_pure hP hk1
        clear hPc hDc hKc
        refine lv_imul hx hb dX10_passSign_82 ?_
        refine lv_topi (fun z_54 ez_54 => ?_)
        have kz_54 : (z_54).toInt = (256 : Int) * (r_52).toInt := by rw [ez_54]; exact z_mul (a := (256 : Int)) (b := (r_52).toInt) rfl rfl (by omega) (by omega)
        refine lv_iadd hx hb dX10_passSign_83 ?_
        refine lv_topi (fun z_55 ez_55 => ?_)
        have kz_55 : (z_55).toInt = (62 : Int) + (z_54).toInt := by rw [ez_55]; exact z_add (a := (62 : Int)) (b := (z_54).toInt) rfl rfl (by omega) (by omega)
        refine va_put (D := (dC, dI)) (ci := 10) (v := .int z_55) (ty := .int) (C := RX10) (T := TX10) (N := 11) hx hb hts hiX10 tyX10 tyX10_ok nmX10 hown hK hP hD hS 0 rfl rfl 8 (by decide) w__fieldLink_RX10_38_ShellHeap_Tape_sign_I_ (fun _ h9 => h9) rfl (by decide +kernel) rfl rfl (Nat.le_of_ble_eq_true rfl) dX10_passSign_84 (fun H_56 locs hP hD hS => ?_)
        obtain ⟨hP, hD⟩ := z_s_0_8 hP hD
        refine lv_aload_n hx hb dX10_passSign_87 rfl (lv_at hl 0 rfl) ?_
        refine lv_dup hx hb dX10_passSign_88 rfl ?_
        refine va_get (D := (dC, dI)) (ci := 10) (v := .int z_5) (C := RX10) (T := TX10) (N := 11) hx hb hts hiX10 hown hK hP 0 rfl rfl 2 (by decide) w__fieldLink_RX10_19_ShellHeap_Tape_at_I_ (fun _ h9 => h9) rfl dX10_passSign_89 ?_
        refine lv_iconst (v := 1) hx hb dX10_passSign_92 (by decide) ?_
        refine lv_iadd hx hb dX10_passSign_93 ?_
        refine lv_topi (fun z_57 ez_57 => ?_)
        have kz_57 : (z_57).toInt = (z_5).toInt + (1 : Int) := by rw [ez_57]; exact z_add (a := (z_5).toInt) (b := (1 : Int)) rfl rfl (by omega) (by omega)
        refine va_put (D := (dC, dI)) (ci := 10) (v := .int z_57) (ty := .int) (C := RX10) (T := TX10) (N := 11) hx hb hts hiX10 tyX10 tyX10_ok nmX10 hown hK hP hD hS 0 rfl rfl 2 (by decide) w__fieldLink_RX10_19_ShellHeap_Tape_at_I_ (fun _ h9 => h9) rfl (by decide +kernel) rfl rfl (Nat.le_of_ble_eq_true rfl) dX10_passSign_94 (fun H_58 locs hP hD hS => ?_)
        obtain ⟨hP, hD⟩ := z_s_0_2 hP hD
        have hP9 := hP
        have hD9 := hD
        have hK9 := hK.sub (tys' := []) [] rfl
        refine W.widen (k := 0) (n := 0) (Nat.le_of_ble_eq_true rfl) (Nat.le_of_ble_eq_true rfl) ?_
        exact W.vret hx hb hr (fun t ht hW => ⟨⟨(), rfl, trivial, ⟨z_57, z_55, (by first | omega | decide), (show z_57.toInt ≤ tt.toInt by omega), by rw [ht]; exact hP9, va_K.moved hW.alike hK9, hD9⟩⟩, hS.F ht⟩) hS.2.2 dX10_passSign_97
      · have k_59 : (r_46).toInt ≠ (61 : Int) := z_ne c_48
        refine lv_aload_n hx hb dX10_passSign_53 rfl (lv_at hl 0 rfl) ?_
        refine lv_aload_n hx hb dX10_passSign_54 rfl (lv_at hl 0 rfl) ?_
        refine va_get (D := (dC, dI)) (ci := 10) (v := .int z_5) (C := RX10) (T := TX10) (N := 11) hx hb hts hiX10 hown hK hP 0 rfl rfl 2 (by decide) w__fieldLink_RX10_19_ShellHeap_Tape_at_I_ (fun _ h9 => h9) rfl dX10_passSign_55 ?_
        have hPc := hP
        have hDc := hD
        have hKc := hK
        have hFc := va_free (ws := []) (wc := []) (z_D0 _) hS hA [] rfl
        refine va_calli (va_runV (As := [.int z_5]) (rest := []) ⟨hx, hb, hml, hown, hts⟩ (s_X10_byteAt l dC dI H_45.size h0 z_5 h1 tt (.int z_5) h0_3 h0_4 h0_5 h0_6 h0_7 (.int 62) h0_9 h0_10 ch1 fh1 hB_tt hI_h1) (cwV 1 hts gw_s_X10_passSign2_s_X10_byteAt_50 rfl rfl rfl (by decide +kernel) ⟨Nat.le_of_ble_eq_true rfl, Nat.le_of_ble_eq_true rfl⟩) ⟨z_blind, va_recv hKc hPc (ci := 10) (q0 := 0) rfl rfl, z_pre hPc hKc hDc⟩ rfl rfl hl.1 rfl (lv_room (Nat.le_of_ble_eq_true rfl)) dX10_passSign_58 ⟨Nat.le_of_ble_eq_true rfl, Nat.le_of_ble_eq_true rfl⟩) hS (fun q _ h => hFc q h) hFc (fun r_61 u t H_60 locs ht hvm hw_62 hB hz1 hk1 hS => ?_)
        replace hP := z_pure hP hk1
        clear hPc hDc hKc
        refine lv_bipush (v := 62) hx hb dX10_passSign_61 (by decide) ?_
        refine lv_icmp_ne (tgt := 97) hx hb dX10_passSign_63 (by decide) (fun c_63 => ?_) (fun c_63 => ?_)
        · have k_64 : (r_61).toInt ≠ (62 : Int) := z_ne c_63
          have hP9 := hP
          have hD9 := hD
          have hK9 := hK.sub (tys' := []) [] rfl
          refine W.widen (k := 0) (n := 0) (Nat.le_of_ble_eq_true rfl) (Nat.le_of_ble_eq_true rfl) ?_
          exact W.vret hx hb hr (fun t ht hW => ⟨⟨(), rfl, trivial, ⟨z_5, 62, (by first | omega | decide), (show z_5.toInt ≤ tt.toInt by omega), by rw [ht]; exact hP9, va_K.moved hW.alike hK9, hD9⟩⟩, hS.F ht⟩) hS.2.2 dX10_passSign_97
        · have k_65 : (r_61).toInt = (62 : Int) := z_eq c_63
          obtain rfl : r_61 = 62 := z_eq' (show (r_61).toInt = (62 : Int) by omega)
          refine lv_aload_n hx hb dX10_passSign_66 rfl (lv_at hl 0 rfl) ?_
          refine lv_dup hx hb dX10_passSign_67 rfl ?_
          refine va_get (D := (dC, dI)) (ci := 10) (v := .int 62) (C := RX10) (T := TX10) (N := 11) hx hb hts hiX10 hown hK hP 0 rfl rfl 8 (by decide) w__fieldLink_RX10_38_ShellHeap_Tape_sign_I_ (fun _ h9 => h9) rfl dX10_passSign_68 ?_
          refine lv_sipush (v := 256) hx hb dX10_passSign_71 (by decide) ?_
          refine lv_aload_n hx hb dX10_passSign_74 rfl (lv_at hl 0 rfl) ?_
          refine lv_aload_n hx hb dX10_passSign_75 rfl (lv_at hl 0 rfl) ?_
          refine va_get (D := (dC, dI)) (ci := 10) (v := .int z_5) (C := RX10) (T := TX10) (N := 11) hx hb hts hiX10 hown hK hP 0 rfl rfl 2 (by decide) w__fieldLink_RX10_19_ShellHeap_Tape_at_I_ (fun _ h9 => h9) rfl dX10_passSign_76 ?_
          have hPc := hP
          have hDc := hD
          have hKc := hK
          have hFc := va_free (ws := []) (wc := []) (z_D0 _) hS hA [] rfl
          refine va_calli (va_runV (As := [.int z_5]) (rest := [.int 256, .int 62, .ref h0]) ⟨hx, hb, hml, hown, hts⟩ (s_X10_byteAt l dC dI H_60.size h0 z_5 h1 tt (.int z_5) h0_3 h0_4 h0_5 h0_6 h0_7 (.int 62) h0_9 h0_10 ch1 fh1 hB_tt hI_h1) (cwV 1 hts gw_s_X10_passSign2_s_X10_byteAt_50 rfl rfl rfl (by decide +kernel) ⟨Nat.le_of_ble_eq_true rfl, Nat.le_of_ble_eq_true rfl⟩) ⟨z_blind, va_recv hKc hPc (ci := 10) (q0 := 0) rfl rfl, z_pre hPc hKc hDc⟩ rfl rfl hl.1 rfl (lv_room (Nat.le_of_ble_eq_true rfl)) dX10_passSign_79 ⟨Nat.le_of_ble_eq_true rfl, Nat.le_of_ble_eq_true rfl⟩) hS (fun q _ h => hFc q h) hFc (fun r_68 u t H_67 locs ht hvm hw_69 hB hz1 hk1 hS => ?_)
          replace hP := z_pure hP hk1
          clear hPc hDc hKc
          refine lv_imul hx hb dX10_passSign_82 ?_
          refine lv_topi (fun z_70 ez_70 => ?_)
          have kz_70 : (z_70).toInt = (256 : Int) * (r_68).toInt := by rw [ez_70]; exact z_mul (a := (256 : Int)) (b := (r_68).toInt) rfl rfl (by omega) (by omega)
          refine lv_iadd hx hb dX10_passSign_83 ?_
          refine lv_topi (fun z_71 ez_71 => ?_)
          have kz_71 : (z_71).toInt = (62 : Int) + (z_70).toInt := by rw [ez_71]; exact z_add (a := (62 : Int)) (b := (z_70).toInt) rfl rfl (by omega) (by omega)
          refine va_put (D := (dC, dI)) (ci := 10) (v := .int z_71) (ty := .int) (C := RX10) (T := TX10) (N := 11) hx hb hts hiX10 tyX10 tyX10_ok nmX10 hown hK hP hD hS 0 rfl rfl 8 (by decide) w__fieldLink_RX10_38_ShellHeap_Tape_sign_I_ (fun _ h9 => h9) rfl (by decide +kernel) rfl rfl (Nat.le_of_ble_eq_true rfl) dX10_passSign_84 (fun H_72 locs hP hD hS => ?_)
          obtain ⟨hP, hD⟩ := z_s_0_8 hP hD
          refine lv_aload_n hx hb dX10_passSign_87 rfl (lv_at hl 0 rfl) ?_
          refine lv_dup hx hb dX10_passSign_88 rfl ?_
          refine va_get (D := (dC, dI)) (ci := 10) (v := .int z_5) (C := RX10) (T := TX10) (N := 11) hx hb hts hiX10 hown hK hP 0 rfl rfl 2 (by decide) w__fieldLink_RX10_19_ShellHeap_Tape_at_I_ (fun _ h9 => h9) rfl dX10_passSign_89 ?_
          refine lv_iconst (v := 1) hx hb dX10_passSign_92 (by decide) ?_
          refine lv_iadd hx hb dX10_passSign_93 ?_
          refine lv_topi (fun z_73 ez_73 => ?_)
          have kz_73 : (z_73).toInt = (z_5).toInt + (1 : Int) := by rw [ez_73]; exact z_add (a := (z_5).toInt) (b := (1 : Int)) rfl rfl (by omega) (by omega)
          refine va_put (D := (dC, dI)) (ci := 10) (v := .int z_73) (ty := .int) (C := RX10) (T := TX10) (N := 11) hx hb hts hiX10 tyX10 tyX10_ok nmX10 hown hK hP hD hS 0 rfl rfl 2 (by decide) w__fieldLink_RX10_19_ShellHeap_Tape_at_I_ (fun _ h9 => h9) rfl (by decide +kernel) rfl rfl (Nat.le_of_ble_eq_true rfl) dX10_passSign_94 (fun H_74 locs hP hD hS => ?_)
          obtain ⟨hP, hD⟩ := z_s_0_2 hP hD
          have hP9 := hP
          have hD9 := hD
          have hK9 := hK.sub (tys' := []) [] rfl
          refine W.widen (k := 0) (n := 0) (Nat.le_of_ble_eq_true rfl) (Nat.le_of_ble_eq_true rfl) ?_
          exact W.vret hx hb hr (fun t ht hW => ⟨⟨(), rfl, trivial, ⟨z_73, z_71, (by first | omega | decide), (show z_73.toInt ≤ tt.toInt by omega), by rw [ht]; exact hP9, va_K.moved hW.alike hK9, hD9⟩⟩, hS.F ht⟩) hS.2.2 dX10_passSign_97
def u_s_X10_next2 : List Cond := .code yX10_next cX10_next 1 none :: ([.fieldLink RX10 19 "ShellHeap$Tape" "at" "I", .fieldLink RX10 15 "ShellHeap$Tape" "text" "I", .fieldLink RX10 29 "ShellHeap$Tape" "start" "I", .fieldLink RX10 38 "ShellHeap$Tape" "sign" "I", .methodLink RX10 50 yX10_byteAt, .instanceMethod yX10_byteAt, .selects RX10 yX10_byteAt yX10_byteAt, .initialized RX10, .methodLink RX10 54 yX10_isLetter, .static yX10_isLetter, .methodLink RX10 64 yX10_isDigit, .static yX10_isDigit, .fieldLink RX10 35 "ShellHeap$Tape" "sort" "I", .methodLink RX10 61 yX10_passDigits, .instanceMethod yX10_passDigits, .selects RX10 yX10_passDigits yX10_passDigits, .fieldLink RX10 32 "ShellHeap$Tape" "end" "I", .methodLink RX10 67 yX10_passSign, .instanceMethod yX10_passSign, .selects RX10 yX10_passSign yX10_passSign, .methodLink RX10 58 yX10_passLetters, .instanceMethod yX10_passLetters, .selects RX10 yX10_passLetters yX10_passLetters, .fieldLink RX10 22 "ShellHeap$Tape" "digitsJoin" "Z"] ++ (wsX100 ++ (u_s_X10_byteAt ++ (u_s_X10_isLetter ++ (u_s_X10_isDigit ++ (u_s_X10_passDigits2 ++ (u_s_X10_passSign2 ++ (u_s_X10_passLetters2 ++ []))))))))
theorem gd_s_X10_next2 : z_gd u_s_X10_next2 := z_gdc (by decide +kernel) (z_gda gdX10 (z_gda gd_s_X10_byteAt (z_gda gd_s_X10_isLetter (z_gda gd_s_X10_isDigit (z_gda gd_s_X10_passDigits2 (z_gda gd_s_X10_passSign2 (z_gda gd_s_X10_passLetters2 (z_gd0))))))))
set_option maxRecDepth 20000 in
theorem gw_s_X10_next2_s_X10_byteAt_50 : GoodIn u_s_X10_next2 (wsV RX10 50 RX10 yX10_byteAt u_s_X10_byteAt) := z_gV (z_gr _ [5, 6, 7, 8] rfl (by decide +kernel)) (fun w h => ⟨z_mc (z_mr (z_mr (z_ml h))), gd_s_X10_byteAt w h⟩)
set_option maxRecDepth 20000 in
theorem gw_s_X10_next2_s_X10_isLetter_54 : GoodIn u_s_X10_next2 (va_wsS RX10 54 yX10_isLetter u_s_X10_isLetter) := z_gS (z_gr _ [9, 10, 8] rfl (by decide +kernel)) (fun w h => ⟨z_mc (z_mr (z_mr (z_mr (z_ml h)))), gd_s_X10_isLetter w h⟩)
set_option maxRecDepth 20000 in
theorem gw_s_X10_next2_s_X10_isDigit_64 : GoodIn u_s_X10_next2 (va_wsS RX10 64 yX10_isDigit u_s_X10_isDigit) := z_gS (z_gr _ [11, 12, 8] rfl (by decide +kernel)) (fun w h => ⟨z_mc (z_mr (z_mr (z_mr (z_mr (z_ml h))))), gd_s_X10_isDigit w h⟩)
set_option maxRecDepth 20000 in
theorem gw_s_X10_next2_s_X10_passDigits2_61 : GoodIn u_s_X10_next2 (wsV RX10 61 RX10 yX10_passDigits u_s_X10_passDigits2) := z_gV (z_gr _ [14, 15, 16, 8] rfl (by decide +kernel)) (fun w h => ⟨z_mc (z_mr (z_mr (z_mr (z_mr (z_mr (z_ml h)))))), gd_s_X10_passDigits2 w h⟩)
set_option maxRecDepth 20000 in
theorem gw_s_X10_next2_s_X10_passSign2_67 : GoodIn u_s_X10_next2 (wsV RX10 67 RX10 yX10_passSign u_s_X10_passSign2) := z_gV (z_gr _ [18, 19, 20, 8] rfl (by decide +kernel)) (fun w h => ⟨z_mc (z_mr (z_mr (z_mr (z_mr (z_mr (z_mr (z_ml h))))))), gd_s_X10_passSign2 w h⟩)
set_option maxRecDepth 20000 in
theorem gw_s_X10_next2_s_X10_passLetters2_58 : GoodIn u_s_X10_next2 (wsV RX10 58 RX10 yX10_passLetters u_s_X10_passLetters2) := z_gV (z_gr _ [21, 22, 23, 8] rfl (by decide +kernel)) (fun w h => ⟨z_mc (z_mr (z_mr (z_mr (z_mr (z_mr (z_mr (z_mr (z_ml h)))))))), gd_s_X10_passLetters2 w h⟩)
set_option maxHeartbeats 4000000 in
set_option maxRecDepth 100000 in
theorem s_X10_next2 (l : Launch) (dC : Nat → ClassId) (dI : Nat → Nat → Nat) (sz : Nat) (h0 : Nat) (h1 : Nat) (tt : Int32) (ta : Int32) (tj : Int32) (tf : Int32) (ts : Int32) (te : Int32) (to : Int32) (tg : Int32) (tx : Int32) (ty : Int32) (ch1 : ClassId) (fh1 : Nat → Int32) (hB_tt : ((0 : Int) ≤ (tt).toInt ∧ (tt).toInt ≤ (700 : Int))) (hB_ta : ((0 : Int) ≤ (ta).toInt ∧ (ta).toInt ≤ (700 : Int))) (hB_tf : ((0 : Int) ≤ (tf).toInt ∧ (tf).toInt ≤ (700 : Int))) (hB_ts : ((0 : Int) ≤ (ts).toInt ∧ (ts).toInt ≤ (700 : Int))) (hB_te : ((0 : Int) ≤ (te).toInt ∧ (te).toInt ≤ (700 : Int))) (hI_h1 : ∀ j : Nat, ((0 : Int) ≤ (fh1 j).toInt ∧ (fh1 j).toInt ≤ (255 : Int))) (hle : ta.toInt ≤ tt.toInt) : Met l yX10_next u_s_X10_next2 ({ frames := 2, cells := 0, slots := 0, locals := 41 }) (va_Pc [.ref h0] (z_C (dC, dI) vwCl [(h0, .inr (10, [.ref h1, .int tt, .int ta, .int tj, .int tf, .int ts, .int te, .int to, .int tg, .int tx, .int ty])), (h1, .inl (ch1, 700, .inl fh1))] [(ch1, .int)] sz)) (va_Qv (fun (_ : Unit) => True) (fun (_ : Unit) (t : State) => ∃ (n_h0_at : Int32), ∃ (n_h0_start : Int32), ∃ (n_h0_end : Int32), ∃ (n_h0_sort : Int32), ∃ (n_h0_sign : Int32), ((0 : Int) ≤ (n_h0_at).toInt ∧ (n_h0_at).toInt ≤ (700 : Int)) ∧ ((0 : Int) ≤ (n_h0_start).toInt ∧ (n_h0_start).toInt ≤ (700 : Int)) ∧ ((0 : Int) ≤ (n_h0_end).toInt ∧ (n_h0_end).toInt ≤ (700 : Int)) ∧ ((n_h0_sort.toInt = (1 : Int) → z_tok fh1 n_h0_start.toInt n_h0_end.toInt ∧ n_h0_end.toInt ≤ tt.toInt)) ∧ (n_h0_at.toInt ≤ tt.toInt) ∧ va_P (dC, dI) vwCl [(h0, .inr (10, [.ref h1, .int tt, .int n_h0_at, .int tj, .int tf, .int n_h0_start, .int n_h0_end, .int n_h0_sort, .int n_h0_sign, .int tx, .int ty])), (h1, .inl (ch1, 700, .inl fh1))] t.heap ∧ va_K (dC, dI) vwCl [] t ∧ va_D (va_A [(h0, .inr (10, [.ref h1, .int tt, .int ta, .int tj, .int tf, .int ts, .int te, .int to, .int tg, .int tx, .int ty])), (h1, .inl (ch1, 700, .inl fh1))] sz) [(h0, .inr (10, [.ref h1, .int tt, .int n_h0_at, .int tj, .int tf, .int n_h0_start, .int n_h0_end, .int n_h0_sort, .int n_h0_sign, .int tx, .int ty])), (h1, .inl (ch1, 700, .inl fh1))]) (va_A [(h0, .inr (10, [.ref h1, .int tt, .int ta, .int tj, .int tf, .int ts, .int te, .int to, .int tg, .int tx, .int ty])), (h1, .inl (ch1, 700, .inl fh1))] sz)) 0 0 (va_A [(h0, .inr (10, [.ref h1, .int tt, .int ta, .int tj, .int tf, .int ts, .int te, .int to, .int tg, .int tx, .int ty])), (h1, .inl (ch1, 700, .inl fh1))] sz) := by
  refine Met.ofW (cc := cX10_next) (maxL := 1) (ret := none) (by decide) rfl ?_
  intro p e s m args below meth c s₁ B hml hv
  obtain ⟨rfl, hsz, hP, hK, hD0⟩ := hv
  have hx := B.exec
  have hb := B.bytes
  have hr := B.returns
  have hts := atoms_spec (ws := u_s_X10_next2) B.pre
  have hown : s.vm.findClass RX10 = some m.cls := findClass_of_methodNamed B.named
  have hlocks := B.notSynchronized
  subst hsz
  have hD := hD0.self (sz := s.heap.size)
  generalize hAe : va_A [(h0, .inr (10, [.ref h1, .int tt, .int ta, .int tj, .int tf, .int ts, .int te, .int to, .int tg, .int tx, .int ty])), (h1, .inl (ch1, 700, .inl fh1))] s.heap.size = A at hD ⊢
  have hA : ∀ q : Nat, s.heap.size ≤ q → A q := fun q h => by rw [← hAe]; exact Or.inr h
  have hS : va_S A s.heap s.heap [] := va_S.rf
  have hP : va_P (dC, dI) vwCl [(h0, .inr (10, [.ref h1, .int tt, .int ta, .int tj, .int tf, .int ts, .int te, .int to, .int tg, .int tx, .int ty])), (h1, .inl (ch1, 700, .inl fh1))] s.heap := hP
  have w__fieldLink_RX10_19_ShellHeap_Tape_at_I_ := hts (.fieldLink RX10 19 "ShellHeap$Tape" "at" "I") (z_mc (z_ml z_m0))
  have hiX10 := show ∀ w ∈ u_ws RX10 TX10 11, w ∈ u_s_X10_next2 from fun w h => z_mc (z_mr (z_ml h))
  have w__fieldLink_RX10_15_ShellHeap_Tape_text_I_ := hts (.fieldLink RX10 15 "ShellHeap$Tape" "text" "I") (z_mc (z_ml z_m1))
  have w__fieldLink_RX10_29_ShellHeap_Tape_start_I_ := hts (.fieldLink RX10 29 "ShellHeap$Tape" "start" "I") (z_mc (z_ml z_m2))
  have w__fieldLink_RX10_38_ShellHeap_Tape_sign_I_ := hts (.fieldLink RX10 38 "ShellHeap$Tape" "sign" "I") (z_mc (z_ml z_m3))
  have w__fieldLink_RX10_35_ShellHeap_Tape_sort_I_ := hts (.fieldLink RX10 35 "ShellHeap$Tape" "sort" "I") (z_mc (z_ml z_m12))
  have w__fieldLink_RX10_32_ShellHeap_Tape_end_I_ := hts (.fieldLink RX10 32 "ShellHeap$Tape" "end" "I") (z_mc (z_ml z_m16))
  have w__fieldLink_RX10_22_ShellHeap_Tape_digitsJoin_Z_ := hts (.fieldLink RX10 22 "ShellHeap$Tape" "digitsJoin" "Z") (z_mc (z_ml z_m23))
  have hl := lv_entry ([.ref h0]) (n := 1) (Nat.le_of_ble_eq_true rfl)
  rw [lg_entry_eq]
  generalize (lg_sl ([.ref h0]) ++ List.replicate (1 - (lg_sl ([.ref h0])).length) Slot.unset).toArray = ls at hl ⊢
  have hl : lv_has ls 1 [(0, .ref h0)] := hl
  refine z_nameQ (fun QQ hQQ => ?_)
  have loop_1 : ∀ (n_2 : Nat) (v_4 : Int32) (H : Heap) (locs : List Loc) (ls : Array Slot), (701 - (v_4).toInt).toNat < n_2 → (((0 : Int) ≤ (v_4).toInt ∧ (v_4).toInt ≤ (700 : Int))) → ((v_4).toInt ≤ (tt).toInt) → va_P (dC, dI) vwCl [(h0, .inr (10, [.ref h1, .int tt, .int v_4, .int tj, .int tf, .int ts, .int te, .int to, .int tg, .int tx, .int ty])), (h1, .inl (ch1, 700, .inl fh1))] H → va_D A [(h0, .inr (10, [.ref h1, .int tt, .int v_4, .int tj, .int tf, .int ts, .int te, .int to, .int tg, .int tx, .int ty])), (h1, .inl (ch1, 700, .inl fh1))] → va_S A s.heap H locs → lv_has ls 1 [(0, .ref h0)] → W p l e ({ frames := 2, cells := 0, slots := 0, locals := 41 } : Room) s m ([.ref h0] : List Value).toArray below meth c H locs 0 0 QQ (F0 m 0 ls []) := by
    intro n_2
    induction n_2 with
    | zero => intro v_4 H locs ls hm; exact absurd hm (Nat.not_lt_zero _)
    | succ n_2 ih_3 =>
      intro v_4 H locs ls hm hF_5 hF_6 hP hD hS hl
      refine lv_aload_n hx hb dX10_next_0 rfl (lv_at hl 0 rfl) ?_
      refine va_get (D := (dC, dI)) (ci := 10) (v := .int v_4) (C := RX10) (T := TX10) (N := 11) hx hb hts hiX10 hown hK hP 0 rfl rfl 2 (by decide) w__fieldLink_RX10_19_ShellHeap_Tape_at_I_ (fun _ h9 => h9) rfl dX10_next_1 ?_
      refine lv_aload_n hx hb dX10_next_4 rfl (lv_at hl 0 rfl) ?_
      refine va_get (D := (dC, dI)) (ci := 10) (v := .int tt) (C := RX10) (T := TX10) (N := 11) hx hb hts hiX10 hown hK hP 0 rfl rfl 1 (by decide) w__fieldLink_RX10_15_ShellHeap_Tape_text_I_ (fun _ h9 => h9) rfl dX10_next_5 ?_
      refine lv_icmp_ge (tgt := 50) hx hb dX10_next_8 (by decide) (fun c_7 => ?_) (fun c_7 => ?_)
      · have k_8 : (tt).toInt ≤ (v_4).toInt := z_le c_7
        refine lv_aload_n hx hb dX10_next_50 rfl (lv_at hl 0 rfl) ?_
        refine lv_aload_n hx hb dX10_next_51 rfl (lv_at hl 0 rfl) ?_
        refine va_get (D := (dC, dI)) (ci := 10) (v := .int v_4) (C := RX10) (T := TX10) (N := 11) hx hb hts hiX10 hown hK hP 0 rfl rfl 2 (by decide) w__fieldLink_RX10_19_ShellHeap_Tape_at_I_ (fun _ h9 => h9) rfl dX10_next_52 ?_
        refine va_put (D := (dC, dI)) (ci := 10) (v := .int v_4) (ty := .int) (C := RX10) (T := TX10) (N := 11) hx hb hts hiX10 tyX10 tyX10_ok nmX10 hown hK hP hD hS 0 rfl rfl 5 (by decide) w__fieldLink_RX10_29_ShellHeap_Tape_start_I_ (fun _ h9 => h9) rfl (by decide +kernel) rfl rfl (Nat.le_of_ble_eq_true rfl) dX10_next_55 (fun H_9 locs hP hD hS => ?_)
        obtain ⟨hP, hD⟩ := z_s_0_5 hP hD
        refine lv_aload_n hx hb dX10_next_58 rfl (lv_at hl 0 rfl) ?_
        refine lv_iconst (v := (-1)) hx hb dX10_next_59 (by decide) ?_
        refine va_put (D := (dC, dI)) (ci := 10) (v := .int (-1)) (ty := .int) (C := RX10) (T := TX10) (N := 11) hx hb hts hiX10 tyX10 tyX10_ok nmX10 hown hK hP hD hS 0 rfl rfl 8 (by decide) w__fieldLink_RX10_38_ShellHeap_Tape_sign_I_ (fun _ h9 => h9) rfl (by decide +kernel) rfl rfl (Nat.le_of_ble_eq_true rfl) dX10_next_60 (fun H_10 locs hP hD hS => ?_)
        obtain ⟨hP, hD⟩ := z_s_0_8 hP hD
        refine lv_aload_n hx hb dX10_next_63 rfl (lv_at hl 0 rfl) ?_
        refine va_get (D := (dC, dI)) (ci := 10) (v := .int v_4) (C := RX10) (T := TX10) (N := 11) hx hb hts hiX10 hown hK hP 0 rfl rfl 2 (by decide) w__fieldLink_RX10_19_ShellHeap_Tape_at_I_ (fun _ h9 => h9) rfl dX10_next_64 ?_
        refine lv_aload_n hx hb dX10_next_67 rfl (lv_at hl 0 rfl) ?_
        refine va_get (D := (dC, dI)) (ci := 10) (v := .int tt) (C := RX10) (T := TX10) (N := 11) hx hb hts hiX10 hown hK hP 0 rfl rfl 1 (by decide) w__fieldLink_RX10_15_ShellHeap_Tape_text_I_ (fun _ h9 => h9) rfl dX10_next_68 ?_
        refine lv_icmp_lt (tgt := 82) hx hb dX10_next_71 (by decide) (fun c_11 => ?_) (fun c_11 => ?_)
        · have k_12 : (v_4).toInt < (tt).toInt := z_lt c_11
          refine lv_aload_n hx hb dX10_next_82 rfl (lv_at hl 0 rfl) ?_
          refine lv_aload_n hx hb dX10_next_83 rfl (lv_at hl 0 rfl) ?_
          refine va_get (D := (dC, dI)) (ci := 10) (v := .int v_4) (C := RX10) (T := TX10) (N := 11) hx hb hts hiX10 hown hK hP 0 rfl rfl 2 (by decide) w__fieldLink_RX10_19_ShellHeap_Tape_at_I_ (fun _ h9 => h9) rfl dX10_next_84 ?_
          have hPc := hP
          have hDc := hD
          have hKc := hK
          have hFc := va_free (ws := []) (wc := []) (z_D0 _) hS hA [] rfl
          refine va_calli (va_runV (As := [.int v_4]) (rest := []) ⟨hx, hb, hml, hown, hts⟩ (s_X10_byteAt l dC dI H_10.size h0 v_4 h1 tt (.int v_4) (.int tj) (.int tf) (.int v_4) (.int te) (.int to) (.int (-1)) (.int tx) (.int ty) ch1 fh1 hB_tt hI_h1) (cwV 1 hts gw_s_X10_next2_s_X10_byteAt_50 rfl rfl rfl (by decide +kernel) ⟨Nat.le_of_ble_eq_true rfl, Nat.le_of_ble_eq_true rfl⟩) ⟨z_blind, va_recv hKc hPc (ci := 10) (q0 := 0) rfl rfl, z_pre hPc hKc hDc⟩ rfl rfl hl.1 rfl (lv_room (Nat.le_of_ble_eq_true rfl)) dX10_next_87 ⟨Nat.le_of_ble_eq_true rfl, Nat.le_of_ble_eq_true rfl⟩) hS (fun q _ h => hFc q h) hFc (fun r_14 u t H_13 locs ht hvm hw_15 hB hz1 hk1 hS => ?_)
          replace hP := z_pure hP hk1
          clear hPc hDc hKc
          obtain ⟨hPc, hDc⟩ := z_sub2 (ws' := []) hP hD [] (by decide) rfl
          have hKc := hK.sub (tys' := []) [] rfl
          have hFc := va_free (ws := []) (wc := []) (z_D0 _) hS hA [] rfl
          refine va_calli (va_runS (As := [.int r_14]) (rest := []) ⟨hx, hb, hml, hown, hts⟩ (s_X10_isLetter l dC dI H_13.size r_14) (va_cwS 1 hts gw_s_X10_next2_s_X10_isLetter_54 rfl rfl rfl (by decide +kernel) ⟨Nat.le_of_ble_eq_true rfl, Nat.le_of_ble_eq_true rfl⟩) ⟨z_blind, z_pre hPc hKc hDc⟩ rfl rfl hl.1 rfl (lv_room (Nat.le_of_ble_eq_true rfl)) dX10_next_90 ⟨Nat.le_of_ble_eq_true rfl, Nat.le_of_ble_eq_true rfl⟩) hS (fun q _ h => hFc q h) hFc (fun r_17 u t H_16 locs ht hvm hw_18 hB hz1 hk1 hS => ?_)
          replace hP := z_pure hP hk1
          clear hPc hDc hKc
          refine lv_if_eq (tgt := 119) hx hb dX10_next_93 (by decide) (fun c_19 => ?_) (fun c_19 => ?_)
          · have k_20 : (r_17).toInt = (0 : Int) := z_eq c_19
            obtain rfl : r_17 = 0 := z_eq' (show (r_17).toInt = (0 : Int) by omega)
            refine lv_aload_n hx hb dX10_next_119 rfl (lv_at hl 0 rfl) ?_
            refine lv_aload_n hx hb dX10_next_120 rfl (lv_at hl 0 rfl) ?_
            refine va_get (D := (dC, dI)) (ci := 10) (v := .int v_4) (C := RX10) (T := TX10) (N := 11) hx hb hts hiX10 hown hK hP 0 rfl rfl 2 (by decide) w__fieldLink_RX10_19_ShellHeap_Tape_at_I_ (fun _ h9 => h9) rfl dX10_next_121 ?_
            have hPc := hP
            have hDc := hD
            have hKc := hK
            have hFc := va_free (ws := []) (wc := []) (z_D0 _) hS hA [] rfl
            refine va_calli (va_runV (As := [.int v_4]) (rest := []) ⟨hx, hb, hml, hown, hts⟩ (s_X10_byteAt l dC dI H_16.size h0 v_4 h1 tt (.int v_4) (.int tj) (.int tf) (.int v_4) (.int te) (.int to) (.int (-1)) (.int tx) (.int ty) ch1 fh1 hB_tt hI_h1) (cwV 1 hts gw_s_X10_next2_s_X10_byteAt_50 rfl rfl rfl (by decide +kernel) ⟨Nat.le_of_ble_eq_true rfl, Nat.le_of_ble_eq_true rfl⟩) ⟨z_blind, va_recv hKc hPc (ci := 10) (q0 := 0) rfl rfl, z_pre hPc hKc hDc⟩ rfl rfl hl.1 rfl (lv_room (Nat.le_of_ble_eq_true rfl)) dX10_next_124 ⟨Nat.le_of_ble_eq_true rfl, Nat.le_of_ble_eq_true rfl⟩) hS (fun q _ h => hFc q h) hFc (fun r_23 u t H_22 locs ht hvm hw_24 hB hz1 hk1 hS => ?_)
            replace hP := z_pure hP hk1
            clear hPc hDc hKc
            obtain ⟨hPc, hDc⟩ := z_sub2 (ws' := []) hP hD [] (by decide) rfl
            have hKc := hK.sub (tys' := []) [] rfl
            have hFc := va_free (ws := []) (wc := []) (z_D0 _) hS hA [] rfl
            refine va_calli (va_runS (As := [.int r_23]) (rest := []) ⟨hx, hb, hml, hown, hts⟩ (s_X10_isDigit l dC dI H_22.size r_23) (va_cwS 1 hts gw_s_X10_next2_s_X10_isDigit_64 rfl rfl rfl (by decide +kernel) ⟨Nat.le_of_ble_eq_true rfl, Nat.le_of_ble_eq_true rfl⟩) ⟨z_blind, z_pre hPc hKc hDc⟩ rfl rfl hl.1 rfl (lv_room (Nat.le_of_ble_eq_true rfl)) dX10_next_127 ⟨Nat.le_of_ble_eq_true rfl, Nat.le_of_ble_eq_true rfl⟩) hS (fun q _ h => hFc q h) hFc (fun r_26 u t H_25 locs ht hvm hw_27 hB hz1 hk1 hS => ?_)
            replace hP := z_pure hP hk1
            clear hPc hDc hKc
            rcases hw_27 with ⟨rfl, hw_27⟩ | ⟨rfl, hw_27⟩
            · have hw_27 : (48 ≤ r_23.toInt ∧ r_23.toInt ≤ 57) := hw_27
              refine lv_if_eq (tgt := 145) hx hb dX10_next_130 (by decide) (fun c_28 => absurd c_28 (by decide)) (fun _ => ?_)
              refine lv_aload_n hx hb dX10_next_133 rfl (lv_at hl 0 rfl) ?_
              refine lv_iconst (v := 2) hx hb dX10_next_134 (by decide) ?_
              refine va_put (D := (dC, dI)) (ci := 10) (v := .int 2) (ty := .int) (C := RX10) (T := TX10) (N := 11) hx hb hts hiX10 tyX10 tyX10_ok nmX10 hown hK hP hD hS 0 rfl rfl 7 (by decide) w__fieldLink_RX10_35_ShellHeap_Tape_sort_I_ (fun _ h9 => h9) rfl (by decide +kernel) rfl rfl (Nat.le_of_ble_eq_true rfl) dX10_next_135 (fun H_29 locs hP hD hS => ?_)
              obtain ⟨hP, hD⟩ := z_s_0_7 hP hD
              refine lv_aload_n hx hb dX10_next_138 rfl (lv_at hl 0 rfl) ?_
              have hPc := hP
              have hDc := hD
              have hKc := hK
              have hFc := z_freeI hD hS hA
              refine va_callv (va_runV (As := []) (rest := []) ⟨hx, hb, hml, hown, hts⟩ (s_X10_passDigits2 l dC dI H_29.size h0 h1 tt v_4 (.int tj) (.int tf) (.int v_4) (.int te) (.int 2) (.int (-1)) (.int tx) (.int ty) ch1 fh1 hB_tt hF_5 hI_h1 (by first | omega | decide)) (cwV 0 hts gw_s_X10_next2_s_X10_passDigits2_61 rfl rfl rfl (by decide +kernel) ⟨Nat.le_of_ble_eq_true rfl, Nat.le_of_ble_eq_true rfl⟩) ⟨z_blind, va_recv hKc hPc (ci := 10) (q0 := 0) rfl rfl, z_pre hPc hKc hDc⟩ rfl rfl hl.1 rfl (lv_room (Nat.le_of_ble_eq_true rfl)) dX10_next_139 ⟨Nat.le_of_ble_eq_true rfl, Nat.le_of_ble_eq_true rfl⟩) hS (fun q _ h => hFc q h) hFc (fun u t H_30 locs ht hvm hw_32 hB hz1 hk1 hS => ?_)
              obtain ⟨n_h0_at_33, hp_34, hp_35, hp_36, hP1, hK1, hD1⟩ := hB
              rw [ht] at hP1
              have hK1 := va_K.moved hvm.symm hK1
              obtain ⟨hP, hD⟩ := z_ap_0 (va_join (wr := []) hP hD [0, 1] [] rfl rfl (by decide) (by decide) hk1 hFc hP1 hD1)
              have hp_35 : v_4.toInt ≤ n_h0_at_33.toInt ∧ n_h0_at_33.toInt ≤ tt.toInt := hp_35
              have hp_36 : z_tok fh1 v_4.toInt n_h0_at_33.toInt := hp_36
              clear hPc hDc hKc
              refine lv_goto (tgt := 154) hx hb dX10_next_142 (by decide) ?_
              refine lv_aload_n hx hb dX10_next_154 rfl (lv_at hl 0 rfl) ?_
              refine lv_aload_n hx hb dX10_next_155 rfl (lv_at hl 0 rfl) ?_
              refine va_get (D := (dC, dI)) (ci := 10) (v := .int n_h0_at_33) (C := RX10) (T := TX10) (N := 11) hx hb hts hiX10 hown hK hP 0 rfl rfl 2 (by decide) w__fieldLink_RX10_19_ShellHeap_Tape_at_I_ (fun _ h9 => h9) rfl dX10_next_156 ?_
              refine va_put (D := (dC, dI)) (ci := 10) (v := .int n_h0_at_33) (ty := .int) (C := RX10) (T := TX10) (N := 11) hx hb hts hiX10 tyX10 tyX10_ok nmX10 hown hK hP hD hS 0 rfl rfl 6 (by decide) w__fieldLink_RX10_32_ShellHeap_Tape_end_I_ (fun _ h9 => h9) rfl (by decide +kernel) rfl rfl (Nat.le_of_ble_eq_true rfl) dX10_next_159 (fun H_37 locs hP hD hS => ?_)
              obtain ⟨hP, hD⟩ := z_s_0_6 hP hD
              refine z_backQ hQQ ?_
              have hP9 := hP
              have hD9 := hD
              have hK9 := hK.sub (tys' := []) [] rfl
              refine W.widen (k := 0) (n := 0) (Nat.le_of_ble_eq_true rfl) (Nat.le_of_ble_eq_true rfl) ?_
              exact W.vret hx hb hr (fun t ht hW => ⟨⟨(), rfl, trivial, ⟨n_h0_at_33, v_4, n_h0_at_33, 2, (-1), hp_34, hF_5, hp_34, (fun h9 => absurd h9 (by decide)), (show n_h0_at_33.toInt ≤ tt.toInt by omega), by rw [ht]; exact hP9, va_K.moved hW.alike hK9, hD9⟩⟩, hS.F ht⟩) hS.2.2 dX10_next_162
            · have hw_27 : True := hw_27
              refine lv_if_eq (tgt := 145) hx hb dX10_next_130 (by decide) (fun _ => ?_) (fun c_38 => absurd (by decide) c_38)
              refine lv_aload_n hx hb dX10_next_145 rfl (lv_at hl 0 rfl) ?_
              refine lv_iconst (v := 3) hx hb dX10_next_146 (by decide) ?_
              refine va_put (D := (dC, dI)) (ci := 10) (v := .int 3) (ty := .int) (C := RX10) (T := TX10) (N := 11) hx hb hts hiX10 tyX10 tyX10_ok nmX10 hown hK hP hD hS 0 rfl rfl 7 (by decide) w__fieldLink_RX10_35_ShellHeap_Tape_sort_I_ (fun _ h9 => h9) rfl (by decide +kernel) rfl rfl (Nat.le_of_ble_eq_true rfl) dX10_next_147 (fun H_39 locs hP hD hS => ?_)
              obtain ⟨hP, hD⟩ := z_s_0_7 hP hD
              refine lv_aload_n hx hb dX10_next_150 rfl (lv_at hl 0 rfl) ?_
              have hPc := hP
              have hDc := hD
              have hKc := hK
              have hFc := z_freeI hD hS hA
              refine va_callv (va_runV (As := []) (rest := []) ⟨hx, hb, hml, hown, hts⟩ (s_X10_passSign2 l dC dI H_39.size h0 h1 tt v_4 (.int tj) (.int tf) (.int v_4) (.int te) (.int 3) (-1) (.int tx) (.int ty) ch1 fh1 hB_tt hF_5 hI_h1 (by first | omega | decide)) (cwV 0 hts gw_s_X10_next2_s_X10_passSign2_67 rfl rfl rfl (by decide +kernel) ⟨Nat.le_of_ble_eq_true rfl, Nat.le_of_ble_eq_true rfl⟩) ⟨z_blind, va_recv hKc hPc (ci := 10) (q0 := 0) rfl rfl, z_pre hPc hKc hDc⟩ rfl rfl hl.1 rfl (lv_room (Nat.le_of_ble_eq_true rfl)) dX10_next_151 ⟨Nat.le_of_ble_eq_true rfl, Nat.le_of_ble_eq_true rfl⟩) hS (fun q _ h => hFc q h) hFc (fun u t H_40 locs ht hvm hw_42 hB hz1 hk1 hS => ?_)
              obtain ⟨n_h0_at_43, n_h0_sign_44, hp_45, hp_46, hP1, hK1, hD1⟩ := hB
              rw [ht] at hP1
              have hK1 := va_K.moved hvm.symm hK1
              obtain ⟨hP, hD⟩ := z_ap_0 (va_join (wr := []) hP hD [0, 1] [] rfl rfl (by decide) (by decide) hk1 hFc hP1 hD1)
              have hp_46 : n_h0_at_43.toInt ≤ tt.toInt := hp_46
              clear hPc hDc hKc
              refine lv_aload_n hx hb dX10_next_154 rfl (lv_at hl 0 rfl) ?_
              refine lv_aload_n hx hb dX10_next_155 rfl (lv_at hl 0 rfl) ?_
              refine va_get (D := (dC, dI)) (ci := 10) (v := .int n_h0_at_43) (C := RX10) (T := TX10) (N := 11) hx hb hts hiX10 hown hK hP 0 rfl rfl 2 (by decide) w__fieldLink_RX10_19_ShellHeap_Tape_at_I_ (fun _ h9 => h9) rfl dX10_next_156 ?_
              refine va_put (D := (dC, dI)) (ci := 10) (v := .int n_h0_at_43) (ty := .int) (C := RX10) (T := TX10) (N := 11) hx hb hts hiX10 tyX10 tyX10_ok nmX10 hown hK hP hD hS 0 rfl rfl 6 (by decide) w__fieldLink_RX10_32_ShellHeap_Tape_end_I_ (fun _ h9 => h9) rfl (by decide +kernel) rfl rfl (Nat.le_of_ble_eq_true rfl) dX10_next_159 (fun H_47 locs hP hD hS => ?_)
              obtain ⟨hP, hD⟩ := z_s_0_6 hP hD
              refine z_backQ hQQ ?_
              have hP9 := hP
              have hD9 := hD
              have hK9 := hK.sub (tys' := []) [] rfl
              refine W.widen (k := 0) (n := 0) (Nat.le_of_ble_eq_true rfl) (Nat.le_of_ble_eq_true rfl) ?_
              exact W.vret hx hb hr (fun t ht hW => ⟨⟨(), rfl, trivial, ⟨n_h0_at_43, v_4, n_h0_at_43, 3, n_h0_sign_44, hp_45, hF_5, hp_45, (fun h9 => absurd h9 (by decide)), (show n_h0_at_43.toInt ≤ tt.toInt by omega), by rw [ht]; exact hP9, va_K.moved hW.alike hK9, hD9⟩⟩, hS.F ht⟩) hS.2.2 dX10_next_162
          · have k_48 : (r_17).toInt ≠ (0 : Int) := z_ne c_19
            obtain rfl : r_17 = 1 := z_eq' (show (r_17).toInt = (1 : Int) by omega)
            refine lv_aload_n hx hb dX10_next_96 rfl (lv_at hl 0 rfl) ?_
            refine lv_iconst (v := 1) hx hb dX10_next_97 (by decide) ?_
            refine va_put (D := (dC, dI)) (ci := 10) (v := .int 1) (ty := .int) (C := RX10) (T := TX10) (N := 11) hx hb hts hiX10 tyX10 tyX10_ok nmX10 hown hK hP hD hS 0 rfl rfl 7 (by decide) w__fieldLink_RX10_35_ShellHeap_Tape_sort_I_ (fun _ h9 => h9) rfl (by decide +kernel) rfl rfl (Nat.le_of_ble_eq_true rfl) dX10_next_98 (fun H_50 locs hP hD hS => ?_)
            obtain ⟨hP, hD⟩ := z_s_0_7 hP hD
            refine lv_aload_n hx hb dX10_next_101 rfl (lv_at hl 0 rfl) ?_
            have hPc := hP
            have hDc := hD
            have hKc := hK
            have hFc := z_freeI hD hS hA
            refine va_callv (va_runV (As := []) (rest := []) ⟨hx, hb, hml, hown, hts⟩ (s_X10_passLetters2 l dC dI H_50.size h0 h1 tt v_4 (.int tj) (.int tf) (.int v_4) (.int te) (.int 1) (.int (-1)) (.int tx) (.int ty) ch1 fh1 hB_tt hF_5 hI_h1 (by first | omega | decide)) (cwV 0 hts gw_s_X10_next2_s_X10_passLetters2_58 rfl rfl rfl (by decide +kernel) ⟨Nat.le_of_ble_eq_true rfl, Nat.le_of_ble_eq_true rfl⟩) ⟨z_blind, va_recv hKc hPc (ci := 10) (q0 := 0) rfl rfl, z_pre hPc hKc hDc⟩ rfl rfl hl.1 rfl (lv_room (Nat.le_of_ble_eq_true rfl)) dX10_next_102 ⟨Nat.le_of_ble_eq_true rfl, Nat.le_of_ble_eq_true rfl⟩) hS (fun q _ h => hFc q h) hFc (fun u t H_51 locs ht hvm hw_53 hB hz1 hk1 hS => ?_)
            obtain ⟨n_h0_at_54, hp_55, hp_56, hp_57, hP1, hK1, hD1⟩ := hB
            rw [ht] at hP1
            have hK1 := va_K.moved hvm.symm hK1
            obtain ⟨hP, hD⟩ := z_ap_0 (va_join (wr := []) hP hD [0, 1] [] rfl rfl (by decide) (by decide) hk1 hFc hP1 hD1)
            have hp_56 : v_4.toInt ≤ n_h0_at_54.toInt ∧ n_h0_at_54.toInt ≤ tt.toInt := hp_56
            have hp_57 : z_tok fh1 v_4.toInt n_h0_at_54.toInt := hp_57
            clear hPc hDc hKc
            refine lv_aload_n hx hb dX10_next_105 rfl (lv_at hl 0 rfl) ?_
            refine va_get (D := (dC, dI)) (ci := 10) (v := .int tj) (C := RX10) (T := TX10) (N := 11) hx hb hts hiX10 hown hK hP 0 rfl rfl 3 (by decide) w__fieldLink_RX10_22_ShellHeap_Tape_digitsJoin_Z_ (fun _ h9 => h9) rfl dX10_next_106 ?_
            refine lv_if_eq (tgt := 154) hx hb dX10_next_109 (by decide) (fun c_58 => ?_) (fun c_58 => ?_)
            · have k_59 : (tj).toInt = (0 : Int) := z_eq c_58
              obtain rfl : tj = 0 := z_eq' (show (tj).toInt = (0 : Int) by omega)
              refine lv_aload_n hx hb dX10_next_154 rfl (lv_at hl 0 rfl) ?_
              refine lv_aload_n hx hb dX10_next_155 rfl (lv_at hl 0 rfl) ?_
              refine va_get (D := (dC, dI)) (ci := 10) (v := .int n_h0_at_54) (C := RX10) (T := TX10) (N := 11) hx hb hts hiX10 hown hK hP 0 rfl rfl 2 (by decide) w__fieldLink_RX10_19_ShellHeap_Tape_at_I_ (fun _ h9 => h9) rfl dX10_next_156 ?_
              refine va_put (D := (dC, dI)) (ci := 10) (v := .int n_h0_at_54) (ty := .int) (C := RX10) (T := TX10) (N := 11) hx hb hts hiX10 tyX10 tyX10_ok nmX10 hown hK hP hD hS 0 rfl rfl 6 (by decide) w__fieldLink_RX10_32_ShellHeap_Tape_end_I_ (fun _ h9 => h9) rfl (by decide +kernel) rfl rfl (Nat.le_of_ble_eq_true rfl) dX10_next_159 (fun H_61 locs hP hD hS => ?_)
              obtain ⟨hP, hD⟩ := z_s_0_6 hP hD
              refine z_backQ hQQ ?_
              have hP9 := hP
              have hD9 := hD
              have hK9 := hK.sub (tys' := []) [] rfl
              refine W.widen (k := 0) (n := 0) (Nat.le_of_ble_eq_true rfl) (Nat.le_of_ble_eq_true rfl) ?_
              exact W.vret hx hb hr (fun t ht hW => ⟨⟨(), rfl, trivial, ⟨n_h0_at_54, v_4, n_h0_at_54, 1, (-1), hp_55, hF_5, hp_55, (fun _ => ⟨hp_57, by omega⟩), (show n_h0_at_54.toInt ≤ tt.toInt by omega), by rw [ht]; exact hP9, va_K.moved hW.alike hK9, hD9⟩⟩, hS.F ht⟩) hS.2.2 dX10_next_162
            · have k_62 : (tj).toInt ≠ (0 : Int) := z_ne c_58
              refine lv_aload_n hx hb dX10_next_112 rfl (lv_at hl 0 rfl) ?_
              have hPc := hP
              have hDc := hD
              have hKc := hK
              have hFc := z_freeI hD hS hA
              refine va_callv (va_runV (As := []) (rest := []) ⟨hx, hb, hml, hown, hts⟩ (s_X10_passDigits2 l dC dI H_51.size h0 h1 tt n_h0_at_54 (.int tj) (.int tf) (.int v_4) (.int te) (.int 1) (.int (-1)) (.int tx) (.int ty) ch1 fh1 hB_tt hp_55 hI_h1 (by first | omega | decide)) (cwV 0 hts gw_s_X10_next2_s_X10_passDigits2_61 rfl rfl rfl (by decide +kernel) ⟨Nat.le_of_ble_eq_true rfl, Nat.le_of_ble_eq_true rfl⟩) ⟨z_blind, va_recv hKc hPc (ci := 10) (q0 := 0) rfl rfl, z_pre hPc hKc hDc⟩ rfl rfl hl.1 rfl (lv_room (Nat.le_of_ble_eq_true rfl)) dX10_next_113 ⟨Nat.le_of_ble_eq_true rfl, Nat.le_of_ble_eq_true rfl⟩) hS (fun q _ h => hFc q h) hFc (fun u t H_63 locs ht hvm hw_65 hB hz1 hk1 hS => ?_)
              obtain ⟨n_h0_at_66, hp_67, hp_68, hp_69, hP1, hK1, hD1⟩ := hB
              rw [ht] at hP1
              have hK1 := va_K.moved hvm.symm hK1
              obtain ⟨hP, hD⟩ := z_ap_0 (va_join (wr := []) hP hD [0, 1] [] rfl rfl (by decide) (by decide) hk1 hFc hP1 hD1)
              have hp_68 : n_h0_at_54.toInt ≤ n_h0_at_66.toInt ∧ n_h0_at_66.toInt ≤ tt.toInt := hp_68
              have hp_69 : z_tok fh1 n_h0_at_54.toInt n_h0_at_66.toInt := hp_69
              clear hPc hDc hKc
              refine lv_goto (tgt := 154) hx hb dX10_next_116 (by decide) ?_
              refine lv_aload_n hx hb dX10_next_154 rfl (lv_at hl 0 rfl) ?_
              refine lv_aload_n hx hb dX10_next_155 rfl (lv_at hl 0 rfl) ?_
              refine va_get (D := (dC, dI)) (ci := 10) (v := .int n_h0_at_66) (C := RX10) (T := TX10) (N := 11) hx hb hts hiX10 hown hK hP 0 rfl rfl 2 (by decide) w__fieldLink_RX10_19_ShellHeap_Tape_at_I_ (fun _ h9 => h9) rfl dX10_next_156 ?_
              refine va_put (D := (dC, dI)) (ci := 10) (v := .int n_h0_at_66) (ty := .int) (C := RX10) (T := TX10) (N := 11) hx hb hts hiX10 tyX10 tyX10_ok nmX10 hown hK hP hD hS 0 rfl rfl 6 (by decide) w__fieldLink_RX10_32_ShellHeap_Tape_end_I_ (fun _ h9 => h9) rfl (by decide +kernel) rfl rfl (Nat.le_of_ble_eq_true rfl) dX10_next_159 (fun H_70 locs hP hD hS => ?_)
              obtain ⟨hP, hD⟩ := z_s_0_6 hP hD
              refine z_backQ hQQ ?_
              have hP9 := hP
              have hD9 := hD
              have hK9 := hK.sub (tys' := []) [] rfl
              refine W.widen (k := 0) (n := 0) (Nat.le_of_ble_eq_true rfl) (Nat.le_of_ble_eq_true rfl) ?_
              exact W.vret hx hb hr (fun t ht hW => ⟨⟨(), rfl, trivial, ⟨n_h0_at_66, v_4, n_h0_at_66, 1, (-1), hp_67, hF_5, hp_67, (fun _ => ⟨z_tokA hp_57 hp_69, by omega⟩), (show n_h0_at_66.toInt ≤ tt.toInt by omega), by rw [ht]; exact hP9, va_K.moved hW.alike hK9, hD9⟩⟩, hS.F ht⟩) hS.2.2 dX10_next_162
        · have k_71 : (v_4).toInt ≥ (tt).toInt := z_nlt c_11
          refine lv_aload_n hx hb dX10_next_74 rfl (lv_at hl 0 rfl) ?_
          refine lv_iconst (v := 0) hx hb dX10_next_75 (by decide) ?_
          refine va_put (D := (dC, dI)) (ci := 10) (v := .int 0) (ty := .int) (C := RX10) (T := TX10) (N := 11) hx hb hts hiX10 tyX10 tyX10_ok nmX10 hown hK hP hD hS 0 rfl rfl 7 (by decide) w__fieldLink_RX10_35_ShellHeap_Tape_sort_I_ (fun _ h9 => h9) rfl (by decide +kernel) rfl rfl (Nat.le_of_ble_eq_true rfl) dX10_next_76 (fun H_72 locs hP hD hS => ?_)
          obtain ⟨hP, hD⟩ := z_s_0_7 hP hD
          refine lv_goto (tgt := 154) hx hb dX10_next_79 (by decide) ?_
          refine lv_aload_n hx hb dX10_next_154 rfl (lv_at hl 0 rfl) ?_
          refine lv_aload_n hx hb dX10_next_155 rfl (lv_at hl 0 rfl) ?_
          refine va_get (D := (dC, dI)) (ci := 10) (v := .int v_4) (C := RX10) (T := TX10) (N := 11) hx hb hts hiX10 hown hK hP 0 rfl rfl 2 (by decide) w__fieldLink_RX10_19_ShellHeap_Tape_at_I_ (fun _ h9 => h9) rfl dX10_next_156 ?_
          refine va_put (D := (dC, dI)) (ci := 10) (v := .int v_4) (ty := .int) (C := RX10) (T := TX10) (N := 11) hx hb hts hiX10 tyX10 tyX10_ok nmX10 hown hK hP hD hS 0 rfl rfl 6 (by decide) w__fieldLink_RX10_32_ShellHeap_Tape_end_I_ (fun _ h9 => h9) rfl (by decide +kernel) rfl rfl (Nat.le_of_ble_eq_true rfl) dX10_next_159 (fun H_73 locs hP hD hS => ?_)
          obtain ⟨hP, hD⟩ := z_s_0_6 hP hD
          refine z_backQ hQQ ?_
          have hP9 := hP
          have hD9 := hD
          have hK9 := hK.sub (tys' := []) [] rfl
          refine W.widen (k := 0) (n := 0) (Nat.le_of_ble_eq_true rfl) (Nat.le_of_ble_eq_true rfl) ?_
          exact W.vret hx hb hr (fun t ht hW => ⟨⟨(), rfl, trivial, ⟨v_4, v_4, v_4, 0, (-1), hF_5, hF_5, hF_5, (fun h9 => absurd h9 (by decide)), (show v_4.toInt ≤ tt.toInt by omega), by rw [ht]; exact hP9, va_K.moved hW.alike hK9, hD9⟩⟩, hS.F ht⟩) hS.2.2 dX10_next_162
      · have k_74 : (tt).toInt > (v_4).toInt := z_nle c_7
        refine lv_aload_n hx hb dX10_next_11 rfl (lv_at hl 0 rfl) ?_
        refine lv_aload_n hx hb dX10_next_12 rfl (lv_at hl 0 rfl) ?_
        refine va_get (D := (dC, dI)) (ci := 10) (v := .int v_4) (C := RX10) (T := TX10) (N := 11) hx hb hts hiX10 hown hK hP 0 rfl rfl 2 (by decide) w__fieldLink_RX10_19_ShellHeap_Tape_at_I_ (fun _ h9 => h9) rfl dX10_next_13 ?_
        have hPc := hP
        have hDc := hD
        have hKc := hK
        have hFc := va_free (ws := []) (wc := []) (z_D0 _) hS hA [] rfl
        refine va_calli (va_runV (As := [.int v_4]) (rest := []) ⟨hx, hb, hml, hown, hts⟩ (s_X10_byteAt l dC dI H.size h0 v_4 h1 tt (.int v_4) (.int tj) (.int tf) (.int ts) (.int te) (.int to) (.int tg) (.int tx) (.int ty) ch1 fh1 hB_tt hI_h1) (cwV 1 hts gw_s_X10_next2_s_X10_byteAt_50 rfl rfl rfl (by decide +kernel) ⟨Nat.le_of_ble_eq_true rfl, Nat.le_of_ble_eq_true rfl⟩) ⟨z_blind, va_recv hKc hPc (ci := 10) (q0 := 0) rfl rfl, z_pre hPc hKc hDc⟩ rfl rfl hl.1 rfl (lv_room (Nat.le_of_ble_eq_true rfl)) dX10_next_16 ⟨Nat.le_of_ble_eq_true rfl, Nat.le_of_ble_eq_true rfl⟩) hS (fun q _ h => hFc q h) hFc (fun r_76 u t H_75 locs ht hvm hw_77 hB hz1 hk1 hS => ?_)
        replace hP := z_pure hP hk1
        clear hPc hDc hKc
        refine lv_bipush (v := 10) hx hb dX10_next_19 (by decide) ?_
        refine lv_icmp_eq (tgt := 37) hx hb dX10_next_21 (by decide) (fun c_78 => ?_) (fun c_78 => ?_)
        · have k_79 : (r_76).toInt = (10 : Int) := z_eq c_78
          obtain rfl : r_76 = 10 := z_eq' (show (r_76).toInt = (10 : Int) by omega)
          refine lv_aload_n hx hb dX10_next_37 rfl (lv_at hl 0 rfl) ?_
          refine lv_dup hx hb dX10_next_38 rfl ?_
          refine va_get (D := (dC, dI)) (ci := 10) (v := .int v_4) (C := RX10) (T := TX10) (N := 11) hx hb hts hiX10 hown hK hP 0 rfl rfl 2 (by decide) w__fieldLink_RX10_19_ShellHeap_Tape_at_I_ (fun _ h9 => h9) rfl dX10_next_39 ?_
          refine lv_iconst (v := 1) hx hb dX10_next_42 (by decide) ?_
          refine lv_iadd hx hb dX10_next_43 ?_
          refine lv_topi (fun z_81 ez_81 => ?_)
          have kz_81 : (z_81).toInt = (v_4).toInt + (1 : Int) := by rw [ez_81]; exact z_add (a := (v_4).toInt) (b := (1 : Int)) rfl rfl (z_al hF_5.1 (by decide)) (z_ah hF_5.2 (by decide))
          refine va_put (D := (dC, dI)) (ci := 10) (v := .int z_81) (ty := .int) (C := RX10) (T := TX10) (N := 11) hx hb hts hiX10 tyX10 tyX10_ok nmX10 hown hK hP hD hS 0 rfl rfl 2 (by decide) w__fieldLink_RX10_19_ShellHeap_Tape_at_I_ (fun _ h9 => h9) rfl (by decide +kernel) rfl rfl (Nat.le_of_ble_eq_true rfl) dX10_next_44 (fun H_82 locs hP hD hS => ?_)
          obtain ⟨hP, hD⟩ := z_s_0_2 hP hD
          refine lv_goto (tgt := 0) hx hb dX10_next_47 (by decide) ?_
          exact ih_3 z_81 _ _ _ (show (701 - (z_81).toInt).toNat < n_2 by omega) (show ((0 : Int) ≤ (z_81).toInt ∧ (z_81).toInt ≤ (700 : Int)) by omega) (show (z_81).toInt ≤ (tt).toInt by omega) hP hD hS (lv_sub hl [0] rfl)
        · have k_83 : (r_76).toInt ≠ (10 : Int) := z_ne c_78
          refine lv_aload_n hx hb dX10_next_24 rfl (lv_at hl 0 rfl) ?_
          refine lv_aload_n hx hb dX10_next_25 rfl (lv_at hl 0 rfl) ?_
          refine va_get (D := (dC, dI)) (ci := 10) (v := .int v_4) (C := RX10) (T := TX10) (N := 11) hx hb hts hiX10 hown hK hP 0 rfl rfl 2 (by decide) w__fieldLink_RX10_19_ShellHeap_Tape_at_I_ (fun _ h9 => h9) rfl dX10_next_26 ?_
          have hPc := hP
          have hDc := hD
          have hKc := hK
          have hFc := va_free (ws := []) (wc := []) (z_D0 _) hS hA [] rfl
          refine va_calli (va_runV (As := [.int v_4]) (rest := []) ⟨hx, hb, hml, hown, hts⟩ (s_X10_byteAt l dC dI H_75.size h0 v_4 h1 tt (.int v_4) (.int tj) (.int tf) (.int ts) (.int te) (.int to) (.int tg) (.int tx) (.int ty) ch1 fh1 hB_tt hI_h1) (cwV 1 hts gw_s_X10_next2_s_X10_byteAt_50 rfl rfl rfl (by decide +kernel) ⟨Nat.le_of_ble_eq_true rfl, Nat.le_of_ble_eq_true rfl⟩) ⟨z_blind, va_recv hKc hPc (ci := 10) (q0 := 0) rfl rfl, z_pre hPc hKc hDc⟩ rfl rfl hl.1 rfl (lv_room (Nat.le_of_ble_eq_true rfl)) dX10_next_29 ⟨Nat.le_of_ble_eq_true rfl, Nat.le_of_ble_eq_true rfl⟩) hS (fun q _ h => hFc q h) hFc (fun r_85 u t H_84 locs ht hvm hw_86 hB hz1 hk1 hS => ?_)
          replace hP := z_pure hP hk1
          clear hPc hDc hKc
          refine lv_bipush (v := 32) hx hb dX10_next_32 (by decide) ?_
          refine lv_icmp_ne (tgt := 50) hx hb dX10_next_34 (by decide) (fun c_87 => ?_) (fun c_87 => ?_)
          · have k_88 : (r_85).toInt ≠ (32 : Int) := z_ne c_87
            refine lv_aload_n hx hb dX10_next_50 rfl (lv_at hl 0 rfl) ?_
            refine lv_aload_n hx hb dX10_next_51 rfl (lv_at hl 0 rfl) ?_
            refine va_get (D := (dC, dI)) (ci := 10) (v := .int v_4) (C := RX10) (T := TX10) (N := 11) hx hb hts hiX10 hown hK hP 0 rfl rfl 2 (by decide) w__fieldLink_RX10_19_ShellHeap_Tape_at_I_ (fun _ h9 => h9) rfl dX10_next_52 ?_
            refine va_put (D := (dC, dI)) (ci := 10) (v := .int v_4) (ty := .int) (C := RX10) (T := TX10) (N := 11) hx hb hts hiX10 tyX10 tyX10_ok nmX10 hown hK hP hD hS 0 rfl rfl 5 (by decide) w__fieldLink_RX10_29_ShellHeap_Tape_start_I_ (fun _ h9 => h9) rfl (by decide +kernel) rfl rfl (Nat.le_of_ble_eq_true rfl) dX10_next_55 (fun H_89 locs hP hD hS => ?_)
            obtain ⟨hP, hD⟩ := z_s_0_5 hP hD
            refine lv_aload_n hx hb dX10_next_58 rfl (lv_at hl 0 rfl) ?_
            refine lv_iconst (v := (-1)) hx hb dX10_next_59 (by decide) ?_
            refine va_put (D := (dC, dI)) (ci := 10) (v := .int (-1)) (ty := .int) (C := RX10) (T := TX10) (N := 11) hx hb hts hiX10 tyX10 tyX10_ok nmX10 hown hK hP hD hS 0 rfl rfl 8 (by decide) w__fieldLink_RX10_38_ShellHeap_Tape_sign_I_ (fun _ h9 => h9) rfl (by decide +kernel) rfl rfl (Nat.le_of_ble_eq_true rfl) dX10_next_60 (fun H_90 locs hP hD hS => ?_)
            obtain ⟨hP, hD⟩ := z_s_0_8 hP hD
            refine lv_aload_n hx hb dX10_next_63 rfl (lv_at hl 0 rfl) ?_
            refine va_get (D := (dC, dI)) (ci := 10) (v := .int v_4) (C := RX10) (T := TX10) (N := 11) hx hb hts hiX10 hown hK hP 0 rfl rfl 2 (by decide) w__fieldLink_RX10_19_ShellHeap_Tape_at_I_ (fun _ h9 => h9) rfl dX10_next_64 ?_
            refine lv_aload_n hx hb dX10_next_67 rfl (lv_at hl 0 rfl) ?_
            refine va_get (D := (dC, dI)) (ci := 10) (v := .int tt) (C := RX10) (T := TX10) (N := 11) hx hb hts hiX10 hown hK hP 0 rfl rfl 1 (by decide) w__fieldLink_RX10_15_ShellHeap_Tape_text_I_ (fun _ h9 => h9) rfl dX10_next_68 ?_
            refine lv_icmp_lt (tgt := 82) hx hb dX10_next_71 (by decide) (fun c_91 => ?_) (fun c_91 => ?_)
            · have k_92 : (v_4).toInt < (tt).toInt := z_lt c_91
              refine lv_aload_n hx hb dX10_next_82 rfl (lv_at hl 0 rfl) ?_
              refine lv_aload_n hx hb dX10_next_83 rfl (lv_at hl 0 rfl) ?_
              refine va_get (D := (dC, dI)) (ci := 10) (v := .int v_4) (C := RX10) (T := TX10) (N := 11) hx hb hts hiX10 hown hK hP 0 rfl rfl 2 (by decide) w__fieldLink_RX10_19_ShellHeap_Tape_at_I_ (fun _ h9 => h9) rfl dX10_next_84 ?_
              have hPc := hP
              have hDc := hD
              have hKc := hK
              have hFc := va_free (ws := []) (wc := []) (z_D0 _) hS hA [] rfl
              refine va_calli (va_runV (As := [.int v_4]) (rest := []) ⟨hx, hb, hml, hown, hts⟩ (s_X10_byteAt l dC dI H_90.size h0 v_4 h1 tt (.int v_4) (.int tj) (.int tf) (.int v_4) (.int te) (.int to) (.int (-1)) (.int tx) (.int ty) ch1 fh1 hB_tt hI_h1) (cwV 1 hts gw_s_X10_next2_s_X10_byteAt_50 rfl rfl rfl (by decide +kernel) ⟨Nat.le_of_ble_eq_true rfl, Nat.le_of_ble_eq_true rfl⟩) ⟨z_blind, va_recv hKc hPc (ci := 10) (q0 := 0) rfl rfl, z_pre hPc hKc hDc⟩ rfl rfl hl.1 rfl (lv_room (Nat.le_of_ble_eq_true rfl)) dX10_next_87 ⟨Nat.le_of_ble_eq_true rfl, Nat.le_of_ble_eq_true rfl⟩) hS (fun q _ h => hFc q h) hFc (fun r_94 u t H_93 locs ht hvm hw_95 hB hz1 hk1 hS => ?_)
              replace hP := z_pure hP hk1
              clear hPc hDc hKc
              obtain ⟨hPc, hDc⟩ := z_sub2 (ws' := []) hP hD [] (by decide) rfl
              have hKc := hK.sub (tys' := []) [] rfl
              have hFc := va_free (ws := []) (wc := []) (z_D0 _) hS hA [] rfl
              refine va_calli (va_runS (As := [.int r_94]) (rest := []) ⟨hx, hb, hml, hown, hts⟩ (s_X10_isLetter l dC dI H_93.size r_94) (va_cwS 1 hts gw_s_X10_next2_s_X10_isLetter_54 rfl rfl rfl (by decide +kernel) ⟨Nat.le_of_ble_eq_true rfl, Nat.le_of_ble_eq_true rfl⟩) ⟨z_blind, z_pre hPc hKc hDc⟩ rfl rfl hl.1 rfl (lv_room (Nat.le_of_ble_eq_true rfl)) dX10_next_90 ⟨Nat.le_of_ble_eq_true rfl, Nat.le_of_ble_eq_true rfl⟩) hS (fun q _ h => hFc q h) hFc (fun r_97 u t H_96 locs ht hvm hw_98 hB hz1 hk1 hS => ?_)
              replace hP := z_pure hP hk1
              clear hPc hDc hKc
              refine lv_if_eq (tgt := 119) hx hb dX10_next_93 (by decide) (fun c_99 => ?_) (fun c_99 => ?_)
              · have k_100 : (r_97).toInt = (0 : Int) := z_eq c_99
                obtain rfl : r_97 = 0 := z_eq' (show (r_97).toInt = (0 : Int) by omega)
                refine lv_aload_n hx hb dX10_next_119 rfl (lv_at hl 0 rfl) ?_
                refine lv_aload_n hx hb dX10_next_120 rfl (lv_at hl 0 rfl) ?_
                refine va_get (D := (dC, dI)) (ci := 10) (v := .int v_4) (C := RX10) (T := TX10) (N := 11) hx hb hts hiX10 hown hK hP 0 rfl rfl 2 (by decide) w__fieldLink_RX10_19_ShellHeap_Tape_at_I_ (fun _ h9 => h9) rfl dX10_next_121 ?_
                have hPc := hP
                have hDc := hD
                have hKc := hK
                have hFc := va_free (ws := []) (wc := []) (z_D0 _) hS hA [] rfl
                refine va_calli (va_runV (As := [.int v_4]) (rest := []) ⟨hx, hb, hml, hown, hts⟩ (s_X10_byteAt l dC dI H_96.size h0 v_4 h1 tt (.int v_4) (.int tj) (.int tf) (.int v_4) (.int te) (.int to) (.int (-1)) (.int tx) (.int ty) ch1 fh1 hB_tt hI_h1) (cwV 1 hts gw_s_X10_next2_s_X10_byteAt_50 rfl rfl rfl (by decide +kernel) ⟨Nat.le_of_ble_eq_true rfl, Nat.le_of_ble_eq_true rfl⟩) ⟨z_blind, va_recv hKc hPc (ci := 10) (q0 := 0) rfl rfl, z_pre hPc hKc hDc⟩ rfl rfl hl.1 rfl (lv_room (Nat.le_of_ble_eq_true rfl)) dX10_next_124 ⟨Nat.le_of_ble_eq_true rfl, Nat.le_of_ble_eq_true rfl⟩) hS (fun q _ h => hFc q h) hFc (fun r_103 u t H_102 locs ht hvm hw_104 hB hz1 hk1 hS => ?_)
                replace hP := z_pure hP hk1
                clear hPc hDc hKc
                obtain ⟨hPc, hDc⟩ := z_sub2 (ws' := []) hP hD [] (by decide) rfl
                have hKc := hK.sub (tys' := []) [] rfl
                have hFc := va_free (ws := []) (wc := []) (z_D0 _) hS hA [] rfl
                refine va_calli (va_runS (As := [.int r_103]) (rest := []) ⟨hx, hb, hml, hown, hts⟩ (s_X10_isDigit l dC dI H_102.size r_103) (va_cwS 1 hts gw_s_X10_next2_s_X10_isDigit_64 rfl rfl rfl (by decide +kernel) ⟨Nat.le_of_ble_eq_true rfl, Nat.le_of_ble_eq_true rfl⟩) ⟨z_blind, z_pre hPc hKc hDc⟩ rfl rfl hl.1 rfl (lv_room (Nat.le_of_ble_eq_true rfl)) dX10_next_127 ⟨Nat.le_of_ble_eq_true rfl, Nat.le_of_ble_eq_true rfl⟩) hS (fun q _ h => hFc q h) hFc (fun r_106 u t H_105 locs ht hvm hw_107 hB hz1 hk1 hS => ?_)
                replace hP := z_pure hP hk1
                clear hPc hDc hKc
                rcases hw_107 with ⟨rfl, hw_107⟩ | ⟨rfl, hw_107⟩
                · have hw_107 : (48 ≤ r_103.toInt ∧ r_103.toInt ≤ 57) := hw_107
                  refine lv_if_eq (tgt := 145) hx hb dX10_next_130 (by decide) (fun c_108 => absurd c_108 (by decide)) (fun _ => ?_)
                  refine lv_aload_n hx hb dX10_next_133 rfl (lv_at hl 0 rfl) ?_
                  refine lv_iconst (v := 2) hx hb dX10_next_134 (by decide) ?_
                  refine va_put (D := (dC, dI)) (ci := 10) (v := .int 2) (ty := .int) (C := RX10) (T := TX10) (N := 11) hx hb hts hiX10 tyX10 tyX10_ok nmX10 hown hK hP hD hS 0 rfl rfl 7 (by decide) w__fieldLink_RX10_35_ShellHeap_Tape_sort_I_ (fun _ h9 => h9) rfl (by decide +kernel) rfl rfl (Nat.le_of_ble_eq_true rfl) dX10_next_135 (fun H_109 locs hP hD hS => ?_)
                  obtain ⟨hP, hD⟩ := z_s_0_7 hP hD
                  refine lv_aload_n hx hb dX10_next_138 rfl (lv_at hl 0 rfl) ?_
                  have hPc := hP
                  have hDc := hD
                  have hKc := hK
                  have hFc := z_freeI hD hS hA
                  refine va_callv (va_runV (As := []) (rest := []) ⟨hx, hb, hml, hown, hts⟩ (s_X10_passDigits2 l dC dI H_109.size h0 h1 tt v_4 (.int tj) (.int tf) (.int v_4) (.int te) (.int 2) (.int (-1)) (.int tx) (.int ty) ch1 fh1 hB_tt hF_5 hI_h1 (by first | omega | decide)) (cwV 0 hts gw_s_X10_next2_s_X10_passDigits2_61 rfl rfl rfl (by decide +kernel) ⟨Nat.le_of_ble_eq_true rfl, Nat.le_of_ble_eq_true rfl⟩) ⟨z_blind, va_recv hKc hPc (ci := 10) (q0 := 0) rfl rfl, z_pre hPc hKc hDc⟩ rfl rfl hl.1 rfl (lv_room (Nat.le_of_ble_eq_true rfl)) dX10_next_139 ⟨Nat.le_of_ble_eq_true rfl, Nat.le_of_ble_eq_true rfl⟩) hS (fun q _ h => hFc q h) hFc (fun u t H_110 locs ht hvm hw_112 hB hz1 hk1 hS => ?_)
                  obtain ⟨n_h0_at_113, hp_114, hp_115, hp_116, hP1, hK1, hD1⟩ := hB
                  rw [ht] at hP1
                  have hK1 := va_K.moved hvm.symm hK1
                  obtain ⟨hP, hD⟩ := z_ap_0 (va_join (wr := []) hP hD [0, 1] [] rfl rfl (by decide) (by decide) hk1 hFc hP1 hD1)
                  have hp_115 : v_4.toInt ≤ n_h0_at_113.toInt ∧ n_h0_at_113.toInt ≤ tt.toInt := hp_115
                  have hp_116 : z_tok fh1 v_4.toInt n_h0_at_113.toInt := hp_116
                  clear hPc hDc hKc
                  refine lv_goto (tgt := 154) hx hb dX10_next_142 (by decide) ?_
                  refine lv_aload_n hx hb dX10_next_154 rfl (lv_at hl 0 rfl) ?_
                  refine lv_aload_n hx hb dX10_next_155 rfl (lv_at hl 0 rfl) ?_
                  refine va_get (D := (dC, dI)) (ci := 10) (v := .int n_h0_at_113) (C := RX10) (T := TX10) (N := 11) hx hb hts hiX10 hown hK hP 0 rfl rfl 2 (by decide) w__fieldLink_RX10_19_ShellHeap_Tape_at_I_ (fun _ h9 => h9) rfl dX10_next_156 ?_
                  refine va_put (D := (dC, dI)) (ci := 10) (v := .int n_h0_at_113) (ty := .int) (C := RX10) (T := TX10) (N := 11) hx hb hts hiX10 tyX10 tyX10_ok nmX10 hown hK hP hD hS 0 rfl rfl 6 (by decide) w__fieldLink_RX10_32_ShellHeap_Tape_end_I_ (fun _ h9 => h9) rfl (by decide +kernel) rfl rfl (Nat.le_of_ble_eq_true rfl) dX10_next_159 (fun H_117 locs hP hD hS => ?_)
                  obtain ⟨hP, hD⟩ := z_s_0_6 hP hD
                  refine z_backQ hQQ ?_
                  have hP9 := hP
                  have hD9 := hD
                  have hK9 := hK.sub (tys' := []) [] rfl
                  refine W.widen (k := 0) (n := 0) (Nat.le_of_ble_eq_true rfl) (Nat.le_of_ble_eq_true rfl) ?_
                  exact W.vret hx hb hr (fun t ht hW => ⟨⟨(), rfl, trivial, ⟨n_h0_at_113, v_4, n_h0_at_113, 2, (-1), hp_114, hF_5, hp_114, (fun h9 => absurd h9 (by decide)), (show n_h0_at_113.toInt ≤ tt.toInt by omega), by rw [ht]; exact hP9, va_K.moved hW.alike hK9, hD9⟩⟩, hS.F ht⟩) hS.2.2 dX10_next_162
                · have hw_107 : True := hw_107
                  refine lv_if_eq (tgt := 145) hx hb dX10_next_130 (by decide) (fun _ => ?_) (fun c_118 => absurd (by decide) c_118)
                  refine lv_aload_n hx hb dX10_next_145 rfl (lv_at hl 0 rfl) ?_
                  refine lv_iconst (v := 3) hx hb dX10_next_146 (by decide) ?_
                  refine va_put (D := (dC, dI)) (ci := 10) (v := .int 3) (ty := .int) (C := RX10) (T := TX10) (N := 11) hx hb hts hiX10 tyX10 tyX10_ok nmX10 hown hK hP hD hS 0 rfl rfl 7 (by decide) w__fieldLink_RX10_35_ShellHeap_Tape_sort_I_ (fun _ h9 => h9) rfl (by decide +kernel) rfl rfl (Nat.le_of_ble_eq_true rfl) dX10_next_147 (fun H_119 locs hP hD hS => ?_)
                  obtain ⟨hP, hD⟩ := z_s_0_7 hP hD
                  refine lv_aload_n hx hb dX10_next_150 rfl (lv_at hl 0 rfl) ?_
                  have hPc := hP
                  have hDc := hD
                  have hKc := hK
                  have hFc := z_freeI hD hS hA
                  refine va_callv (va_runV (As := []) (rest := []) ⟨hx, hb, hml, hown, hts⟩ (s_X10_passSign2 l dC dI H_119.size h0 h1 tt v_4 (.int tj) (.int tf) (.int v_4) (.int te) (.int 3) (-1) (.int tx) (.int ty) ch1 fh1 hB_tt hF_5 hI_h1 (by first | omega | decide)) (cwV 0 hts gw_s_X10_next2_s_X10_passSign2_67 rfl rfl rfl (by decide +kernel) ⟨Nat.le_of_ble_eq_true rfl, Nat.le_of_ble_eq_true rfl⟩) ⟨z_blind, va_recv hKc hPc (ci := 10) (q0 := 0) rfl rfl, z_pre hPc hKc hDc⟩ rfl rfl hl.1 rfl (lv_room (Nat.le_of_ble_eq_true rfl)) dX10_next_151 ⟨Nat.le_of_ble_eq_true rfl, Nat.le_of_ble_eq_true rfl⟩) hS (fun q _ h => hFc q h) hFc (fun u t H_120 locs ht hvm hw_122 hB hz1 hk1 hS => ?_)
                  obtain ⟨n_h0_at_123, n_h0_sign_124, hp_125, hp_126, hP1, hK1, hD1⟩ := hB
                  rw [ht] at hP1
                  have hK1 := va_K.moved hvm.symm hK1
                  obtain ⟨hP, hD⟩ := z_ap_0 (va_join (wr := []) hP hD [0, 1] [] rfl rfl (by decide) (by decide) hk1 hFc hP1 hD1)
                  have hp_126 : n_h0_at_123.toInt ≤ tt.toInt := hp_126
                  clear hPc hDc hKc
                  refine lv_aload_n hx hb dX10_next_154 rfl (lv_at hl 0 rfl) ?_
                  refine lv_aload_n hx hb dX10_next_155 rfl (lv_at hl 0 rfl) ?_
                  refine va_get (D := (dC, dI)) (ci := 10) (v := .int n_h0_at_123) (C := RX10) (T := TX10) (N := 11) hx hb hts hiX10 hown hK hP 0 rfl rfl 2 (by decide) w__fieldLink_RX10_19_ShellHeap_Tape_at_I_ (fun _ h9 => h9) rfl dX10_next_156 ?_
                  refine va_put (D := (dC, dI)) (ci := 10) (v := .int n_h0_at_123) (ty := .int) (C := RX10) (T := TX10) (N := 11) hx hb hts hiX10 tyX10 tyX10_ok nmX10 hown hK hP hD hS 0 rfl rfl 6 (by decide) w__fieldLink_RX10_32_ShellHeap_Tape_end_I_ (fun _ h9 => h9) rfl (by decide +kernel) rfl rfl (Nat.le_of_ble_eq_true rfl) dX10_next_159 (fun H_127 locs hP hD hS => ?_)
                  obtain ⟨hP, hD⟩ := z_s_0_6 hP hD
                  refine z_backQ hQQ ?_
                  have hP9 := hP
                  have hD9 := hD
                  have hK9 := hK.sub (tys' := []) [] rfl
                  refine W.widen (k := 0) (n := 0) (Nat.le_of_ble_eq_true rfl) (Nat.le_of_ble_eq_true rfl) ?_
                  exact W.vret hx hb hr (fun t ht hW => ⟨⟨(), rfl, trivial, ⟨n_h0_at_123, v_4, n_h0_at_123, 3, n_h0_sign_124, hp_125, hF_5, hp_125, (fun h9 => absurd h9 (by decide)), (show n_h0_at_123.toInt ≤ tt.toInt by omega), by rw [ht]; exact hP9, va_K.moved hW.alike hK9, hD9⟩⟩, hS.F ht⟩) hS.2.2 dX10_next_162
              · have k_128 : (r_97).toInt ≠ (0 : Int) := z_ne c_99
                obtain rfl : r_97 = 1 := z_eq' (show (r_97).toInt = (1 : Int) by omega)
                refine lv_aload_n hx hb dX10_next_96 rfl (lv_at hl 0 rfl) ?_
                refine lv_iconst (v := 1) hx hb dX10_next_97 (by decide) ?_
                refine va_put (D := (dC, dI)) (ci := 10) (v := .int 1) (ty := .int) (C := RX10) (T := TX10) (N := 11) hx hb hts hiX10 tyX10 tyX10_ok nmX10 hown hK hP hD hS 0 rfl rfl 7 (by decide) w__fieldLink_RX10_35_ShellHeap_Tape_sort_I_ (fun _ h9 => h9) rfl (by decide +kernel) rfl rfl (Nat.le_of_ble_eq_true rfl) dX10_next_98 (fun H_130 locs hP hD hS => ?_)
                obtain ⟨hP, hD⟩ := z_s_0_7 hP hD
                refine lv_aload_n hx hb dX10_next_101 rfl (lv_at hl 0 rfl) ?_
                have hPc := hP
                have hDc := hD
                have hKc := hK
                have hFc := z_freeI hD hS hA
                refine va_callv (va_runV (As := []) (rest := []) ⟨hx, hb, hml, hown, hts⟩ (s_X10_passLetters2 l dC dI H_130.size h0 h1 tt v_4 (.int tj) (.int tf) (.int v_4) (.int te) (.int 1) (.int (-1)) (.int tx) (.int ty) ch1 fh1 hB_tt hF_5 hI_h1 (by first | omega | decide)) (cwV 0 hts gw_s_X10_next2_s_X10_passLetters2_58 rfl rfl rfl (by decide +kernel) ⟨Nat.le_of_ble_eq_true rfl, Nat.le_of_ble_eq_true rfl⟩) ⟨z_blind, va_recv hKc hPc (ci := 10) (q0 := 0) rfl rfl, z_pre hPc hKc hDc⟩ rfl rfl hl.1 rfl (lv_room (Nat.le_of_ble_eq_true rfl)) dX10_next_102 ⟨Nat.le_of_ble_eq_true rfl, Nat.le_of_ble_eq_true rfl⟩) hS (fun q _ h => hFc q h) hFc (fun u t H_131 locs ht hvm hw_133 hB hz1 hk1 hS => ?_)
                obtain ⟨n_h0_at_134, hp_135, hp_136, hp_137, hP1, hK1, hD1⟩ := hB
                rw [ht] at hP1
                have hK1 := va_K.moved hvm.symm hK1
                obtain ⟨hP, hD⟩ := z_ap_0 (va_join (wr := []) hP hD [0, 1] [] rfl rfl (by decide) (by decide) hk1 hFc hP1 hD1)
                have hp_136 : v_4.toInt ≤ n_h0_at_134.toInt ∧ n_h0_at_134.toInt ≤ tt.toInt := hp_136
                have hp_137 : z_tok fh1 v_4.toInt n_h0_at_134.toInt := hp_137
                clear hPc hDc hKc
                refine lv_aload_n hx hb dX10_next_105 rfl (lv_at hl 0 rfl) ?_
                refine va_get (D := (dC, dI)) (ci := 10) (v := .int tj) (C := RX10) (T := TX10) (N := 11) hx hb hts hiX10 hown hK hP 0 rfl rfl 3 (by decide) w__fieldLink_RX10_22_ShellHeap_Tape_digitsJoin_Z_ (fun _ h9 => h9) rfl dX10_next_106 ?_
                refine lv_if_eq (tgt := 154) hx hb dX10_next_109 (by decide) (fun c_138 => ?_) (fun c_138 => ?_)
                · have k_139 : (tj).toInt = (0 : Int) := z_eq c_138
                  obtain rfl : tj = 0 := z_eq' (show (tj).toInt = (0 : Int) by omega)
                  refine lv_aload_n hx hb dX10_next_154 rfl (lv_at hl 0 rfl) ?_
                  refine lv_aload_n hx hb dX10_next_155 rfl (lv_at hl 0 rfl) ?_
                  refine va_get (D := (dC, dI)) (ci := 10) (v := .int n_h0_at_134) (C := RX10) (T := TX10) (N := 11) hx hb hts hiX10 hown hK hP 0 rfl rfl 2 (by decide) w__fieldLink_RX10_19_ShellHeap_Tape_at_I_ (fun _ h9 => h9) rfl dX10_next_156 ?_
                  refine va_put (D := (dC, dI)) (ci := 10) (v := .int n_h0_at_134) (ty := .int) (C := RX10) (T := TX10) (N := 11) hx hb hts hiX10 tyX10 tyX10_ok nmX10 hown hK hP hD hS 0 rfl rfl 6 (by decide) w__fieldLink_RX10_32_ShellHeap_Tape_end_I_ (fun _ h9 => h9) rfl (by decide +kernel) rfl rfl (Nat.le_of_ble_eq_true rfl) dX10_next_159 (fun H_141 locs hP hD hS => ?_)
                  obtain ⟨hP, hD⟩ := z_s_0_6 hP hD
                  refine z_backQ hQQ ?_
                  have hP9 := hP
                  have hD9 := hD
                  have hK9 := hK.sub (tys' := []) [] rfl
                  refine W.widen (k := 0) (n := 0) (Nat.le_of_ble_eq_true rfl) (Nat.le_of_ble_eq_true rfl) ?_
                  exact W.vret hx hb hr (fun t ht hW => ⟨⟨(), rfl, trivial, ⟨n_h0_at_134, v_4, n_h0_at_134, 1, (-1), hp_135, hF_5, hp_135, (fun _ => ⟨hp_137, by omega⟩), (show n_h0_at_134.toInt ≤ tt.toInt by omega), by rw [ht]; exact hP9, va_K.moved hW.alike hK9, hD9⟩⟩, hS.F ht⟩) hS.2.2 dX10_next_162
                · have k_142 : (tj).toInt ≠ (0 : Int) := z_ne c_138
                  refine lv_aload_n hx hb dX10_next_112 rfl (lv_at hl 0 rfl) ?_
                  have hPc := hP
                  have hDc := hD
                  have hKc := hK
                  have hFc := z_freeI hD hS hA
                  refine va_callv (va_runV (As := []) (rest := []) ⟨hx, hb, hml, hown, hts⟩ (s_X10_passDigits2 l dC dI H_131.size h0 h1 tt n_h0_at_134 (.int tj) (.int tf) (.int v_4) (.int te) (.int 1) (.int (-1)) (.int tx) (.int ty) ch1 fh1 hB_tt hp_135 hI_h1 (by first | omega | decide)) (cwV 0 hts gw_s_X10_next2_s_X10_passDigits2_61 rfl rfl rfl (by decide +kernel) ⟨Nat.le_of_ble_eq_true rfl, Nat.le_of_ble_eq_true rfl⟩) ⟨z_blind, va_recv hKc hPc (ci := 10) (q0 := 0) rfl rfl, z_pre hPc hKc hDc⟩ rfl rfl hl.1 rfl (lv_room (Nat.le_of_ble_eq_true rfl)) dX10_next_113 ⟨Nat.le_of_ble_eq_true rfl, Nat.le_of_ble_eq_true rfl⟩) hS (fun q _ h => hFc q h) hFc (fun u t H_143 locs ht hvm hw_145 hB hz1 hk1 hS => ?_)
                  obtain ⟨n_h0_at_146, hp_147, hp_148, hp_149, hP1, hK1, hD1⟩ := hB
                  rw [ht] at hP1
                  have hK1 := va_K.moved hvm.symm hK1
                  obtain ⟨hP, hD⟩ := z_ap_0 (va_join (wr := []) hP hD [0, 1] [] rfl rfl (by decide) (by decide) hk1 hFc hP1 hD1)
                  have hp_148 : n_h0_at_134.toInt ≤ n_h0_at_146.toInt ∧ n_h0_at_146.toInt ≤ tt.toInt := hp_148
                  have hp_149 : z_tok fh1 n_h0_at_134.toInt n_h0_at_146.toInt := hp_149
                  clear hPc hDc hKc
                  refine lv_goto (tgt := 154) hx hb dX10_next_116 (by decide) ?_
                  refine lv_aload_n hx hb dX10_next_154 rfl (lv_at hl 0 rfl) ?_
                  refine lv_aload_n hx hb dX10_next_155 rfl (lv_at hl 0 rfl) ?_
                  refine va_get (D := (dC, dI)) (ci := 10) (v := .int n_h0_at_146) (C := RX10) (T := TX10) (N := 11) hx hb hts hiX10 hown hK hP 0 rfl rfl 2 (by decide) w__fieldLink_RX10_19_ShellHeap_Tape_at_I_ (fun _ h9 => h9) rfl dX10_next_156 ?_
                  refine va_put (D := (dC, dI)) (ci := 10) (v := .int n_h0_at_146) (ty := .int) (C := RX10) (T := TX10) (N := 11) hx hb hts hiX10 tyX10 tyX10_ok nmX10 hown hK hP hD hS 0 rfl rfl 6 (by decide) w__fieldLink_RX10_32_ShellHeap_Tape_end_I_ (fun _ h9 => h9) rfl (by decide +kernel) rfl rfl (Nat.le_of_ble_eq_true rfl) dX10_next_159 (fun H_150 locs hP hD hS => ?_)
                  obtain ⟨hP, hD⟩ := z_s_0_6 hP hD
                  refine z_backQ hQQ ?_
                  have hP9 := hP
                  have hD9 := hD
                  have hK9 := hK.sub (tys' := []) [] rfl
                  refine W.widen (k := 0) (n := 0) (Nat.le_of_ble_eq_true rfl) (Nat.le_of_ble_eq_true rfl) ?_
                  exact W.vret hx hb hr (fun t ht hW => ⟨⟨(), rfl, trivial, ⟨n_h0_at_146, v_4, n_h0_at_146, 1, (-1), hp_147, hF_5, hp_147, (fun _ => ⟨z_tokA hp_137 hp_149, by omega⟩), (show n_h0_at_146.toInt ≤ tt.toInt by omega), by rw [ht]; exact hP9, va_K.moved hW.alike hK9, hD9⟩⟩, hS.F ht⟩) hS.2.2 dX10_next_162
            · have k_151 : (v_4).toInt ≥ (tt).toInt := z_nlt c_91
              refine lv_aload_n hx hb dX10_next_74 rfl (lv_at hl 0 rfl) ?_
              refine lv_iconst (v := 0) hx hb dX10_next_75 (by decide) ?_
              refine va_put (D := (dC, dI)) (ci := 10) (v := .int 0) (ty := .int) (C := RX10) (T := TX10) (N := 11) hx hb hts hiX10 tyX10 tyX10_ok nmX10 hown hK hP hD hS 0 rfl rfl 7 (by decide) w__fieldLink_RX10_35_ShellHeap_Tape_sort_I_ (fun _ h9 => h9) rfl (by decide +kernel) rfl rfl (Nat.le_of_ble_eq_true rfl) dX10_next_76 (fun H_152 locs hP hD hS => ?_)
              obtain ⟨hP, hD⟩ := z_s_0_7 hP hD
              refine lv_goto (tgt := 154) hx hb dX10_next_79 (by decide) ?_
              refine lv_aload_n hx hb dX10_next_154 rfl (lv_at hl 0 rfl) ?_
              refine lv_aload_n hx hb dX10_next_155 rfl (lv_at hl 0 rfl) ?_
              refine va_get (D := (dC, dI)) (ci := 10) (v := .int v_4) (C := RX10) (T := TX10) (N := 11) hx hb hts hiX10 hown hK hP 0 rfl rfl 2 (by decide) w__fieldLink_RX10_19_ShellHeap_Tape_at_I_ (fun _ h9 => h9) rfl dX10_next_156 ?_
              refine va_put (D := (dC, dI)) (ci := 10) (v := .int v_4) (ty := .int) (C := RX10) (T := TX10) (N := 11) hx hb hts hiX10 tyX10 tyX10_ok nmX10 hown hK hP hD hS 0 rfl rfl 6 (by decide) w__fieldLink_RX10_32_ShellHeap_Tape_end_I_ (fun _ h9 => h9) rfl (by decide +kernel) rfl rfl (Nat.le_of_ble_eq_true rfl) dX10_next_159 (fun H_153 locs hP hD hS => ?_)
              obtain ⟨hP, hD⟩ := z_s_0_6 hP hD
              refine z_backQ hQQ ?_
              have hP9 := hP
              have hD9 := hD
              have hK9 := hK.sub (tys' := []) [] rfl
              refine W.widen (k := 0) (n := 0) (Nat.le_of_ble_eq_true rfl) (Nat.le_of_ble_eq_true rfl) ?_
              exact W.vret hx hb hr (fun t ht hW => ⟨⟨(), rfl, trivial, ⟨v_4, v_4, v_4, 0, (-1), hF_5, hF_5, hF_5, (fun h9 => absurd h9 (by decide)), (show v_4.toInt ≤ tt.toInt by omega), by rw [ht]; exact hP9, va_K.moved hW.alike hK9, hD9⟩⟩, hS.F ht⟩) hS.2.2 dX10_next_162
          · have k_154 : (r_85).toInt = (32 : Int) := z_eq c_87
            obtain rfl : r_85 = 32 := z_eq' (show (r_85).toInt = (32 : Int) by omega)
            refine lv_aload_n hx hb dX10_next_37 rfl (lv_at hl 0 rfl) ?_
            refine lv_dup hx hb dX10_next_38 rfl ?_
            refine va_get (D := (dC, dI)) (ci := 10) (v := .int v_4) (C := RX10) (T := TX10) (N := 11) hx hb hts hiX10 hown hK hP 0 rfl rfl 2 (by decide) w__fieldLink_RX10_19_ShellHeap_Tape_at_I_ (fun _ h9 => h9) rfl dX10_next_39 ?_
            refine lv_iconst (v := 1) hx hb dX10_next_42 (by decide) ?_
            refine lv_iadd hx hb dX10_next_43 ?_
            refine lv_topi (fun z_156 ez_156 => ?_)
            have kz_156 : (z_156).toInt = (v_4).toInt + (1 : Int) := by rw [ez_156]; exact z_add (a := (v_4).toInt) (b := (1 : Int)) rfl rfl (z_al hF_5.1 (by decide)) (z_ah hF_5.2 (by decide))
            refine va_put (D := (dC, dI)) (ci := 10) (v := .int z_156) (ty := .int) (C := RX10) (T := TX10) (N := 11) hx hb hts hiX10 tyX10 tyX10_ok nmX10 hown hK hP hD hS 0 rfl rfl 2 (by decide) w__fieldLink_RX10_19_ShellHeap_Tape_at_I_ (fun _ h9 => h9) rfl (by decide +kernel) rfl rfl (Nat.le_of_ble_eq_true rfl) dX10_next_44 (fun H_157 locs hP hD hS => ?_)
            obtain ⟨hP, hD⟩ := z_s_0_2 hP hD
            refine lv_goto (tgt := 0) hx hb dX10_next_47 (by decide) ?_
            exact ih_3 z_156 _ _ _ (show (701 - (z_156).toInt).toNat < n_2 by omega) (show ((0 : Int) ≤ (z_156).toInt ∧ (z_156).toInt ≤ (700 : Int)) by omega) (show (z_156).toInt ≤ (tt).toInt by omega) hP hD hS (lv_sub hl [0] rfl)
  exact loop_1 _ ta _ _ _ (Nat.lt_succ_self _) (show ((0 : Int) ≤ (ta).toInt ∧ (ta).toInt ≤ (700 : Int)) by omega) (show (ta).toInt ≤ (tt).toInt by omega) hP hD hS hl
def u_s_X10_open_f : List Cond := .code yX10_open cX10_open 3 none :: ([.fieldLink RX10 15 "ShellHeap$Tape" "text" "I", .fieldLink RX10 22 "ShellHeap$Tape" "digitsJoin" "Z", .fieldLink RX10 26 "ShellHeap$Tape" "fed" "I", .fieldLink RX10 19 "ShellHeap$Tape" "at" "I", .fieldLink RX10 41 "ShellHeap$Tape" "faultSort" "I", .fieldLink RX10 44 "ShellHeap$Tape" "faultPlace" "I", .methodLink RX10 47 yX10_next, .instanceMethod yX10_next, .selects RX10 yX10_next yX10_next, .initialized RX10] ++ (wsX100 ++ (u_s_X10_next2 ++ [])))
theorem gd_s_X10_open_f : z_gd u_s_X10_open_f := z_gdc (by decide +kernel) (z_gda gdX10 (z_gda gd_s_X10_next2 (z_gd0)))
set_option maxRecDepth 20000 in
theorem gw_s_X10_open_f_s_X10_next2_47 : GoodIn u_s_X10_open_f (wsV RX10 47 RX10 yX10_next u_s_X10_next2) := z_gV (z_gr _ [7, 8, 9, 10] rfl (by decide +kernel)) (fun w h => ⟨z_mc (z_mr (z_mr (z_ml h))), gd_s_X10_next2 w h⟩)
set_option maxHeartbeats 4000000 in
set_option maxRecDepth 100000 in
theorem s_X10_open_f (l : Launch) (dC : Nat → ClassId) (dI : Nat → Nat → Nat) (sz : Nat) (h0 : Nat) (p1 : Int32) (h1 : Nat) (tt : Int32) (ta : Int32) (tj : Int32) (tf : Int32) (ts : Int32) (te : Int32) (to : Int32) (tg : Int32) (tx : Int32) (ty : Int32) (ch1 : ClassId) (fh1 : Nat → Int32) (hB_tt : ((0 : Int) ≤ (tt).toInt ∧ (tt).toInt ≤ (700 : Int))) (hB_ta : ((0 : Int) ≤ (ta).toInt ∧ (ta).toInt ≤ (700 : Int))) (hB_tf : ((0 : Int) ≤ (tf).toInt ∧ (tf).toInt ≤ (700 : Int))) (hB_ts : ((0 : Int) ≤ (ts).toInt ∧ (ts).toInt ≤ (700 : Int))) (hB_te : ((0 : Int) ≤ (te).toInt ∧ (te).toInt ≤ (700 : Int))) (hB_p1 : ((0 : Int) ≤ (p1).toInt ∧ (p1).toInt ≤ (700 : Int))) (hI_h1 : ∀ j : Nat, ((0 : Int) ≤ (fh1 j).toInt ∧ (fh1 j).toInt ≤ (255 : Int))) : Met l yX10_open u_s_X10_open_f ({ frames := 3, cells := 0, slots := 0, locals := 61 }) (va_Pc [.ref h0, .int p1, .int 1] (z_C (dC, dI) vwCl [(h0, .inr (10, [.ref h1, .int tt, .int ta, .int tj, .int tf, .int ts, .int te, .int to, .int tg, .int tx, .int ty])), (h1, .inl (ch1, 700, .inl fh1))] [(ch1, .int)] sz)) (va_Qv (fun (_ : Unit) => True) (fun (_ : Unit) (t : State) => ∃ (n_h0_at : Int32), ∃ (n_h0_start : Int32), ∃ (n_h0_end : Int32), ∃ (n_h0_sort : Int32), ∃ (n_h0_sign : Int32), ((0 : Int) ≤ (n_h0_at).toInt ∧ (n_h0_at).toInt ≤ (700 : Int)) ∧ ((0 : Int) ≤ (n_h0_start).toInt ∧ (n_h0_start).toInt ≤ (700 : Int)) ∧ ((0 : Int) ≤ (n_h0_end).toInt ∧ (n_h0_end).toInt ≤ (700 : Int)) ∧ ((n_h0_sort.toInt = (1 : Int) → z_tok fh1 n_h0_start.toInt n_h0_end.toInt ∧ n_h0_end.toInt ≤ p1.toInt)) ∧ (n_h0_at.toInt ≤ p1.toInt) ∧ va_P (dC, dI) vwCl [(h0, .inr (10, [.ref h1, .int p1, .int n_h0_at, .int 1, .int 0, .int n_h0_start, .int n_h0_end, .int n_h0_sort, .int n_h0_sign, .int 0, .int (-1)])), (h1, .inl (ch1, 700, .inl fh1))] t.heap ∧ va_K (dC, dI) vwCl [] t ∧ va_D (va_A [(h0, .inr (10, [.ref h1, .int tt, .int ta, .int tj, .int tf, .int ts, .int te, .int to, .int tg, .int tx, .int ty])), (h1, .inl (ch1, 700, .inl fh1))] sz) [(h0, .inr (10, [.ref h1, .int p1, .int n_h0_at, .int 1, .int 0, .int n_h0_start, .int n_h0_end, .int n_h0_sort, .int n_h0_sign, .int 0, .int (-1)])), (h1, .inl (ch1, 700, .inl fh1))]) (va_A [(h0, .inr (10, [.ref h1, .int tt, .int ta, .int tj, .int tf, .int ts, .int te, .int to, .int tg, .int tx, .int ty])), (h1, .inl (ch1, 700, .inl fh1))] sz)) 0 0 (va_A [(h0, .inr (10, [.ref h1, .int tt, .int ta, .int tj, .int tf, .int ts, .int te, .int to, .int tg, .int tx, .int ty])), (h1, .inl (ch1, 700, .inl fh1))] sz) := by
  refine Met.ofW (cc := cX10_open) (maxL := 3) (ret := none) (by decide) rfl ?_
  intro p e s m args below meth c s₁ B hml hv
  obtain ⟨rfl, hsz, hP, hK, hD0⟩ := hv
  have hx := B.exec
  have hb := B.bytes
  have hr := B.returns
  have hts := atoms_spec (ws := u_s_X10_open_f) B.pre
  have hown : s.vm.findClass RX10 = some m.cls := findClass_of_methodNamed B.named
  have hlocks := B.notSynchronized
  subst hsz
  have hD := hD0.self (sz := s.heap.size)
  generalize hAe : va_A [(h0, .inr (10, [.ref h1, .int tt, .int ta, .int tj, .int tf, .int ts, .int te, .int to, .int tg, .int tx, .int ty])), (h1, .inl (ch1, 700, .inl fh1))] s.heap.size = A at hD ⊢
  have hA : ∀ q : Nat, s.heap.size ≤ q → A q := fun q h => by rw [← hAe]; exact Or.inr h
  have hS : va_S A s.heap s.heap [] := va_S.rf
  have hP : va_P (dC, dI) vwCl [(h0, .inr (10, [.ref h1, .int tt, .int ta, .int tj, .int tf, .int ts, .int te, .int to, .int tg, .int tx, .int ty])), (h1, .inl (ch1, 700, .inl fh1))] s.heap := hP
  have w__fieldLink_RX10_15_ShellHeap_Tape_text_I_ := hts (.fieldLink RX10 15 "ShellHeap$Tape" "text" "I") (z_mc (z_ml z_m0))
  have hiX10 := show ∀ w ∈ u_ws RX10 TX10 11, w ∈ u_s_X10_open_f from fun w h => z_mc (z_mr (z_ml h))
  have w__fieldLink_RX10_22_ShellHeap_Tape_digitsJoin_Z_ := hts (.fieldLink RX10 22 "ShellHeap$Tape" "digitsJoin" "Z") (z_mc (z_ml z_m1))
  have w__fieldLink_RX10_26_ShellHeap_Tape_fed_I_ := hts (.fieldLink RX10 26 "ShellHeap$Tape" "fed" "I") (z_mc (z_ml z_m2))
  have w__fieldLink_RX10_19_ShellHeap_Tape_at_I_ := hts (.fieldLink RX10 19 "ShellHeap$Tape" "at" "I") (z_mc (z_ml z_m3))
  have w__fieldLink_RX10_41_ShellHeap_Tape_faultSort_I_ := hts (.fieldLink RX10 41 "ShellHeap$Tape" "faultSort" "I") (z_mc (z_ml z_m4))
  have w__fieldLink_RX10_44_ShellHeap_Tape_faultPlace_I_ := hts (.fieldLink RX10 44 "ShellHeap$Tape" "faultPlace" "I") (z_mc (z_ml z_m5))
  have hl := lv_entry ([.ref h0, .int p1, .int 1]) (n := 3) (Nat.le_of_ble_eq_true rfl)
  rw [lg_entry_eq]
  generalize (lg_sl ([.ref h0, .int p1, .int 1]) ++ List.replicate (3 - (lg_sl ([.ref h0, .int p1, .int 1])).length) Slot.unset).toArray = ls at hl ⊢
  have hl : lv_has ls 3 [(0, .ref h0), (1, .int p1), (2, .int 1)] := hl
  refine lv_aload_n hx hb dX10_open_0 rfl (lv_at hl 0 rfl) ?_
  refine lv_iload_n hx hb dX10_open_1 rfl (lv_at hl 1 rfl) ?_
  refine va_put (D := (dC, dI)) (ci := 10) (v := .int p1) (ty := .int) (C := RX10) (T := TX10) (N := 11) hx hb hts hiX10 tyX10 tyX10_ok nmX10 hown hK hP hD hS 0 rfl rfl 1 (by decide) w__fieldLink_RX10_15_ShellHeap_Tape_text_I_ (fun _ h9 => h9) rfl (by decide +kernel) rfl rfl (Nat.le_of_ble_eq_true rfl) dX10_open_2 (fun H_1 locs hP hD hS => ?_)
  obtain ⟨hP, hD⟩ := z_s_0_1 hP hD
  refine lv_aload_n hx hb dX10_open_5 rfl (lv_at hl 0 rfl) ?_
  refine lv_iload_n hx hb dX10_open_6 rfl (lv_at hl 2 rfl) ?_
  refine va_put (D := (dC, dI)) (ci := 10) (v := .int 1) (ty := .boolean) (C := RX10) (T := TX10) (N := 11) hx hb hts hiX10 tyX10 tyX10_ok nmX10 hown hK hP hD hS 0 rfl rfl 3 (by decide) w__fieldLink_RX10_22_ShellHeap_Tape_digitsJoin_Z_ (fun _ h9 => h9) rfl (by decide +kernel) rfl rfl (Nat.le_of_ble_eq_true rfl) dX10_open_7 (fun H_2 locs hP hD hS => ?_)
  obtain ⟨hP, hD⟩ := z_s_0_3 hP hD
  refine lv_aload_n hx hb dX10_open_10 rfl (lv_at hl 0 rfl) ?_
  refine lv_iconst (v := 0) hx hb dX10_open_11 (by decide) ?_
  refine va_put (D := (dC, dI)) (ci := 10) (v := .int 0) (ty := .int) (C := RX10) (T := TX10) (N := 11) hx hb hts hiX10 tyX10 tyX10_ok nmX10 hown hK hP hD hS 0 rfl rfl 4 (by decide) w__fieldLink_RX10_26_ShellHeap_Tape_fed_I_ (fun _ h9 => h9) rfl (by decide +kernel) rfl rfl (Nat.le_of_ble_eq_true rfl) dX10_open_12 (fun H_3 locs hP hD hS => ?_)
  obtain ⟨hP, hD⟩ := z_s_0_4 hP hD
  refine lv_aload_n hx hb dX10_open_15 rfl (lv_at hl 0 rfl) ?_
  refine lv_iconst (v := 0) hx hb dX10_open_16 (by decide) ?_
  refine va_put (D := (dC, dI)) (ci := 10) (v := .int 0) (ty := .int) (C := RX10) (T := TX10) (N := 11) hx hb hts hiX10 tyX10 tyX10_ok nmX10 hown hK hP hD hS 0 rfl rfl 2 (by decide) w__fieldLink_RX10_19_ShellHeap_Tape_at_I_ (fun _ h9 => h9) rfl (by decide +kernel) rfl rfl (Nat.le_of_ble_eq_true rfl) dX10_open_17 (fun H_4 locs hP hD hS => ?_)
  obtain ⟨hP, hD⟩ := z_s_0_2 hP hD
  refine lv_aload_n hx hb dX10_open_20 rfl (lv_at hl 0 rfl) ?_
  refine lv_iconst (v := 0) hx hb dX10_open_21 (by decide) ?_
  refine va_put (D := (dC, dI)) (ci := 10) (v := .int 0) (ty := .int) (C := RX10) (T := TX10) (N := 11) hx hb hts hiX10 tyX10 tyX10_ok nmX10 hown hK hP hD hS 0 rfl rfl 9 (by decide) w__fieldLink_RX10_41_ShellHeap_Tape_faultSort_I_ (fun _ h9 => h9) rfl (by decide +kernel) rfl rfl (Nat.le_of_ble_eq_true rfl) dX10_open_22 (fun H_5 locs hP hD hS => ?_)
  obtain ⟨hP, hD⟩ := z_s_0_9 hP hD
  refine lv_aload_n hx hb dX10_open_25 rfl (lv_at hl 0 rfl) ?_
  refine lv_iconst (v := (-1)) hx hb dX10_open_26 (by decide) ?_
  refine va_put (D := (dC, dI)) (ci := 10) (v := .int (-1)) (ty := .int) (C := RX10) (T := TX10) (N := 11) hx hb hts hiX10 tyX10 tyX10_ok nmX10 hown hK hP hD hS 0 rfl rfl 10 (by decide) w__fieldLink_RX10_44_ShellHeap_Tape_faultPlace_I_ (fun _ h9 => h9) rfl (by decide +kernel) rfl rfl (Nat.le_of_ble_eq_true rfl) dX10_open_27 (fun H_6 locs hP hD hS => ?_)
  obtain ⟨hP, hD⟩ := z_s_0_10 hP hD
  refine lv_aload_n hx hb dX10_open_30 rfl (lv_at hl 0 rfl) ?_
  have hPc := hP
  have hDc := hD
  have hKc := hK
  have hFc := z_freeI hD hS hA
  refine va_callv (va_runV (As := []) (rest := []) ⟨hx, hb, hml, hown, hts⟩ (s_X10_next2 l dC dI H_6.size h0 h1 p1 0 1 0 ts te to tg 0 (-1) ch1 fh1 hB_p1 (by decide) (by decide) hB_ts hB_te hI_h1 (show (0 : Int) ≤ p1.toInt by first | omega | decide)) (cwV 0 hts gw_s_X10_open_f_s_X10_next2_47 rfl rfl rfl (by decide +kernel) ⟨Nat.le_of_ble_eq_true rfl, Nat.le_of_ble_eq_true rfl⟩) ⟨z_blind, va_recv hKc hPc (ci := 10) (q0 := 0) rfl rfl, z_pre hPc hKc hDc⟩ rfl rfl hl.1 rfl (lv_room (Nat.le_of_ble_eq_true rfl)) dX10_open_31 ⟨Nat.le_of_ble_eq_true rfl, Nat.le_of_ble_eq_true rfl⟩) hS (fun q _ h => hFc q h) hFc (fun u t H_7 locs ht hvm hw_9 hB hz1 hk1 hS => ?_)
  obtain ⟨n_h0_at_10, n_h0_start_11, n_h0_end_12, n_h0_sort_13, n_h0_sign_14, hp_15, hp_16, hp_17, hp_18, hp_19, hP1, hK1, hD1⟩ := hB
  rw [ht] at hP1
  have hK1 := va_K.moved hvm.symm hK1
  obtain ⟨hP, hD⟩ := z_ap_0 (va_join (wr := []) hP hD [0, 1] [] rfl rfl (by decide) (by decide) hk1 hFc hP1 hD1)
  have hp_18 : (n_h0_sort_13.toInt = (1 : Int) → z_tok fh1 n_h0_start_11.toInt n_h0_end_12.toInt ∧ n_h0_end_12.toInt ≤ p1.toInt) := hp_18
  have hp_19 : n_h0_at_10.toInt ≤ p1.toInt := hp_19
  clear hPc hDc hKc
  have hP9 := hP
  have hD9 := hD
  have hK9 := hK.sub (tys' := []) [] rfl
  refine W.widen (k := 0) (n := 0) (Nat.le_of_ble_eq_true rfl) (Nat.le_of_ble_eq_true rfl) ?_
  exact W.vret hx hb hr (fun t ht hW => ⟨⟨(), rfl, trivial, ⟨n_h0_at_10, n_h0_start_11, n_h0_end_12, n_h0_sort_13, n_h0_sign_14, hp_15, hp_16, hp_17, hp_18, (show n_h0_at_10.toInt ≤ p1.toInt by omega), by rw [ht]; exact hP9, va_K.moved hW.alike hK9, hD9⟩⟩, hS.F ht⟩) hS.2.2 dX10_open_34
