def u_s_X12_weight : List Cond := .code yX12_weight cX12_weight 1 (some .int) :: ([] ++ [])
theorem gd_s_X12_weight : z_gd u_s_X12_weight := z_gdc (by decide +kernel) (z_gd0)
set_option maxHeartbeats 4000000 in
set_option maxRecDepth 100000 in
theorem s_X12_weight (l : Launch) (dC : Nat → ClassId) (dI : Nat → Nat → Nat) (sz : Nat) (p0 : Int32) : Met l yX12_weight u_s_X12_weight ({ frames := 0, cells := 0, slots := 0, locals := 0 }) (va_Pc [.int p0] (z_C (dC, dI) vwCl [] [] sz)) (va_Qi (fun (r : Int32) (_ : Unit) => ((0 : Int) ≤ r.toInt ∧ r.toInt ≤ (6 : Int)) ∧ z_wt r.toInt p0.toInt) (fun (_ : Unit) (_ : State) => True) (va_A [] sz)) 0 0 (va_A [] sz) := by
  refine Met.ofW (cc := cX12_weight) (maxL := 1) (ret := (some .int)) (by decide) rfl ?_
  intro p e s m args below meth c s₁ B hml hv
  obtain ⟨rfl, hsz, hP, hK, hD0⟩ := hv
  have hx := B.exec
  have hb := B.bytes
  have hr := B.returns
  have hts := atoms_spec (ws := u_s_X12_weight) B.pre
  have hown : s.vm.findClass RX12 = some m.cls := findClass_of_methodNamed B.named
  have hlocks := B.notSynchronized
  subst hsz
  have hD := hD0
  generalize hAe : va_A [] s.heap.size = A
  have hA : ∀ q : Nat, s.heap.size ≤ q → A q := fun q h => by rw [← hAe]; exact Or.inr h
  have hS : va_S A s.heap s.heap [] := va_S.rf
  have hP : va_P (dC, dI) vwCl [] s.heap := hP
  have krr_p0 := z_rng p0
  have hl := lv_entry ([.int p0]) (n := 1) (Nat.le_of_ble_eq_true rfl)
  rw [lg_entry_eq]
  generalize (lg_sl ([.int p0]) ++ List.replicate (1 - (lg_sl ([.int p0])).length) Slot.unset).toArray = ls at hl ⊢
  have hl : lv_has ls 1 [(0, .int p0)] := hl
  refine lv_iload_n hx hb dX12_weight_0 rfl (lv_at hl 0 rfl) ?_
  refine lv_bipush (v := 100) hx hb dX12_weight_1 (by decide) ?_
  refine lv_icmp_ne (tgt := 10) hx hb dX12_weight_3 (by decide) (fun c_1 => ?_) (fun c_1 => ?_)
  · have k_2 : (p0).toInt ≠ (100 : Int) := z_ne c_1
    refine lv_iload_n hx hb dX12_weight_10 rfl (lv_at hl 0 rfl) ?_
    refine lv_bipush (v := 13) hx hb dX12_weight_11 (by decide) ?_
    refine lv_icmp_ne (tgt := 20) hx hb dX12_weight_13 (by decide) (fun c_3 => ?_) (fun c_3 => ?_)
    · have k_4 : (p0).toInt ≠ (13 : Int) := z_ne c_3
      refine lv_iload_n hx hb dX12_weight_20 rfl (lv_at hl 0 rfl) ?_
      refine lv_bipush (v := 12) hx hb dX12_weight_21 (by decide) ?_
      refine lv_icmp_ne (tgt := 30) hx hb dX12_weight_23 (by decide) (fun c_5 => ?_) (fun c_5 => ?_)
      · have k_6 : (p0).toInt ≠ (12 : Int) := z_ne c_5
        refine lv_iload_n hx hb dX12_weight_30 rfl (lv_at hl 0 rfl) ?_
        refine lv_bipush (v := 11) hx hb dX12_weight_31 (by decide) ?_
        refine lv_icmp_ne (tgt := 40) hx hb dX12_weight_33 (by decide) (fun c_7 => ?_) (fun c_7 => ?_)
        · have k_8 : (p0).toInt ≠ (11 : Int) := z_ne c_7
          refine lv_iload_n hx hb dX12_weight_40 rfl (lv_at hl 0 rfl) ?_
          refine lv_bipush (v := 7) hx hb dX12_weight_41 (by decide) ?_
          refine lv_icmp_ge (tgt := 50) hx hb dX12_weight_43 (by decide) (fun c_9 => ?_) (fun c_9 => ?_)
          · have k_10 : (7 : Int) ≤ (p0).toInt := z_le c_9
            refine lv_iload_n hx hb dX12_weight_50 rfl (lv_at hl 0 rfl) ?_
            refine lv_bipush (v := 9) hx hb dX12_weight_51 (by decide) ?_
            refine lv_icmp_ge (tgt := 60) hx hb dX12_weight_53 (by decide) (fun c_11 => ?_) (fun c_11 => ?_)
            · have k_12 : (9 : Int) ≤ (p0).toInt := z_le c_11
              refine lv_bipush (v := 6) hx hb dX12_weight_60 (by decide) ?_
              refine W.widen (k := 0) (n := 0) (Nat.le_of_ble_eq_true rfl) (Nat.le_of_ble_eq_true rfl) ?_
              exact W.iret (v := 6) hx hb hr (fun t ht hW => ⟨⟨6, (), rfl, (show ((0 : Int) ≤ (6 : Int) ∧ (6 : Int) ≤ (6 : Int)) ∧ z_wt (6 : Int) p0.toInt from ⟨by decide, by unfold z_wt; omega⟩), trivial⟩, hS.F ht⟩) hS.2.2 dX12_weight_62
            · have k_13 : (9 : Int) > (p0).toInt := z_nle c_11
              refine lv_iconst (v := 5) hx hb dX12_weight_56 (by decide) ?_
              refine lv_goto (tgt := 62) hx hb dX12_weight_57 (by decide) ?_
              refine W.widen (k := 0) (n := 0) (Nat.le_of_ble_eq_true rfl) (Nat.le_of_ble_eq_true rfl) ?_
              exact W.iret (v := 5) hx hb hr (fun t ht hW => ⟨⟨5, (), rfl, (show ((0 : Int) ≤ (5 : Int) ∧ (5 : Int) ≤ (6 : Int)) ∧ z_wt (5 : Int) p0.toInt from ⟨by decide, by unfold z_wt; omega⟩), trivial⟩, hS.F ht⟩) hS.2.2 dX12_weight_62
          · have k_14 : (7 : Int) > (p0).toInt := z_nle c_9
            refine lv_iconst (v := 4) hx hb dX12_weight_46 (by decide) ?_
            refine lv_goto (tgt := 62) hx hb dX12_weight_47 (by decide) ?_
            refine W.widen (k := 0) (n := 0) (Nat.le_of_ble_eq_true rfl) (Nat.le_of_ble_eq_true rfl) ?_
            exact W.iret (v := 4) hx hb hr (fun t ht hW => ⟨⟨4, (), rfl, (show ((0 : Int) ≤ (4 : Int) ∧ (4 : Int) ≤ (6 : Int)) ∧ z_wt (4 : Int) p0.toInt from ⟨by decide, by unfold z_wt; omega⟩), trivial⟩, hS.F ht⟩) hS.2.2 dX12_weight_62
        · have k_15 : (p0).toInt = (11 : Int) := z_eq c_7
          refine lv_iconst (v := 3) hx hb dX12_weight_36 (by decide) ?_
          refine lv_goto (tgt := 62) hx hb dX12_weight_37 (by decide) ?_
          refine W.widen (k := 0) (n := 0) (Nat.le_of_ble_eq_true rfl) (Nat.le_of_ble_eq_true rfl) ?_
          exact W.iret (v := 3) hx hb hr (fun t ht hW => ⟨⟨3, (), rfl, (show ((0 : Int) ≤ (3 : Int) ∧ (3 : Int) ≤ (6 : Int)) ∧ z_wt (3 : Int) p0.toInt from ⟨by decide, by unfold z_wt; omega⟩), trivial⟩, hS.F ht⟩) hS.2.2 dX12_weight_62
      · have k_16 : (p0).toInt = (12 : Int) := z_eq c_5
        refine lv_iconst (v := 2) hx hb dX12_weight_26 (by decide) ?_
        refine lv_goto (tgt := 62) hx hb dX12_weight_27 (by decide) ?_
        refine W.widen (k := 0) (n := 0) (Nat.le_of_ble_eq_true rfl) (Nat.le_of_ble_eq_true rfl) ?_
        exact W.iret (v := 2) hx hb hr (fun t ht hW => ⟨⟨2, (), rfl, (show ((0 : Int) ≤ (2 : Int) ∧ (2 : Int) ≤ (6 : Int)) ∧ z_wt (2 : Int) p0.toInt from ⟨by decide, by unfold z_wt; omega⟩), trivial⟩, hS.F ht⟩) hS.2.2 dX12_weight_62
    · have k_17 : (p0).toInt = (13 : Int) := z_eq c_3
      refine lv_iconst (v := 1) hx hb dX12_weight_16 (by decide) ?_
      refine lv_goto (tgt := 62) hx hb dX12_weight_17 (by decide) ?_
      refine W.widen (k := 0) (n := 0) (Nat.le_of_ble_eq_true rfl) (Nat.le_of_ble_eq_true rfl) ?_
      exact W.iret (v := 1) hx hb hr (fun t ht hW => ⟨⟨1, (), rfl, (show ((0 : Int) ≤ (1 : Int) ∧ (1 : Int) ≤ (6 : Int)) ∧ z_wt (1 : Int) p0.toInt from ⟨by decide, by unfold z_wt; omega⟩), trivial⟩, hS.F ht⟩) hS.2.2 dX12_weight_62
  · have k_18 : (p0).toInt = (100 : Int) := z_eq c_1
    refine lv_iconst (v := 0) hx hb dX12_weight_6 (by decide) ?_
    refine lv_goto (tgt := 62) hx hb dX12_weight_7 (by decide) ?_
    refine W.widen (k := 0) (n := 0) (Nat.le_of_ble_eq_true rfl) (Nat.le_of_ble_eq_true rfl) ?_
    exact W.iret (v := 0) hx hb hr (fun t ht hW => ⟨⟨0, (), rfl, (show ((0 : Int) ≤ (0 : Int) ∧ (0 : Int) ≤ (6 : Int)) ∧ z_wt (0 : Int) p0.toInt from ⟨by decide, by unfold z_wt; omega⟩), trivial⟩, hS.F ht⟩) hS.2.2 dX12_weight_62
def u_s_X12_signNow : List Cond := .code yX12_signNow cX12_signNow 1 (some .int) :: ([.fieldLink RX12 221 "ShellHeapModel" "kindNow" "I", .fieldLink RX12 214 "ShellHeapModel" "which" "I"] ++ (wsX120 ++ []))
theorem gd_s_X12_signNow : z_gd u_s_X12_signNow := z_gdc (by decide +kernel) (z_gda gdX12 (z_gd0))
set_option maxHeartbeats 4000000 in
set_option maxRecDepth 100000 in
theorem s_X12_signNow (l : Launch) (dC : Nat → ClassId) (dI : Nat → Nat → Nat) (sz : Nat) (h0 : Nat) (h0_0 : Value) (h0_1 : Value) (h0_2 : Value) (h0_3 : Value) (h0_4 : Value) (h0_5 : Value) (h0_6 : Value) (h0_7 : Value) (h0_8 : Value) (h0_9 : Value) (h0_10 : Value) (h0_11 : Value) (h0_12 : Value) (h0_13 : Value) (h0_14 : Value) (h0_15 : Value) (h0_16 : Value) (h0_17 : Value) (h0_18 : Value) (h0_19 : Value) (h0_20 : Value) (h0_21 : Value) (h0_22 : Value) (h0_23 : Value) (h0_24 : Value) (h0_25 : Value) (h0_26 : Value) (h0_27 : Value) (mf : Int32) (mfp : Int32) (mst : Int32) (mnx : Int32) (mkd : Int32) (mwh : Int32) (mpl : Int32) (h0_35 : Value) (h0_36 : Value) (h0_37 : Value) (h0_38 : Value) (h0_39 : Value) (h0_40 : Value) (h0_41 : Value) (h0_42 : Value) (h0_43 : Value) (h0_44 : Value) (h0_45 : Value) (h0_46 : Value) (h0_47 : Value) (h0_48 : Value) (h0_49 : Value) (h0_50 : Value) (h0_51 : Value) (h0_52 : Value) (h0_53 : Value) (h0_54 : Value) (h0_55 : Value) (h0_56 : Value) (h0_57 : Value) (h0_58 : Value) (h0_59 : Value) (h0_60 : Value) (h0_61 : Value) (h0_62 : Value) (h0_63 : Value) (h0_64 : Value) (h0_65 : Value) (h0_66 : Value) (h0_67 : Value) (h0_68 : Value) (h0_69 : Value) (hB_mkd : ((0 : Int) ≤ (mkd).toInt ∧ (mkd).toInt ≤ (7 : Int))) : Met l yX12_signNow u_s_X12_signNow ({ frames := 0, cells := 0, slots := 0, locals := 0 }) (va_Pc [.ref h0] (z_C (dC, dI) vwCl [(h0, .inr (12, [h0_0, h0_1, h0_2, h0_3, h0_4, h0_5, h0_6, h0_7, h0_8, h0_9, h0_10, h0_11, h0_12, h0_13, h0_14, h0_15, h0_16, h0_17, h0_18, h0_19, h0_20, h0_21, h0_22, h0_23, h0_24, h0_25, h0_26, h0_27, .int mf, .int mfp, .int mst, .int mnx, .int mkd, .int mwh, .int mpl, h0_35, h0_36, h0_37, h0_38, h0_39, h0_40, h0_41, h0_42, h0_43, h0_44, h0_45, h0_46, h0_47, h0_48, h0_49, h0_50, h0_51, h0_52, h0_53, h0_54, h0_55, h0_56, h0_57, h0_58, h0_59, h0_60, h0_61, h0_62, h0_63, h0_64, h0_65, h0_66, h0_67, h0_68, h0_69]))] [] sz)) (va_Qi (fun (r : Int32) (_ : Unit) => z_sg r.toInt mkd.toInt mwh.toInt) (fun (_ : Unit) (_ : State) => True) (va_A [] sz)) 0 0 (va_A [] sz) := by
  refine Met.ofW (cc := cX12_signNow) (maxL := 1) (ret := (some .int)) (by decide) rfl ?_
  intro p e s m args below meth c s₁ B hml hv
  obtain ⟨rfl, hsz, hP, hK, hD0⟩ := hv
  have hx := B.exec
  have hb := B.bytes
  have hr := B.returns
  have hts := atoms_spec (ws := u_s_X12_signNow) B.pre
  have hown : s.vm.findClass RX12 = some m.cls := findClass_of_methodNamed B.named
  have hlocks := B.notSynchronized
  subst hsz
  have hD := hD0
  generalize hAe : va_A [] s.heap.size = A
  have hA : ∀ q : Nat, s.heap.size ≤ q → A q := fun q h => by rw [← hAe]; exact Or.inr h
  have hS : va_S A s.heap s.heap [] := va_S.rf
  have hP : va_P (dC, dI) vwCl [(h0, .inr (12, [h0_0, h0_1, h0_2, h0_3, h0_4, h0_5, h0_6, h0_7, h0_8, h0_9, h0_10, h0_11, h0_12, h0_13, h0_14, h0_15, h0_16, h0_17, h0_18, h0_19, h0_20, h0_21, h0_22, h0_23, h0_24, h0_25, h0_26, h0_27, .int mf, .int mfp, .int mst, .int mnx, .int mkd, .int mwh, .int mpl, h0_35, h0_36, h0_37, h0_38, h0_39, h0_40, h0_41, h0_42, h0_43, h0_44, h0_45, h0_46, h0_47, h0_48, h0_49, h0_50, h0_51, h0_52, h0_53, h0_54, h0_55, h0_56, h0_57, h0_58, h0_59, h0_60, h0_61, h0_62, h0_63, h0_64, h0_65, h0_66, h0_67, h0_68, h0_69]))] s.heap := hP
  have w__fieldLink_RX12_221_ShellHeapModel_kindNow_I_ := hts (.fieldLink RX12 221 "ShellHeapModel" "kindNow" "I") (z_mc (z_ml z_m0))
  have hiX12 := show ∀ w ∈ u_ws RX12 TX12 70, w ∈ u_s_X12_signNow from fun w h => z_mc (z_mr (z_ml h))
  have w__fieldLink_RX12_214_ShellHeapModel_which_I_ := hts (.fieldLink RX12 214 "ShellHeapModel" "which" "I") (z_mc (z_ml z_m1))
  have hl := lv_entry ([.ref h0]) (n := 1) (Nat.le_of_ble_eq_true rfl)
  rw [lg_entry_eq]
  generalize (lg_sl ([.ref h0]) ++ List.replicate (1 - (lg_sl ([.ref h0])).length) Slot.unset).toArray = ls at hl ⊢
  have hl : lv_has ls 1 [(0, .ref h0)] := hl
  refine lv_aload_n hx hb dX12_signNow_0 rfl (lv_at hl 0 rfl) ?_
  refine va_get (D := (dC, dI)) (ci := 12) (v := .int mkd) (C := RX12) (T := TX12) (N := 70) hx hb hts hiX12 hown hK hP 0 rfl rfl 32 (by decide) w__fieldLink_RX12_221_ShellHeapModel_kindNow_I_ (fun _ h9 => h9) rfl dX12_signNow_1 ?_
  refine lv_iconst (v := 1) hx hb dX12_signNow_4 (by decide) ?_
  refine lv_icmp_ne (tgt := 38) hx hb dX12_signNow_5 (by decide) (fun c_1 => ?_) (fun c_1 => ?_)
  · have k_2 : (mkd).toInt ≠ (1 : Int) := z_ne c_1
    refine lv_aload_n hx hb dX12_signNow_38 rfl (lv_at hl 0 rfl) ?_
    refine va_get (D := (dC, dI)) (ci := 12) (v := .int mkd) (C := RX12) (T := TX12) (N := 70) hx hb hts hiX12 hown hK hP 0 rfl rfl 32 (by decide) w__fieldLink_RX12_221_ShellHeapModel_kindNow_I_ (fun _ h9 => h9) rfl dX12_signNow_39 ?_
    refine lv_iconst (v := 4) hx hb dX12_signNow_42 (by decide) ?_
    refine lv_icmp_eq (tgt := 48) hx hb dX12_signNow_43 (by decide) (fun c_3 => ?_) (fun c_3 => ?_)
    · have k_4 : (mkd).toInt = (4 : Int) := z_eq c_3
      refine lv_aload_n hx hb dX12_signNow_48 rfl (lv_at hl 0 rfl) ?_
      refine va_get (D := (dC, dI)) (ci := 12) (v := .int mwh) (C := RX12) (T := TX12) (N := 70) hx hb hts hiX12 hown hK hP 0 rfl rfl 33 (by decide) w__fieldLink_RX12_214_ShellHeapModel_which_I_ (fun _ h9 => h9) rfl dX12_signNow_49 ?_
      refine lv_bipush (v := 7) hx hb dX12_signNow_52 (by decide) ?_
      refine lv_icmp_ge (tgt := 64) hx hb dX12_signNow_54 (by decide) (fun c_5 => ?_) (fun c_5 => ?_)
      · have k_6 : (7 : Int) ≤ (mwh).toInt := z_le c_5
        refine lv_aload_n hx hb dX12_signNow_64 rfl (lv_at hl 0 rfl) ?_
        refine va_get (D := (dC, dI)) (ci := 12) (v := .int mwh) (C := RX12) (T := TX12) (N := 70) hx hb hts hiX12 hown hK hP 0 rfl rfl 33 (by decide) w__fieldLink_RX12_214_ShellHeapModel_which_I_ (fun _ h9 => h9) rfl dX12_signNow_65 ?_
        refine lv_bipush (v := 43) hx hb dX12_signNow_68 (by decide) ?_
        refine lv_icmp_ne (tgt := 78) hx hb dX12_signNow_70 (by decide) (fun c_7 => ?_) (fun c_7 => ?_)
        · have k_8 : (mwh).toInt ≠ (43 : Int) := z_ne c_7
          refine lv_aload_n hx hb dX12_signNow_78 rfl (lv_at hl 0 rfl) ?_
          refine va_get (D := (dC, dI)) (ci := 12) (v := .int mwh) (C := RX12) (T := TX12) (N := 70) hx hb hts hiX12 hown hK hP 0 rfl rfl 33 (by decide) w__fieldLink_RX12_214_ShellHeapModel_which_I_ (fun _ h9 => h9) rfl dX12_signNow_79 ?_
          refine lv_bipush (v := 45) hx hb dX12_signNow_82 (by decide) ?_
          refine lv_icmp_ne (tgt := 92) hx hb dX12_signNow_84 (by decide) (fun c_9 => ?_) (fun c_9 => ?_)
          · have k_10 : (mwh).toInt ≠ (45 : Int) := z_ne c_9
            refine lv_aload_n hx hb dX12_signNow_92 rfl (lv_at hl 0 rfl) ?_
            refine va_get (D := (dC, dI)) (ci := 12) (v := .int mwh) (C := RX12) (T := TX12) (N := 70) hx hb hts hiX12 hown hK hP 0 rfl rfl 33 (by decide) w__fieldLink_RX12_214_ShellHeapModel_which_I_ (fun _ h9 => h9) rfl dX12_signNow_93 ?_
            refine lv_bipush (v := 42) hx hb dX12_signNow_96 (by decide) ?_
            refine lv_icmp_ne (tgt := 106) hx hb dX12_signNow_98 (by decide) (fun c_11 => ?_) (fun c_11 => ?_)
            · have k_12 : (mwh).toInt ≠ (42 : Int) := z_ne c_11
              refine lv_aload_n hx hb dX12_signNow_106 rfl (lv_at hl 0 rfl) ?_
              refine va_get (D := (dC, dI)) (ci := 12) (v := .int mwh) (C := RX12) (T := TX12) (N := 70) hx hb hts hiX12 hown hK hP 0 rfl rfl 33 (by decide) w__fieldLink_RX12_214_ShellHeapModel_which_I_ (fun _ h9 => h9) rfl dX12_signNow_107 ?_
              refine lv_bipush (v := 47) hx hb dX12_signNow_110 (by decide) ?_
              refine lv_icmp_ne (tgt := 120) hx hb dX12_signNow_112 (by decide) (fun c_13 => ?_) (fun c_13 => ?_)
              · have k_14 : (mwh).toInt ≠ (47 : Int) := z_ne c_13
                refine lv_iconst (v := (-1)) hx hb dX12_signNow_120 (by decide) ?_
                refine W.widen (k := 0) (n := 0) (Nat.le_of_ble_eq_true rfl) (Nat.le_of_ble_eq_true rfl) ?_
                exact W.iret (v := (-1)) hx hb hr (fun t ht hW => ⟨⟨(-1), (), rfl, (show z_sg (-1 : Int) mkd.toInt mwh.toInt by unfold z_sg; omega), trivial⟩, hS.F ht⟩) hS.2.2 dX12_signNow_121
              · have k_15 : (mwh).toInt = (47 : Int) := z_eq c_13
                refine lv_bipush (v := 10) hx hb dX12_signNow_115 (by decide) ?_
                refine lv_goto (tgt := 121) hx hb dX12_signNow_117 (by decide) ?_
                refine W.widen (k := 0) (n := 0) (Nat.le_of_ble_eq_true rfl) (Nat.le_of_ble_eq_true rfl) ?_
                exact W.iret (v := 10) hx hb hr (fun t ht hW => ⟨⟨10, (), rfl, (show z_sg (10 : Int) mkd.toInt mwh.toInt by unfold z_sg; omega), trivial⟩, hS.F ht⟩) hS.2.2 dX12_signNow_121
            · have k_16 : (mwh).toInt = (42 : Int) := z_eq c_11
              refine lv_bipush (v := 9) hx hb dX12_signNow_101 (by decide) ?_
              refine lv_goto (tgt := 121) hx hb dX12_signNow_103 (by decide) ?_
              refine W.widen (k := 0) (n := 0) (Nat.le_of_ble_eq_true rfl) (Nat.le_of_ble_eq_true rfl) ?_
              exact W.iret (v := 9) hx hb hr (fun t ht hW => ⟨⟨9, (), rfl, (show z_sg (9 : Int) mkd.toInt mwh.toInt by unfold z_sg; omega), trivial⟩, hS.F ht⟩) hS.2.2 dX12_signNow_121
          · have k_17 : (mwh).toInt = (45 : Int) := z_eq c_9
            refine lv_bipush (v := 8) hx hb dX12_signNow_87 (by decide) ?_
            refine lv_goto (tgt := 121) hx hb dX12_signNow_89 (by decide) ?_
            refine W.widen (k := 0) (n := 0) (Nat.le_of_ble_eq_true rfl) (Nat.le_of_ble_eq_true rfl) ?_
            exact W.iret (v := 8) hx hb hr (fun t ht hW => ⟨⟨8, (), rfl, (show z_sg (8 : Int) mkd.toInt mwh.toInt by unfold z_sg; omega), trivial⟩, hS.F ht⟩) hS.2.2 dX12_signNow_121
        · have k_18 : (mwh).toInt = (43 : Int) := z_eq c_7
          refine lv_bipush (v := 7) hx hb dX12_signNow_73 (by decide) ?_
          refine lv_goto (tgt := 121) hx hb dX12_signNow_75 (by decide) ?_
          refine W.widen (k := 0) (n := 0) (Nat.le_of_ble_eq_true rfl) (Nat.le_of_ble_eq_true rfl) ?_
          exact W.iret (v := 7) hx hb hr (fun t ht hW => ⟨⟨7, (), rfl, (show z_sg (7 : Int) mkd.toInt mwh.toInt by unfold z_sg; omega), trivial⟩, hS.F ht⟩) hS.2.2 dX12_signNow_121
      · have k_19 : (7 : Int) > (mwh).toInt := z_nle c_5
        refine lv_aload_n hx hb dX12_signNow_57 rfl (lv_at hl 0 rfl) ?_
        refine va_get (D := (dC, dI)) (ci := 12) (v := .int mwh) (C := RX12) (T := TX12) (N := 70) hx hb hts hiX12 hown hK hP 0 rfl rfl 33 (by decide) w__fieldLink_RX12_214_ShellHeapModel_which_I_ (fun _ h9 => h9) rfl dX12_signNow_58 ?_
        refine lv_goto (tgt := 121) hx hb dX12_signNow_61 (by decide) ?_
        refine W.widen (k := 0) (n := 0) (Nat.le_of_ble_eq_true rfl) (Nat.le_of_ble_eq_true rfl) ?_
        exact W.iret (v := mwh) hx hb hr (fun t ht hW => ⟨⟨mwh, (), rfl, (show z_sg (mwh).toInt mkd.toInt mwh.toInt by unfold z_sg; omega), trivial⟩, hS.F ht⟩) hS.2.2 dX12_signNow_121
    · have k_20 : (mkd).toInt ≠ (4 : Int) := z_ne c_3
      refine lv_iconst (v := (-1)) hx hb dX12_signNow_46 (by decide) ?_
      refine W.widen (k := 0) (n := 0) (Nat.le_of_ble_eq_true rfl) (Nat.le_of_ble_eq_true rfl) ?_
      exact W.iret (v := (-1)) hx hb hr (fun t ht hW => ⟨⟨(-1), (), rfl, (show z_sg (-1 : Int) mkd.toInt mwh.toInt by unfold z_sg; omega), trivial⟩, hS.F ht⟩) hS.2.2 dX12_signNow_47
  · have k_21 : (mkd).toInt = (1 : Int) := z_eq c_1
    refine lv_aload_n hx hb dX12_signNow_8 rfl (lv_at hl 0 rfl) ?_
    refine va_get (D := (dC, dI)) (ci := 12) (v := .int mwh) (C := RX12) (T := TX12) (N := 70) hx hb hts hiX12 hown hK hP 0 rfl rfl 33 (by decide) w__fieldLink_RX12_214_ShellHeapModel_which_I_ (fun _ h9 => h9) rfl dX12_signNow_9 ?_
    refine lv_bipush (v := 8) hx hb dX12_signNow_12 (by decide) ?_
    refine lv_icmp_ne (tgt := 22) hx hb dX12_signNow_14 (by decide) (fun c_22 => ?_) (fun c_22 => ?_)
    · have k_23 : (mwh).toInt ≠ (8 : Int) := z_ne c_22
      refine lv_aload_n hx hb dX12_signNow_22 rfl (lv_at hl 0 rfl) ?_
      refine va_get (D := (dC, dI)) (ci := 12) (v := .int mwh) (C := RX12) (T := TX12) (N := 70) hx hb hts hiX12 hown hK hP 0 rfl rfl 33 (by decide) w__fieldLink_RX12_214_ShellHeapModel_which_I_ (fun _ h9 => h9) rfl dX12_signNow_23 ?_
      refine lv_bipush (v := 7) hx hb dX12_signNow_26 (by decide) ?_
      refine lv_icmp_ne (tgt := 36) hx hb dX12_signNow_28 (by decide) (fun c_24 => ?_) (fun c_24 => ?_)
      · have k_25 : (mwh).toInt ≠ (7 : Int) := z_ne c_24
        refine lv_iconst (v := (-1)) hx hb dX12_signNow_36 (by decide) ?_
        refine W.widen (k := 0) (n := 0) (Nat.le_of_ble_eq_true rfl) (Nat.le_of_ble_eq_true rfl) ?_
        exact W.iret (v := (-1)) hx hb hr (fun t ht hW => ⟨⟨(-1), (), rfl, (show z_sg (-1 : Int) mkd.toInt mwh.toInt by unfold z_sg; omega), trivial⟩, hS.F ht⟩) hS.2.2 dX12_signNow_37
      · have k_26 : (mwh).toInt = (7 : Int) := z_eq c_24
        refine lv_bipush (v := 13) hx hb dX12_signNow_31 (by decide) ?_
        refine lv_goto (tgt := 37) hx hb dX12_signNow_33 (by decide) ?_
        refine W.widen (k := 0) (n := 0) (Nat.le_of_ble_eq_true rfl) (Nat.le_of_ble_eq_true rfl) ?_
        exact W.iret (v := 13) hx hb hr (fun t ht hW => ⟨⟨13, (), rfl, (show z_sg (13 : Int) mkd.toInt mwh.toInt by unfold z_sg; omega), trivial⟩, hS.F ht⟩) hS.2.2 dX12_signNow_37
    · have k_27 : (mwh).toInt = (8 : Int) := z_eq c_22
      refine lv_bipush (v := 12) hx hb dX12_signNow_17 (by decide) ?_
      refine lv_goto (tgt := 37) hx hb dX12_signNow_19 (by decide) ?_
      refine W.widen (k := 0) (n := 0) (Nat.le_of_ble_eq_true rfl) (Nat.le_of_ble_eq_true rfl) ?_
      exact W.iret (v := 12) hx hb hr (fun t ht hW => ⟨⟨12, (), rfl, (show z_sg (12 : Int) mkd.toInt mwh.toInt by unfold z_sg; omega), trivial⟩, hS.F ht⟩) hS.2.2 dX12_signNow_37
def u_s_X12_grown : List Cond := .code yX12_grown cX12_grown 4 (some .int) :: ([.fieldLink RX12 317 "ShellHeapModel" "knotsRead" "I", .fieldLink RX12 111 "ShellHeapModel" "knot" "[I", .fieldLink RX12 114 "ShellHeapModel" "left" "[I", .fieldLink RX12 117 "ShellHeapModel" "right" "[I", .fieldLink RX12 120 "ShellHeapModel" "amount" "[I", .fieldLink RX12 123 "ShellHeapModel" "ahead" "[Z", .methodLink RX12 240 yX12_wrong, .instanceMethod yX12_wrong, .selects RX12 yX12_wrong yX12_wrong, .initialized RX12] ++ (wsX120 ++ (u_s_X12_wrong ++ [])))
theorem gd_s_X12_grown : z_gd u_s_X12_grown := z_gdc (by decide +kernel) (z_gda gdX12 (z_gda gd_s_X12_wrong (z_gd0)))
set_option maxRecDepth 20000 in
theorem gw_s_X12_grown_s_X12_wrong_240 : GoodIn u_s_X12_grown (wsV RX12 240 RX12 yX12_wrong u_s_X12_wrong) := z_gV (z_gr _ [7, 8, 9, 10] rfl (by decide +kernel)) (fun w h => ⟨z_mc (z_mr (z_mr (z_ml h))), gd_s_X12_wrong w h⟩)
set_option maxHeartbeats 4000000 in
set_option maxRecDepth 100000 in
theorem s_X12_grown (l : Launch) (dC : Nat → ClassId) (dI : Nat → Nat → Nat) (sz : Nat) (h0 : Nat) (p1 : Int32) (p2 : Int32) (a_te : Nat) (h0_1 : Value) (h0_2 : Value) (h0_3 : Value) (h0_4 : Value) (h0_5 : Value) (h0_6 : Value) (h0_7 : Value) (h0_8 : Value) (h0_9 : Value) (h0_10 : Value) (h0_11 : Value) (h0_12 : Value) (h0_13 : Value) (h0_14 : Value) (h0_15 : Value) (h0_16 : Value) (h0_17 : Value) (h0_18 : Value) (h0_19 : Value) (h0_20 : Value) (h0_21 : Value) (h0_22 : Value) (h0_23 : Value) (h0_24 : Value) (h0_25 : Value) (h0_26 : Value) (a_wd : Nat) (mf : Int32) (mfp : Int32) (mst : Int32) (mnx : Int32) (mkd : Int32) (mwh : Int32) (mpl : Int32) (h0_35 : Value) (h0_36 : Value) (h0_37 : Value) (h0_38 : Value) (h0_39 : Value) (h0_40 : Value) (h0_41 : Value) (h0_42 : Value) (h0_43 : Value) (h0_44 : Value) (mcr : Int32) (h0_46 : Value) (mkr : Int32) (h0_48 : Value) (h0_49 : Value) (h0_50 : Value) (h0_51 : Value) (a_kt : Nat) (a_lf : Nat) (a_rt : Nat) (a_am : Nat) (a_ah : Nat) (a_gb : Nat) (mom : Int32) (a_w : Nat) (a_o : Nat) (mws : Int32) (a_h : Nat) (mhs : Int32) (a_cp : Nat) (mop : Int32) (mhc : Int32) (mwv : Int32) (mmn : Int32) (h0_69 : Value) (ca_kt : ClassId) (fa_kt : Nat → Int32) (ca_lf : ClassId) (fa_lf : Nat → Int32) (ca_rt : ClassId) (fa_rt : Nat → Int32) (ca_am : ClassId) (fa_am : Nat → Int32) (ca_ah : ClassId) (fa_ah : Nat → Int32) (hB_mkr : ((0 : Int) ≤ (mkr).toInt ∧ (mkr).toInt ≤ (96 : Int))) : Met l yX12_grown u_s_X12_grown ({ frames := 1, cells := 0, slots := 0, locals := 21 }) (va_Pc [.ref h0, .int p1, .int p2] (z_C (dC, dI) vwCl [(h0, .inr (12, [.ref a_te, h0_1, h0_2, h0_3, h0_4, h0_5, h0_6, h0_7, h0_8, h0_9, h0_10, h0_11, h0_12, h0_13, h0_14, h0_15, h0_16, h0_17, h0_18, h0_19, h0_20, h0_21, h0_22, h0_23, h0_24, h0_25, h0_26, .ref a_wd, .int mf, .int mfp, .int mst, .int mnx, .int mkd, .int mwh, .int mpl, h0_35, h0_36, h0_37, h0_38, h0_39, h0_40, h0_41, h0_42, h0_43, h0_44, .int mcr, h0_46, .int mkr, h0_48, h0_49, h0_50, h0_51, .ref a_kt, .ref a_lf, .ref a_rt, .ref a_am, .ref a_ah, .ref a_gb, .int mom, .ref a_w, .ref a_o, .int mws, .ref a_h, .int mhs, .ref a_cp, .int mop, .int mhc, .int mwv, .int mmn, h0_69])), (a_kt, .inl (ca_kt, 192, .inl fa_kt)), (a_lf, .inl (ca_lf, 192, .inl fa_lf)), (a_rt, .inl (ca_rt, 192, .inl fa_rt)), (a_am, .inl (ca_am, 192, .inl fa_am)), (a_ah, .inl (ca_ah, 192, .inl fa_ah))] [(ca_kt, .int), (ca_lf, .int), (ca_rt, .int), (ca_am, .int), (ca_ah, .boolean)] sz)) (va_Qi (fun (r : Int32) (u : Int32) => r = u ∧ (((-1 : Int) ≤ (r).toInt ∧ (r).toInt ≤ (191 : Int)))) (fun (u : Int32) (t : State) => ∃ (n_h0_knotsRead : Int32), ∃ (n_h0_fault : Int32), ∃ (n_h0_faultPlace : Int32), ∃ (g_a_kt : Nat → Int32), ∃ (g_a_lf : Nat → Int32), ∃ (g_a_rt : Nat → Int32), ∃ (g_a_am : Nat → Int32), ∃ (g_a_ah : Nat → Int32), ((0 : Int) ≤ (n_h0_knotsRead).toInt ∧ (n_h0_knotsRead).toInt ≤ (96 : Int)) ∧ (((u.toInt = (-1 : Int) ∧ n_h0_knotsRead.toInt = mkr.toInt) ∨ (u.toInt = 96 + mkr.toInt ∧ mkr.toInt ≤ (95 : Int) ∧ n_h0_knotsRead.toInt = mkr.toInt + 1 ∧ g_a_kt = upd fa_kt (96 + mkr.toInt).toNat p1 ∧ g_a_lf = upd fa_lf (96 + mkr.toInt).toNat (-1) ∧ g_a_rt = upd fa_rt (96 + mkr.toInt).toNat (-1)))) ∧ (z_ag fa_kt g_a_kt) ∧ (z_ag fa_lf g_a_lf) ∧ (z_ag fa_rt g_a_rt) ∧ va_P (dC, dI) vwCl [(h0, .inr (12, [.ref a_te, h0_1, h0_2, h0_3, h0_4, h0_5, h0_6, h0_7, h0_8, h0_9, h0_10, h0_11, h0_12, h0_13, h0_14, h0_15, h0_16, h0_17, h0_18, h0_19, h0_20, h0_21, h0_22, h0_23, h0_24, h0_25, h0_26, .ref a_wd, .int n_h0_fault, .int n_h0_faultPlace, .int mst, .int mnx, .int mkd, .int mwh, .int mpl, h0_35, h0_36, h0_37, h0_38, h0_39, h0_40, h0_41, h0_42, h0_43, h0_44, .int mcr, h0_46, .int n_h0_knotsRead, h0_48, h0_49, h0_50, h0_51, .ref a_kt, .ref a_lf, .ref a_rt, .ref a_am, .ref a_ah, .ref a_gb, .int mom, .ref a_w, .ref a_o, .int mws, .ref a_h, .int mhs, .ref a_cp, .int mop, .int mhc, .int mwv, .int mmn, h0_69])), (a_kt, .inl (ca_kt, 192, .inl g_a_kt)), (a_lf, .inl (ca_lf, 192, .inl g_a_lf)), (a_rt, .inl (ca_rt, 192, .inl g_a_rt)), (a_am, .inl (ca_am, 192, .inl g_a_am)), (a_ah, .inl (ca_ah, 192, .inl g_a_ah))] t.heap ∧ va_K (dC, dI) vwCl [] t ∧ va_D (va_A [(h0, .inr (12, [.ref a_te, h0_1, h0_2, h0_3, h0_4, h0_5, h0_6, h0_7, h0_8, h0_9, h0_10, h0_11, h0_12, h0_13, h0_14, h0_15, h0_16, h0_17, h0_18, h0_19, h0_20, h0_21, h0_22, h0_23, h0_24, h0_25, h0_26, .ref a_wd, .int mf, .int mfp, .int mst, .int mnx, .int mkd, .int mwh, .int mpl, h0_35, h0_36, h0_37, h0_38, h0_39, h0_40, h0_41, h0_42, h0_43, h0_44, .int mcr, h0_46, .int mkr, h0_48, h0_49, h0_50, h0_51, .ref a_kt, .ref a_lf, .ref a_rt, .ref a_am, .ref a_ah, .ref a_gb, .int mom, .ref a_w, .ref a_o, .int mws, .ref a_h, .int mhs, .ref a_cp, .int mop, .int mhc, .int mwv, .int mmn, h0_69])), (a_kt, .inl (ca_kt, 192, .inl fa_kt)), (a_lf, .inl (ca_lf, 192, .inl fa_lf)), (a_rt, .inl (ca_rt, 192, .inl fa_rt)), (a_am, .inl (ca_am, 192, .inl fa_am)), (a_ah, .inl (ca_ah, 192, .inl fa_ah))] sz) [(h0, .inr (12, [.ref a_te, h0_1, h0_2, h0_3, h0_4, h0_5, h0_6, h0_7, h0_8, h0_9, h0_10, h0_11, h0_12, h0_13, h0_14, h0_15, h0_16, h0_17, h0_18, h0_19, h0_20, h0_21, h0_22, h0_23, h0_24, h0_25, h0_26, .ref a_wd, .int n_h0_fault, .int n_h0_faultPlace, .int mst, .int mnx, .int mkd, .int mwh, .int mpl, h0_35, h0_36, h0_37, h0_38, h0_39, h0_40, h0_41, h0_42, h0_43, h0_44, .int mcr, h0_46, .int n_h0_knotsRead, h0_48, h0_49, h0_50, h0_51, .ref a_kt, .ref a_lf, .ref a_rt, .ref a_am, .ref a_ah, .ref a_gb, .int mom, .ref a_w, .ref a_o, .int mws, .ref a_h, .int mhs, .ref a_cp, .int mop, .int mhc, .int mwv, .int mmn, h0_69])), (a_kt, .inl (ca_kt, 192, .inl g_a_kt)), (a_lf, .inl (ca_lf, 192, .inl g_a_lf)), (a_rt, .inl (ca_rt, 192, .inl g_a_rt)), (a_am, .inl (ca_am, 192, .inl g_a_am)), (a_ah, .inl (ca_ah, 192, .inl g_a_ah))]) (va_A [(h0, .inr (12, [.ref a_te, h0_1, h0_2, h0_3, h0_4, h0_5, h0_6, h0_7, h0_8, h0_9, h0_10, h0_11, h0_12, h0_13, h0_14, h0_15, h0_16, h0_17, h0_18, h0_19, h0_20, h0_21, h0_22, h0_23, h0_24, h0_25, h0_26, .ref a_wd, .int mf, .int mfp, .int mst, .int mnx, .int mkd, .int mwh, .int mpl, h0_35, h0_36, h0_37, h0_38, h0_39, h0_40, h0_41, h0_42, h0_43, h0_44, .int mcr, h0_46, .int mkr, h0_48, h0_49, h0_50, h0_51, .ref a_kt, .ref a_lf, .ref a_rt, .ref a_am, .ref a_ah, .ref a_gb, .int mom, .ref a_w, .ref a_o, .int mws, .ref a_h, .int mhs, .ref a_cp, .int mop, .int mhc, .int mwv, .int mmn, h0_69])), (a_kt, .inl (ca_kt, 192, .inl fa_kt)), (a_lf, .inl (ca_lf, 192, .inl fa_lf)), (a_rt, .inl (ca_rt, 192, .inl fa_rt)), (a_am, .inl (ca_am, 192, .inl fa_am)), (a_ah, .inl (ca_ah, 192, .inl fa_ah))] sz)) 0 0 (va_A [(h0, .inr (12, [.ref a_te, h0_1, h0_2, h0_3, h0_4, h0_5, h0_6, h0_7, h0_8, h0_9, h0_10, h0_11, h0_12, h0_13, h0_14, h0_15, h0_16, h0_17, h0_18, h0_19, h0_20, h0_21, h0_22, h0_23, h0_24, h0_25, h0_26, .ref a_wd, .int mf, .int mfp, .int mst, .int mnx, .int mkd, .int mwh, .int mpl, h0_35, h0_36, h0_37, h0_38, h0_39, h0_40, h0_41, h0_42, h0_43, h0_44, .int mcr, h0_46, .int mkr, h0_48, h0_49, h0_50, h0_51, .ref a_kt, .ref a_lf, .ref a_rt, .ref a_am, .ref a_ah, .ref a_gb, .int mom, .ref a_w, .ref a_o, .int mws, .ref a_h, .int mhs, .ref a_cp, .int mop, .int mhc, .int mwv, .int mmn, h0_69])), (a_kt, .inl (ca_kt, 192, .inl fa_kt)), (a_lf, .inl (ca_lf, 192, .inl fa_lf)), (a_rt, .inl (ca_rt, 192, .inl fa_rt)), (a_am, .inl (ca_am, 192, .inl fa_am)), (a_ah, .inl (ca_ah, 192, .inl fa_ah))] sz) := by
  refine Met.ofW (cc := cX12_grown) (maxL := 4) (ret := (some .int)) (by decide) rfl ?_
  intro p e s m args below meth c s₁ B hml hv
  obtain ⟨rfl, hsz, hP, hK, hD0⟩ := hv
  have hx := B.exec
  have hb := B.bytes
  have hr := B.returns
  have hts := atoms_spec (ws := u_s_X12_grown) B.pre
  have hown : s.vm.findClass RX12 = some m.cls := findClass_of_methodNamed B.named
  have hlocks := B.notSynchronized
  subst hsz
  have hD := hD0.self (sz := s.heap.size)
  generalize hAe : va_A [(h0, .inr (12, [.ref a_te, h0_1, h0_2, h0_3, h0_4, h0_5, h0_6, h0_7, h0_8, h0_9, h0_10, h0_11, h0_12, h0_13, h0_14, h0_15, h0_16, h0_17, h0_18, h0_19, h0_20, h0_21, h0_22, h0_23, h0_24, h0_25, h0_26, .ref a_wd, .int mf, .int mfp, .int mst, .int mnx, .int mkd, .int mwh, .int mpl, h0_35, h0_36, h0_37, h0_38, h0_39, h0_40, h0_41, h0_42, h0_43, h0_44, .int mcr, h0_46, .int mkr, h0_48, h0_49, h0_50, h0_51, .ref a_kt, .ref a_lf, .ref a_rt, .ref a_am, .ref a_ah, .ref a_gb, .int mom, .ref a_w, .ref a_o, .int mws, .ref a_h, .int mhs, .ref a_cp, .int mop, .int mhc, .int mwv, .int mmn, h0_69])), (a_kt, .inl (ca_kt, 192, .inl fa_kt)), (a_lf, .inl (ca_lf, 192, .inl fa_lf)), (a_rt, .inl (ca_rt, 192, .inl fa_rt)), (a_am, .inl (ca_am, 192, .inl fa_am)), (a_ah, .inl (ca_ah, 192, .inl fa_ah))] s.heap.size = A at hD ⊢
  have hA : ∀ q : Nat, s.heap.size ≤ q → A q := fun q h => by rw [← hAe]; exact Or.inr h
  have hS : va_S A s.heap s.heap [] := va_S.rf
  have hP : va_P (dC, dI) vwCl [(h0, .inr (12, [.ref a_te, h0_1, h0_2, h0_3, h0_4, h0_5, h0_6, h0_7, h0_8, h0_9, h0_10, h0_11, h0_12, h0_13, h0_14, h0_15, h0_16, h0_17, h0_18, h0_19, h0_20, h0_21, h0_22, h0_23, h0_24, h0_25, h0_26, .ref a_wd, .int mf, .int mfp, .int mst, .int mnx, .int mkd, .int mwh, .int mpl, h0_35, h0_36, h0_37, h0_38, h0_39, h0_40, h0_41, h0_42, h0_43, h0_44, .int mcr, h0_46, .int mkr, h0_48, h0_49, h0_50, h0_51, .ref a_kt, .ref a_lf, .ref a_rt, .ref a_am, .ref a_ah, .ref a_gb, .int mom, .ref a_w, .ref a_o, .int mws, .ref a_h, .int mhs, .ref a_cp, .int mop, .int mhc, .int mwv, .int mmn, h0_69])), (a_kt, .inl (ca_kt, 192, .inl fa_kt)), (a_lf, .inl (ca_lf, 192, .inl fa_lf)), (a_rt, .inl (ca_rt, 192, .inl fa_rt)), (a_am, .inl (ca_am, 192, .inl fa_am)), (a_ah, .inl (ca_ah, 192, .inl fa_ah))] s.heap := hP
  have w__fieldLink_RX12_317_ShellHeapModel_knotsRead_I_ := hts (.fieldLink RX12 317 "ShellHeapModel" "knotsRead" "I") (z_mc (z_ml z_m0))
  have hiX12 := show ∀ w ∈ u_ws RX12 TX12 70, w ∈ u_s_X12_grown from fun w h => z_mc (z_mr (z_ml h))
  have w__fieldLink_RX12_111_ShellHeapModel_knot_I_ := hts (.fieldLink RX12 111 "ShellHeapModel" "knot" "[I") (z_mc (z_ml z_m1))
  have w__fieldLink_RX12_114_ShellHeapModel_left_I_ := hts (.fieldLink RX12 114 "ShellHeapModel" "left" "[I") (z_mc (z_ml z_m2))
  have w__fieldLink_RX12_117_ShellHeapModel_right_I_ := hts (.fieldLink RX12 117 "ShellHeapModel" "right" "[I") (z_mc (z_ml z_m3))
  have w__fieldLink_RX12_120_ShellHeapModel_amount_I_ := hts (.fieldLink RX12 120 "ShellHeapModel" "amount" "[I") (z_mc (z_ml z_m4))
  have w__fieldLink_RX12_123_ShellHeapModel_ahead_Z_ := hts (.fieldLink RX12 123 "ShellHeapModel" "ahead" "[Z") (z_mc (z_ml z_m5))
  have krr_p1 := z_rng p1
  have krr_p2 := z_rng p2
  have hl := lv_entry ([.ref h0, .int p1, .int p2]) (n := 4) (Nat.le_of_ble_eq_true rfl)
  rw [lg_entry_eq]
  generalize (lg_sl ([.ref h0, .int p1, .int p2]) ++ List.replicate (4 - (lg_sl ([.ref h0, .int p1, .int p2])).length) Slot.unset).toArray = ls at hl ⊢
  have hl : lv_has ls 4 [(0, .ref h0), (1, .int p1), (2, .int p2)] := hl
  refine lv_aload_n hx hb dX12_grown_0 rfl (lv_at hl 0 rfl) ?_
  refine va_get (D := (dC, dI)) (ci := 12) (v := .int mkr) (C := RX12) (T := TX12) (N := 70) hx hb hts hiX12 hown hK hP 0 rfl rfl 47 (by decide) w__fieldLink_RX12_317_ShellHeapModel_knotsRead_I_ (fun _ h9 => h9) rfl dX12_grown_1 ?_
  refine lv_bipush (v := 96) hx hb dX12_grown_4 (by decide) ?_
  refine lv_icmp_ne (tgt := 17) hx hb dX12_grown_6 (by decide) (fun c_1 => ?_) (fun c_1 => ?_)
  · have k_2 : (mkr).toInt ≠ (96 : Int) := z_ne c_1
    refine lv_bipush (v := 96) hx hb dX12_grown_17 (by decide) ?_
    refine lv_aload_n hx hb dX12_grown_19 rfl (lv_at hl 0 rfl) ?_
    refine va_get (D := (dC, dI)) (ci := 12) (v := .int mkr) (C := RX12) (T := TX12) (N := 70) hx hb hts hiX12 hown hK hP 0 rfl rfl 47 (by decide) w__fieldLink_RX12_317_ShellHeapModel_knotsRead_I_ (fun _ h9 => h9) rfl dX12_grown_20 ?_
    refine lv_iadd hx hb dX12_grown_23 ?_
    refine lv_topi (fun z_3 ez_3 => ?_)
    have kz_3 : (z_3).toInt = (96 : Int) + (mkr).toInt := by rw [ez_3]; exact z_add (a := (96 : Int)) (b := (mkr).toInt) rfl rfl (by omega) (by omega)
    refine lv_istore_n (lv' := [(3, .int z_3), (0, .ref h0), (1, .int p1), (2, .int p2)]) hx hb dX12_grown_24 rfl hl (by decide) rfl (fun ls hl => ?_)
    refine lv_aload_n hx hb dX12_grown_25 rfl (lv_at hl 1 rfl) ?_
    refine lv_dup hx hb dX12_grown_26 rfl ?_
    refine va_get (D := (dC, dI)) (ci := 12) (v := .int mkr) (C := RX12) (T := TX12) (N := 70) hx hb hts hiX12 hown hK hP 0 rfl rfl 47 (by decide) w__fieldLink_RX12_317_ShellHeapModel_knotsRead_I_ (fun _ h9 => h9) rfl dX12_grown_27 ?_
    refine lv_iconst (v := 1) hx hb dX12_grown_30 (by decide) ?_
    refine lv_iadd hx hb dX12_grown_31 ?_
    refine lv_topi (fun z_4 ez_4 => ?_)
    have kz_4 : (z_4).toInt = (mkr).toInt + (1 : Int) := by rw [ez_4]; exact z_add (a := (mkr).toInt) (b := (1 : Int)) rfl rfl (z_al hB_mkr.1 (by decide)) (z_ah hB_mkr.2 (by decide))
    refine va_put (D := (dC, dI)) (ci := 12) (v := .int z_4) (ty := .int) (C := RX12) (T := TX12) (N := 70) hx hb hts hiX12 tyX12 tyX12_ok nmX12 hown hK hP hD hS 0 rfl rfl 47 (by decide) w__fieldLink_RX12_317_ShellHeapModel_knotsRead_I_ (fun _ h9 => h9) rfl (by decide +kernel) rfl rfl (Nat.le_of_ble_eq_true rfl) dX12_grown_32 (fun H_5 locs hP hD hS => ?_)
    obtain ⟨hP, hD⟩ := z_s_0_47 hP hD
    refine lv_aload_n hx hb dX12_grown_35 rfl (lv_at hl 1 rfl) ?_
    refine va_get (D := (dC, dI)) (ci := 12) (v := .ref a_kt) (C := RX12) (T := TX12) (N := 70) hx hb hts hiX12 hown hK hP 0 rfl rfl 52 (by decide) w__fieldLink_RX12_111_ShellHeapModel_knot_I_ (fun _ h9 => h9) rfl dX12_grown_36 ?_
    refine lv_iload_n hx hb dX12_grown_39 rfl (lv_at hl 0 rfl) ?_
    refine lv_iload_n hx hb dX12_grown_40 rfl (lv_at hl 2 rfl) ?_
    refine va_iast hx hb hK hP hD hS 1 0 rfl rfl (z_vpin (by omega) (by omega)) dX12_grown_41 (fun H_6 locs hP hD hS => ?_)
    obtain ⟨hP, hD⟩ := z_s_1 hP hD
    have hag_8 : z_ag fa_kt (upd fa_kt (z_3 : Int32).toNatClampNeg p1) := z_ag_upd z_ag_rfl (by omega)
    refine lv_aload_n hx hb dX12_grown_42 rfl (lv_at hl 1 rfl) ?_
    refine va_get (D := (dC, dI)) (ci := 12) (v := .ref a_lf) (C := RX12) (T := TX12) (N := 70) hx hb hts hiX12 hown hK hP 0 rfl rfl 53 (by decide) w__fieldLink_RX12_114_ShellHeapModel_left_I_ (fun _ h9 => h9) rfl dX12_grown_43 ?_
    refine lv_iload_n hx hb dX12_grown_46 rfl (lv_at hl 0 rfl) ?_
    refine lv_iconst (v := (-1)) hx hb dX12_grown_47 (by decide) ?_
    refine va_iast hx hb hK hP hD hS 2 1 rfl rfl (z_vpin (by omega) (by omega)) dX12_grown_48 (fun H_9 locs hP hD hS => ?_)
    obtain ⟨hP, hD⟩ := z_s_2 hP hD
    have hag_11 : z_ag fa_lf (upd fa_lf (z_3 : Int32).toNatClampNeg (-1)) := z_ag_upd z_ag_rfl (by omega)
    refine lv_aload_n hx hb dX12_grown_49 rfl (lv_at hl 1 rfl) ?_
    refine va_get (D := (dC, dI)) (ci := 12) (v := .ref a_rt) (C := RX12) (T := TX12) (N := 70) hx hb hts hiX12 hown hK hP 0 rfl rfl 54 (by decide) w__fieldLink_RX12_117_ShellHeapModel_right_I_ (fun _ h9 => h9) rfl dX12_grown_50 ?_
    refine lv_iload_n hx hb dX12_grown_53 rfl (lv_at hl 0 rfl) ?_
    refine lv_iconst (v := (-1)) hx hb dX12_grown_54 (by decide) ?_
    refine va_iast hx hb hK hP hD hS 3 2 rfl rfl (z_vpin (by omega) (by omega)) dX12_grown_55 (fun H_12 locs hP hD hS => ?_)
    obtain ⟨hP, hD⟩ := z_s_3 hP hD
    have hag_14 : z_ag fa_rt (upd fa_rt (z_3 : Int32).toNatClampNeg (-1)) := z_ag_upd z_ag_rfl (by omega)
    refine lv_aload_n hx hb dX12_grown_56 rfl (lv_at hl 1 rfl) ?_
    refine va_get (D := (dC, dI)) (ci := 12) (v := .ref a_am) (C := RX12) (T := TX12) (N := 70) hx hb hts hiX12 hown hK hP 0 rfl rfl 55 (by decide) w__fieldLink_RX12_120_ShellHeapModel_amount_I_ (fun _ h9 => h9) rfl dX12_grown_57 ?_
    refine lv_iload_n hx hb dX12_grown_60 rfl (lv_at hl 0 rfl) ?_
    refine lv_iload_n hx hb dX12_grown_61 rfl (lv_at hl 3 rfl) ?_
    refine va_iast hx hb hK hP hD hS 4 3 rfl rfl (z_vpin (by omega) (by omega)) dX12_grown_62 (fun H_15 locs hP hD hS => ?_)
    obtain ⟨hP, hD⟩ := z_s_4 hP hD
    generalize (upd fa_am (z_3 : Int32).toNatClampNeg p2) = f_16 at hP hD
    refine lv_aload_n hx hb dX12_grown_63 rfl (lv_at hl 1 rfl) ?_
    refine va_get (D := (dC, dI)) (ci := 12) (v := .ref a_ah) (C := RX12) (T := TX12) (N := 70) hx hb hts hiX12 hown hK hP 0 rfl rfl 56 (by decide) w__fieldLink_RX12_123_ShellHeapModel_ahead_Z_ (fun _ h9 => h9) rfl dX12_grown_64 ?_
    refine lv_iload_n hx hb dX12_grown_67 rfl (lv_at hl 0 rfl) ?_
    refine lv_iconst (v := 0) hx hb dX12_grown_68 (by decide) ?_
    refine va_zast hx hb hK hP hD hS 5 4 rfl rfl (z_vpin (by omega) (by omega)) dX12_grown_69 (fun H_17 locs hP hD hS => ?_)
    obtain ⟨hP, hD⟩ := z_s_5 hP hD
    generalize (upd fa_ah (z_3 : Int32).toNatClampNeg (vp_nar .boolean 0)) = f_18 at hP hD
    refine lv_iload_n hx hb dX12_grown_70 rfl (lv_at hl 0 rfl) ?_
    have hP9 := hP
    have hD9 := hD
    have hK9 := hK.sub (tys' := []) [] rfl
    refine W.widen (k := 0) (n := 0) (Nat.le_of_ble_eq_true rfl) (Nat.le_of_ble_eq_true rfl) ?_
    exact W.iret (v := z_3) hx hb hr (fun t ht hW => ⟨⟨z_3, z_3, rfl, ⟨rfl, (show ((-1 : Int) ≤ (z_3).toInt ∧ (z_3).toInt ≤ (191 : Int)) by omega)⟩, ⟨z_4, mf, mfp, (upd fa_kt (z_3 : Int32).toNatClampNeg p1), (upd fa_lf (z_3 : Int32).toNatClampNeg (-1)), (upd fa_rt (z_3 : Int32).toNatClampNeg (-1)), f_16, f_18, (by first | omega | decide), (show ((z_3.toInt = (-1 : Int) ∧ z_4.toInt = mkr.toInt) ∨ (z_3.toInt = 96 + mkr.toInt ∧ mkr.toInt ≤ (95 : Int) ∧ z_4.toInt = mkr.toInt + 1 ∧ (upd fa_kt (z_3 : Int32).toNatClampNeg p1) = upd fa_kt (96 + mkr.toInt).toNat p1 ∧ (upd fa_lf (z_3 : Int32).toNatClampNeg (-1)) = upd fa_lf (96 + mkr.toInt).toNat (-1) ∧ (upd fa_rt (z_3 : Int32).toNatClampNeg (-1)) = upd fa_rt (96 + mkr.toInt).toNat (-1))) from Or.inr ⟨by omega, by omega, by omega, by rw [z_nct (i := z_3) (k := 96 + (mkr).toInt) (by omega)], by rw [z_nct (i := z_3) (k := 96 + (mkr).toInt) (by omega)], by rw [z_nct (i := z_3) (k := 96 + (mkr).toInt) (by omega)]⟩), hag_8, hag_11, hag_14, by rw [ht]; exact hP9, va_K.moved hW.alike hK9, hD9⟩⟩, hS.F ht⟩) hS.2.2 dX12_grown_71
  · have k_19 : (mkr).toInt = (96 : Int) := z_eq c_1
    refine lv_aload_n hx hb dX12_grown_9 rfl (lv_at hl 0 rfl) ?_
    refine lv_iconst (v := 2) hx hb dX12_grown_10 (by decide) ?_
    obtain ⟨hPc, hDc, hFc⟩ := z_sub3 (ws' := [(h0, .inr (12, [.ref a_te, h0_1, h0_2, h0_3, h0_4, h0_5, h0_6, h0_7, h0_8, h0_9, h0_10, h0_11, h0_12, h0_13, h0_14, h0_15, h0_16, h0_17, h0_18, h0_19, h0_20, h0_21, h0_22, h0_23, h0_24, h0_25, h0_26, .ref a_wd, .int mf, .int mfp, .int mst, .int mnx, .int mkd, .int mwh, .int mpl, h0_35, h0_36, h0_37, h0_38, h0_39, h0_40, h0_41, h0_42, h0_43, h0_44, .int mcr, h0_46, .int mkr, h0_48, h0_49, h0_50, h0_51, .ref a_kt, .ref a_lf, .ref a_rt, .ref a_am, .ref a_ah, .ref a_gb, .int mom, .ref a_w, .ref a_o, .int mws, .ref a_h, .int mhs, .ref a_cp, .int mop, .int mhc, .int mwv, .int mmn, h0_69]))]) hP hD hS hA [0] (by decide) rfl
    have hKc := hK.sub (tys' := []) [] rfl
    refine va_calli (va_runV (As := [.int 2]) (rest := []) ⟨hx, hb, hml, hown, hts⟩ (s_X12_wrong l dC dI s.heap.size h0 2 (.ref a_te) h0_1 h0_2 h0_3 h0_4 h0_5 h0_6 h0_7 h0_8 h0_9 h0_10 h0_11 h0_12 h0_13 h0_14 h0_15 h0_16 h0_17 h0_18 h0_19 h0_20 h0_21 h0_22 h0_23 h0_24 h0_25 h0_26 (.ref a_wd) mf mfp mst mnx mkd mwh mpl h0_35 h0_36 h0_37 h0_38 h0_39 h0_40 h0_41 h0_42 h0_43 h0_44 (.int mcr) h0_46 (.int mkr) h0_48 h0_49 h0_50 h0_51 (.ref a_kt) (.ref a_lf) (.ref a_rt) (.ref a_am) (.ref a_ah) (.ref a_gb) (.int mom) (.ref a_w) (.ref a_o) (.int mws) (.ref a_h) (.int mhs) (.ref a_cp) (.int mop) (.int mhc) (.int mwv) (.int mmn) h0_69) (cwV 1 hts gw_s_X12_grown_s_X12_wrong_240 rfl rfl rfl (by decide +kernel) ⟨Nat.le_of_ble_eq_true rfl, Nat.le_of_ble_eq_true rfl⟩) ⟨z_blind, va_recv hKc hPc (ci := 12) (q0 := 0) rfl rfl, z_pre hPc hKc hDc⟩ rfl rfl hl.1 rfl (lv_room (Nat.le_of_ble_eq_true rfl)) dX12_grown_11 ⟨Nat.le_of_ble_eq_true rfl, Nat.le_of_ble_eq_true rfl⟩) hS (fun q _ h => hFc q h) hFc (fun r_21 u t H_20 locs ht hvm hw_22 hB hz1 hk1 hS => ?_)
    obtain ⟨n_h0_fault_23, n_h0_faultPlace_24, hP1, hK1, hD1⟩ := hB
    rw [ht] at hP1
    have hK1 := va_K.moved hvm.symm hK1
    obtain ⟨hP, hD⟩ := z_ap_5 (va_join (wr := [(a_kt, .inl (ca_kt, 192, .inl fa_kt)), (a_lf, .inl (ca_lf, 192, .inl fa_lf)), (a_rt, .inl (ca_rt, 192, .inl fa_rt)), (a_am, .inl (ca_am, 192, .inl fa_am)), (a_ah, .inl (ca_ah, 192, .inl fa_ah))]) hP hD [0] [1, 2, 3, 4, 5] rfl rfl (by decide) (by decide) hk1 hFc hP1 hD1)
    clear hPc hDc hKc
    obtain rfl : r_21 = 0 := hw_22
    refine lv_istore_n (lv' := [(3, .int 0), (0, .ref h0), (1, .int p1), (2, .int p2)]) hx hb dX12_grown_14 rfl hl (by decide) rfl (fun ls hl => ?_)
    refine lv_iconst (v := (-1)) hx hb dX12_grown_15 (by decide) ?_
    obtain ⟨hP9, hD9⟩ := z_sub2 (ws' := [(h0, .inr (12, [.ref a_te, h0_1, h0_2, h0_3, h0_4, h0_5, h0_6, h0_7, h0_8, h0_9, h0_10, h0_11, h0_12, h0_13, h0_14, h0_15, h0_16, h0_17, h0_18, h0_19, h0_20, h0_21, h0_22, h0_23, h0_24, h0_25, h0_26, .ref a_wd, .int n_h0_fault_23, .int n_h0_faultPlace_24, .int mst, .int mnx, .int mkd, .int mwh, .int mpl, h0_35, h0_36, h0_37, h0_38, h0_39, h0_40, h0_41, h0_42, h0_43, h0_44, .int mcr, h0_46, .int mkr, h0_48, h0_49, h0_50, h0_51, .ref a_kt, .ref a_lf, .ref a_rt, .ref a_am, .ref a_ah, .ref a_gb, .int mom, .ref a_w, .ref a_o, .int mws, .ref a_h, .int mhs, .ref a_cp, .int mop, .int mhc, .int mwv, .int mmn, h0_69])), (a_kt, .inl (ca_kt, 192, .inl fa_kt)), (a_lf, .inl (ca_lf, 192, .inl fa_lf)), (a_rt, .inl (ca_rt, 192, .inl fa_rt)), (a_am, .inl (ca_am, 192, .inl fa_am)), (a_ah, .inl (ca_ah, 192, .inl fa_ah))]) hP hD [5, 0, 1, 2, 3, 4] (by decide) rfl
    have hK9 := hK.sub (tys' := []) [] rfl
    refine W.widen (k := 0) (n := 0) (Nat.le_of_ble_eq_true rfl) (Nat.le_of_ble_eq_true rfl) ?_
    exact W.iret (v := (-1)) hx hb hr (fun t ht hW => ⟨⟨(-1), (-1), rfl, ⟨rfl, (show ((-1 : Int) ≤ (-1 : Int) ∧ (-1 : Int) ≤ (191 : Int)) by decide)⟩, ⟨mkr, n_h0_fault_23, n_h0_faultPlace_24, fa_kt, fa_lf, fa_rt, fa_am, fa_ah, hB_mkr, (show (((-1 : Int) = (-1 : Int) ∧ mkr.toInt = mkr.toInt) ∨ ((-1 : Int) = 96 + mkr.toInt ∧ mkr.toInt ≤ (95 : Int) ∧ mkr.toInt = mkr.toInt + 1 ∧ fa_kt = upd fa_kt (96 + mkr.toInt).toNat p1 ∧ fa_lf = upd fa_lf (96 + mkr.toInt).toNat (-1) ∧ fa_rt = upd fa_rt (96 + mkr.toInt).toNat (-1))) from Or.inl ⟨by omega, by omega⟩), z_ag_rfl, z_ag_rfl, z_ag_rfl, by rw [ht]; exact hP9, va_K.moved hW.alike hK9, hD9⟩⟩, hS.F ht⟩) hS.2.2 dX12_grown_16
def u_s_X12_done : List Cond := .code yX12_done cX12_done 2 none :: ([.fieldLink RX12 126 "ShellHeapModel" "goesBy" "[I", .fieldLink RX12 320 "ShellHeapModel" "orderMany" "I", .fieldLink RX12 135 "ShellHeapModel" "held" "[I", .fieldLink RX12 323 "ShellHeapModel" "helds" "I"] ++ (wsX120 ++ []))
theorem gd_s_X12_done : z_gd u_s_X12_done := z_gdc (by decide +kernel) (z_gda gdX12 (z_gd0))
set_option maxHeartbeats 4000000 in
set_option maxRecDepth 100000 in
theorem s_X12_done (l : Launch) (dC : Nat → ClassId) (dI : Nat → Nat → Nat) (sz : Nat) (h0 : Nat) (p1 : Int32) (a_te : Nat) (h0_1 : Value) (h0_2 : Value) (h0_3 : Value) (h0_4 : Value) (h0_5 : Value) (h0_6 : Value) (h0_7 : Value) (h0_8 : Value) (h0_9 : Value) (h0_10 : Value) (h0_11 : Value) (h0_12 : Value) (h0_13 : Value) (h0_14 : Value) (h0_15 : Value) (h0_16 : Value) (h0_17 : Value) (h0_18 : Value) (h0_19 : Value) (h0_20 : Value) (h0_21 : Value) (h0_22 : Value) (h0_23 : Value) (h0_24 : Value) (h0_25 : Value) (h0_26 : Value) (a_wd : Nat) (mf : Int32) (mfp : Int32) (mst : Int32) (mnx : Int32) (mkd : Int32) (mwh : Int32) (mpl : Int32) (h0_35 : Value) (h0_36 : Value) (h0_37 : Value) (h0_38 : Value) (h0_39 : Value) (h0_40 : Value) (h0_41 : Value) (h0_42 : Value) (h0_43 : Value) (h0_44 : Value) (mcr : Int32) (h0_46 : Value) (mkr : Int32) (h0_48 : Value) (h0_49 : Value) (h0_50 : Value) (h0_51 : Value) (a_kt : Nat) (a_lf : Nat) (a_rt : Nat) (a_am : Nat) (a_ah : Nat) (a_gb : Nat) (mom : Int32) (a_w : Nat) (a_o : Nat) (mws : Int32) (a_h : Nat) (mhs : Int32) (a_cp : Nat) (mop : Int32) (mhc : Int32) (mwv : Int32) (mmn : Int32) (h0_69 : Value) (ca_gb : ClassId) (fa_gb : Nat → Int32) (ca_h : ClassId) (fa_h : Nat → Int32) (hB_mom : ((0 : Int) ≤ (mom).toInt ∧ (mom).toInt ≤ (95 : Int))) (hB_mhs : ((0 : Int) ≤ (mhs).toInt ∧ (mhs).toInt ≤ (119 : Int))) : Met l yX12_done u_s_X12_done ({ frames := 0, cells := 0, slots := 0, locals := 0 }) (va_Pc [.ref h0, .int p1] (z_C (dC, dI) vwCl [(h0, .inr (12, [.ref a_te, h0_1, h0_2, h0_3, h0_4, h0_5, h0_6, h0_7, h0_8, h0_9, h0_10, h0_11, h0_12, h0_13, h0_14, h0_15, h0_16, h0_17, h0_18, h0_19, h0_20, h0_21, h0_22, h0_23, h0_24, h0_25, h0_26, .ref a_wd, .int mf, .int mfp, .int mst, .int mnx, .int mkd, .int mwh, .int mpl, h0_35, h0_36, h0_37, h0_38, h0_39, h0_40, h0_41, h0_42, h0_43, h0_44, .int mcr, h0_46, .int mkr, h0_48, h0_49, h0_50, h0_51, .ref a_kt, .ref a_lf, .ref a_rt, .ref a_am, .ref a_ah, .ref a_gb, .int mom, .ref a_w, .ref a_o, .int mws, .ref a_h, .int mhs, .ref a_cp, .int mop, .int mhc, .int mwv, .int mmn, h0_69])), (a_gb, .inl (ca_gb, 192, .inl fa_gb)), (a_h, .inl (ca_h, 120, .inl fa_h))] [(ca_gb, .int), (ca_h, .int)] sz)) (va_Qv (fun (_ : Unit) => True) (fun (_ : Unit) (t : State) => ∃ (n_h0_orderMany : Int32), ∃ (n_h0_helds : Int32), ∃ (g_a_gb : Nat → Int32), ∃ (g_a_h : Nat → Int32), ((0 : Int) ≤ (n_h0_orderMany).toInt ∧ (n_h0_orderMany).toInt ≤ (96 : Int)) ∧ ((0 : Int) ≤ (n_h0_helds).toInt ∧ (n_h0_helds).toInt ≤ (120 : Int)) ∧ (n_h0_orderMany.toInt = mom.toInt + 1 ∧ n_h0_helds.toInt = mhs.toInt + 1 ∧ g_a_gb = upd fa_gb (96 + mom.toInt).toNat p1 ∧ g_a_h = upd fa_h mhs.toInt.toNat p1) ∧ (z_ag fa_gb g_a_gb) ∧ va_P (dC, dI) vwCl [(h0, .inr (12, [.ref a_te, h0_1, h0_2, h0_3, h0_4, h0_5, h0_6, h0_7, h0_8, h0_9, h0_10, h0_11, h0_12, h0_13, h0_14, h0_15, h0_16, h0_17, h0_18, h0_19, h0_20, h0_21, h0_22, h0_23, h0_24, h0_25, h0_26, .ref a_wd, .int mf, .int mfp, .int mst, .int mnx, .int mkd, .int mwh, .int mpl, h0_35, h0_36, h0_37, h0_38, h0_39, h0_40, h0_41, h0_42, h0_43, h0_44, .int mcr, h0_46, .int mkr, h0_48, h0_49, h0_50, h0_51, .ref a_kt, .ref a_lf, .ref a_rt, .ref a_am, .ref a_ah, .ref a_gb, .int n_h0_orderMany, .ref a_w, .ref a_o, .int mws, .ref a_h, .int n_h0_helds, .ref a_cp, .int mop, .int mhc, .int mwv, .int mmn, h0_69])), (a_gb, .inl (ca_gb, 192, .inl g_a_gb)), (a_h, .inl (ca_h, 120, .inl g_a_h))] t.heap ∧ va_K (dC, dI) vwCl [] t ∧ va_D (va_A [(h0, .inr (12, [.ref a_te, h0_1, h0_2, h0_3, h0_4, h0_5, h0_6, h0_7, h0_8, h0_9, h0_10, h0_11, h0_12, h0_13, h0_14, h0_15, h0_16, h0_17, h0_18, h0_19, h0_20, h0_21, h0_22, h0_23, h0_24, h0_25, h0_26, .ref a_wd, .int mf, .int mfp, .int mst, .int mnx, .int mkd, .int mwh, .int mpl, h0_35, h0_36, h0_37, h0_38, h0_39, h0_40, h0_41, h0_42, h0_43, h0_44, .int mcr, h0_46, .int mkr, h0_48, h0_49, h0_50, h0_51, .ref a_kt, .ref a_lf, .ref a_rt, .ref a_am, .ref a_ah, .ref a_gb, .int mom, .ref a_w, .ref a_o, .int mws, .ref a_h, .int mhs, .ref a_cp, .int mop, .int mhc, .int mwv, .int mmn, h0_69])), (a_gb, .inl (ca_gb, 192, .inl fa_gb)), (a_h, .inl (ca_h, 120, .inl fa_h))] sz) [(h0, .inr (12, [.ref a_te, h0_1, h0_2, h0_3, h0_4, h0_5, h0_6, h0_7, h0_8, h0_9, h0_10, h0_11, h0_12, h0_13, h0_14, h0_15, h0_16, h0_17, h0_18, h0_19, h0_20, h0_21, h0_22, h0_23, h0_24, h0_25, h0_26, .ref a_wd, .int mf, .int mfp, .int mst, .int mnx, .int mkd, .int mwh, .int mpl, h0_35, h0_36, h0_37, h0_38, h0_39, h0_40, h0_41, h0_42, h0_43, h0_44, .int mcr, h0_46, .int mkr, h0_48, h0_49, h0_50, h0_51, .ref a_kt, .ref a_lf, .ref a_rt, .ref a_am, .ref a_ah, .ref a_gb, .int n_h0_orderMany, .ref a_w, .ref a_o, .int mws, .ref a_h, .int n_h0_helds, .ref a_cp, .int mop, .int mhc, .int mwv, .int mmn, h0_69])), (a_gb, .inl (ca_gb, 192, .inl g_a_gb)), (a_h, .inl (ca_h, 120, .inl g_a_h))]) (va_A [(h0, .inr (12, [.ref a_te, h0_1, h0_2, h0_3, h0_4, h0_5, h0_6, h0_7, h0_8, h0_9, h0_10, h0_11, h0_12, h0_13, h0_14, h0_15, h0_16, h0_17, h0_18, h0_19, h0_20, h0_21, h0_22, h0_23, h0_24, h0_25, h0_26, .ref a_wd, .int mf, .int mfp, .int mst, .int mnx, .int mkd, .int mwh, .int mpl, h0_35, h0_36, h0_37, h0_38, h0_39, h0_40, h0_41, h0_42, h0_43, h0_44, .int mcr, h0_46, .int mkr, h0_48, h0_49, h0_50, h0_51, .ref a_kt, .ref a_lf, .ref a_rt, .ref a_am, .ref a_ah, .ref a_gb, .int mom, .ref a_w, .ref a_o, .int mws, .ref a_h, .int mhs, .ref a_cp, .int mop, .int mhc, .int mwv, .int mmn, h0_69])), (a_gb, .inl (ca_gb, 192, .inl fa_gb)), (a_h, .inl (ca_h, 120, .inl fa_h))] sz)) 0 0 (va_A [(h0, .inr (12, [.ref a_te, h0_1, h0_2, h0_3, h0_4, h0_5, h0_6, h0_7, h0_8, h0_9, h0_10, h0_11, h0_12, h0_13, h0_14, h0_15, h0_16, h0_17, h0_18, h0_19, h0_20, h0_21, h0_22, h0_23, h0_24, h0_25, h0_26, .ref a_wd, .int mf, .int mfp, .int mst, .int mnx, .int mkd, .int mwh, .int mpl, h0_35, h0_36, h0_37, h0_38, h0_39, h0_40, h0_41, h0_42, h0_43, h0_44, .int mcr, h0_46, .int mkr, h0_48, h0_49, h0_50, h0_51, .ref a_kt, .ref a_lf, .ref a_rt, .ref a_am, .ref a_ah, .ref a_gb, .int mom, .ref a_w, .ref a_o, .int mws, .ref a_h, .int mhs, .ref a_cp, .int mop, .int mhc, .int mwv, .int mmn, h0_69])), (a_gb, .inl (ca_gb, 192, .inl fa_gb)), (a_h, .inl (ca_h, 120, .inl fa_h))] sz) := by
  refine Met.ofW (cc := cX12_done) (maxL := 2) (ret := none) (by decide) rfl ?_
  intro p e s m args below meth c s₁ B hml hv
  obtain ⟨rfl, hsz, hP, hK, hD0⟩ := hv
  have hx := B.exec
  have hb := B.bytes
  have hr := B.returns
  have hts := atoms_spec (ws := u_s_X12_done) B.pre
  have hown : s.vm.findClass RX12 = some m.cls := findClass_of_methodNamed B.named
  have hlocks := B.notSynchronized
  subst hsz
  have hD := hD0.self (sz := s.heap.size)
  generalize hAe : va_A [(h0, .inr (12, [.ref a_te, h0_1, h0_2, h0_3, h0_4, h0_5, h0_6, h0_7, h0_8, h0_9, h0_10, h0_11, h0_12, h0_13, h0_14, h0_15, h0_16, h0_17, h0_18, h0_19, h0_20, h0_21, h0_22, h0_23, h0_24, h0_25, h0_26, .ref a_wd, .int mf, .int mfp, .int mst, .int mnx, .int mkd, .int mwh, .int mpl, h0_35, h0_36, h0_37, h0_38, h0_39, h0_40, h0_41, h0_42, h0_43, h0_44, .int mcr, h0_46, .int mkr, h0_48, h0_49, h0_50, h0_51, .ref a_kt, .ref a_lf, .ref a_rt, .ref a_am, .ref a_ah, .ref a_gb, .int mom, .ref a_w, .ref a_o, .int mws, .ref a_h, .int mhs, .ref a_cp, .int mop, .int mhc, .int mwv, .int mmn, h0_69])), (a_gb, .inl (ca_gb, 192, .inl fa_gb)), (a_h, .inl (ca_h, 120, .inl fa_h))] s.heap.size = A at hD ⊢
  have hA : ∀ q : Nat, s.heap.size ≤ q → A q := fun q h => by rw [← hAe]; exact Or.inr h
  have hS : va_S A s.heap s.heap [] := va_S.rf
  have hP : va_P (dC, dI) vwCl [(h0, .inr (12, [.ref a_te, h0_1, h0_2, h0_3, h0_4, h0_5, h0_6, h0_7, h0_8, h0_9, h0_10, h0_11, h0_12, h0_13, h0_14, h0_15, h0_16, h0_17, h0_18, h0_19, h0_20, h0_21, h0_22, h0_23, h0_24, h0_25, h0_26, .ref a_wd, .int mf, .int mfp, .int mst, .int mnx, .int mkd, .int mwh, .int mpl, h0_35, h0_36, h0_37, h0_38, h0_39, h0_40, h0_41, h0_42, h0_43, h0_44, .int mcr, h0_46, .int mkr, h0_48, h0_49, h0_50, h0_51, .ref a_kt, .ref a_lf, .ref a_rt, .ref a_am, .ref a_ah, .ref a_gb, .int mom, .ref a_w, .ref a_o, .int mws, .ref a_h, .int mhs, .ref a_cp, .int mop, .int mhc, .int mwv, .int mmn, h0_69])), (a_gb, .inl (ca_gb, 192, .inl fa_gb)), (a_h, .inl (ca_h, 120, .inl fa_h))] s.heap := hP
  have w__fieldLink_RX12_126_ShellHeapModel_goesBy_I_ := hts (.fieldLink RX12 126 "ShellHeapModel" "goesBy" "[I") (z_mc (z_ml z_m0))
  have hiX12 := show ∀ w ∈ u_ws RX12 TX12 70, w ∈ u_s_X12_done from fun w h => z_mc (z_mr (z_ml h))
  have w__fieldLink_RX12_320_ShellHeapModel_orderMany_I_ := hts (.fieldLink RX12 320 "ShellHeapModel" "orderMany" "I") (z_mc (z_ml z_m1))
  have w__fieldLink_RX12_135_ShellHeapModel_held_I_ := hts (.fieldLink RX12 135 "ShellHeapModel" "held" "[I") (z_mc (z_ml z_m2))
  have w__fieldLink_RX12_323_ShellHeapModel_helds_I_ := hts (.fieldLink RX12 323 "ShellHeapModel" "helds" "I") (z_mc (z_ml z_m3))
  have krr_p1 := z_rng p1
  have hl := lv_entry ([.ref h0, .int p1]) (n := 2) (Nat.le_of_ble_eq_true rfl)
  rw [lg_entry_eq]
  generalize (lg_sl ([.ref h0, .int p1]) ++ List.replicate (2 - (lg_sl ([.ref h0, .int p1])).length) Slot.unset).toArray = ls at hl ⊢
  have hl : lv_has ls 2 [(0, .ref h0), (1, .int p1)] := hl
  refine lv_aload_n hx hb dX12_done_0 rfl (lv_at hl 0 rfl) ?_
  refine va_get (D := (dC, dI)) (ci := 12) (v := .ref a_gb) (C := RX12) (T := TX12) (N := 70) hx hb hts hiX12 hown hK hP 0 rfl rfl 57 (by decide) w__fieldLink_RX12_126_ShellHeapModel_goesBy_I_ (fun _ h9 => h9) rfl dX12_done_1 ?_
  refine lv_bipush (v := 96) hx hb dX12_done_4 (by decide) ?_
  refine lv_aload_n hx hb dX12_done_6 rfl (lv_at hl 0 rfl) ?_
  refine va_get (D := (dC, dI)) (ci := 12) (v := .int mom) (C := RX12) (T := TX12) (N := 70) hx hb hts hiX12 hown hK hP 0 rfl rfl 58 (by decide) w__fieldLink_RX12_320_ShellHeapModel_orderMany_I_ (fun _ h9 => h9) rfl dX12_done_7 ?_
  refine lv_iadd hx hb dX12_done_10 ?_
  refine lv_topi (fun z_1 ez_1 => ?_)
  have kz_1 : (z_1).toInt = (96 : Int) + (mom).toInt := by rw [ez_1]; exact z_add (a := (96 : Int)) (b := (mom).toInt) rfl rfl (by omega) (by omega)
  refine lv_iload_n hx hb dX12_done_11 rfl (lv_at hl 1 rfl) ?_
  refine va_iast hx hb hK hP hD hS 1 0 rfl rfl (z_vpin (by omega) (by omega)) dX12_done_12 (fun H_2 locs hP hD hS => ?_)
  obtain ⟨hP, hD⟩ := z_s_1 hP hD
  have hag_4 : z_ag fa_gb (upd fa_gb (z_1 : Int32).toNatClampNeg p1) := z_ag_upd z_ag_rfl (by omega)
  refine lv_aload_n hx hb dX12_done_13 rfl (lv_at hl 0 rfl) ?_
  refine lv_dup hx hb dX12_done_14 rfl ?_
  refine va_get (D := (dC, dI)) (ci := 12) (v := .int mom) (C := RX12) (T := TX12) (N := 70) hx hb hts hiX12 hown hK hP 0 rfl rfl 58 (by decide) w__fieldLink_RX12_320_ShellHeapModel_orderMany_I_ (fun _ h9 => h9) rfl dX12_done_15 ?_
  refine lv_iconst (v := 1) hx hb dX12_done_18 (by decide) ?_
  refine lv_iadd hx hb dX12_done_19 ?_
  refine lv_topi (fun z_5 ez_5 => ?_)
  have kz_5 : (z_5).toInt = (mom).toInt + (1 : Int) := by rw [ez_5]; exact z_add (a := (mom).toInt) (b := (1 : Int)) rfl rfl (z_al hB_mom.1 (by decide)) (z_ah hB_mom.2 (by decide))
  refine va_put (D := (dC, dI)) (ci := 12) (v := .int z_5) (ty := .int) (C := RX12) (T := TX12) (N := 70) hx hb hts hiX12 tyX12 tyX12_ok nmX12 hown hK hP hD hS 0 rfl rfl 58 (by decide) w__fieldLink_RX12_320_ShellHeapModel_orderMany_I_ (fun _ h9 => h9) rfl (by decide +kernel) rfl rfl (Nat.le_of_ble_eq_true rfl) dX12_done_20 (fun H_6 locs hP hD hS => ?_)
  obtain ⟨hP, hD⟩ := z_s_0_58 hP hD
  refine lv_aload_n hx hb dX12_done_23 rfl (lv_at hl 0 rfl) ?_
  refine va_get (D := (dC, dI)) (ci := 12) (v := .ref a_h) (C := RX12) (T := TX12) (N := 70) hx hb hts hiX12 hown hK hP 0 rfl rfl 62 (by decide) w__fieldLink_RX12_135_ShellHeapModel_held_I_ (fun _ h9 => h9) rfl dX12_done_24 ?_
  refine lv_aload_n hx hb dX12_done_27 rfl (lv_at hl 0 rfl) ?_
  refine va_get (D := (dC, dI)) (ci := 12) (v := .int mhs) (C := RX12) (T := TX12) (N := 70) hx hb hts hiX12 hown hK hP 0 rfl rfl 63 (by decide) w__fieldLink_RX12_323_ShellHeapModel_helds_I_ (fun _ h9 => h9) rfl dX12_done_28 ?_
  refine lv_iload_n hx hb dX12_done_31 rfl (lv_at hl 1 rfl) ?_
  refine va_iast hx hb hK hP hD hS 2 1 rfl rfl (z_vpinB hB_mhs (by decide) (by decide)) dX12_done_32 (fun H_7 locs hP hD hS => ?_)
  obtain ⟨hP, hD⟩ := z_s_2 hP hD
  refine lv_aload_n hx hb dX12_done_33 rfl (lv_at hl 0 rfl) ?_
  refine lv_dup hx hb dX12_done_34 rfl ?_
  refine va_get (D := (dC, dI)) (ci := 12) (v := .int mhs) (C := RX12) (T := TX12) (N := 70) hx hb hts hiX12 hown hK hP 0 rfl rfl 63 (by decide) w__fieldLink_RX12_323_ShellHeapModel_helds_I_ (fun _ h9 => h9) rfl dX12_done_35 ?_
  refine lv_iconst (v := 1) hx hb dX12_done_38 (by decide) ?_
  refine lv_iadd hx hb dX12_done_39 ?_
  refine lv_topi (fun z_9 ez_9 => ?_)
  have kz_9 : (z_9).toInt = (mhs).toInt + (1 : Int) := by rw [ez_9]; exact z_add (a := (mhs).toInt) (b := (1 : Int)) rfl rfl (z_al hB_mhs.1 (by decide)) (z_ah hB_mhs.2 (by decide))
  refine va_put (D := (dC, dI)) (ci := 12) (v := .int z_9) (ty := .int) (C := RX12) (T := TX12) (N := 70) hx hb hts hiX12 tyX12 tyX12_ok nmX12 hown hK hP hD hS 0 rfl rfl 63 (by decide) w__fieldLink_RX12_323_ShellHeapModel_helds_I_ (fun _ h9 => h9) rfl (by decide +kernel) rfl rfl (Nat.le_of_ble_eq_true rfl) dX12_done_40 (fun H_10 locs hP hD hS => ?_)
  obtain ⟨hP, hD⟩ := z_s_0_63 hP hD
  have hP9 := hP
  have hD9 := hD
  have hK9 := hK.sub (tys' := []) [] rfl
  refine W.widen (k := 0) (n := 0) (Nat.le_of_ble_eq_true rfl) (Nat.le_of_ble_eq_true rfl) ?_
  exact W.vret hx hb hr (fun t ht hW => ⟨⟨(), rfl, trivial, ⟨z_5, z_9, (upd fa_gb (z_1 : Int32).toNatClampNeg p1), (upd fa_h (mhs : Int32).toNatClampNeg p1), (by first | omega | decide), (by first | omega | decide), (show z_5.toInt = mom.toInt + 1 ∧ z_9.toInt = mhs.toInt + 1 ∧ (upd fa_gb (z_1 : Int32).toNatClampNeg p1) = upd fa_gb (96 + mom.toInt).toNat p1 ∧ (upd fa_h (mhs : Int32).toNatClampNeg p1) = upd fa_h mhs.toInt.toNat p1 from ⟨by omega, by omega, by rw [z_nct (i := z_1) (k := 96 + (mom).toInt) (by omega)], rfl⟩), hag_4, by rw [ht]; exact hP9, va_K.moved hW.alike hK9, hD9⟩⟩, hS.F ht⟩) hS.2.2 dX12_done_43
def u_s_X12_drop : List Cond := .code yX12_drop cX12_drop 1 (some .int) :: ([.fieldLink RX12 323 "ShellHeapModel" "helds" "I", .fieldLink RX12 135 "ShellHeapModel" "held" "[I"] ++ (wsX120 ++ []))
theorem gd_s_X12_drop : z_gd u_s_X12_drop := z_gdc (by decide +kernel) (z_gda gdX12 (z_gd0))
set_option maxHeartbeats 4000000 in
set_option maxRecDepth 100000 in
theorem s_X12_drop (l : Launch) (dC : Nat → ClassId) (dI : Nat → Nat → Nat) (sz : Nat) (h0 : Nat) (a_te : Nat) (h0_1 : Value) (h0_2 : Value) (h0_3 : Value) (h0_4 : Value) (h0_5 : Value) (h0_6 : Value) (h0_7 : Value) (h0_8 : Value) (h0_9 : Value) (h0_10 : Value) (h0_11 : Value) (h0_12 : Value) (h0_13 : Value) (h0_14 : Value) (h0_15 : Value) (h0_16 : Value) (h0_17 : Value) (h0_18 : Value) (h0_19 : Value) (h0_20 : Value) (h0_21 : Value) (h0_22 : Value) (h0_23 : Value) (h0_24 : Value) (h0_25 : Value) (h0_26 : Value) (a_wd : Nat) (mf : Int32) (mfp : Int32) (mst : Int32) (mnx : Int32) (mkd : Int32) (mwh : Int32) (mpl : Int32) (h0_35 : Value) (h0_36 : Value) (h0_37 : Value) (h0_38 : Value) (h0_39 : Value) (h0_40 : Value) (h0_41 : Value) (h0_42 : Value) (h0_43 : Value) (h0_44 : Value) (mcr : Int32) (h0_46 : Value) (mkr : Int32) (h0_48 : Value) (h0_49 : Value) (h0_50 : Value) (h0_51 : Value) (a_kt : Nat) (a_lf : Nat) (a_rt : Nat) (a_am : Nat) (a_ah : Nat) (a_gb : Nat) (mom : Int32) (a_w : Nat) (a_o : Nat) (mws : Int32) (a_h : Nat) (mhs : Int32) (a_cp : Nat) (mop : Int32) (mhc : Int32) (mwv : Int32) (mmn : Int32) (h0_69 : Value) (ca_h : ClassId) (fa_h : Nat → Int32) (hB_mhs : ((1 : Int) ≤ (mhs).toInt ∧ (mhs).toInt ≤ (120 : Int))) : Met l yX12_drop u_s_X12_drop ({ frames := 0, cells := 0, slots := 0, locals := 0 }) (va_Pc [.ref h0] (z_C (dC, dI) vwCl [(h0, .inr (12, [.ref a_te, h0_1, h0_2, h0_3, h0_4, h0_5, h0_6, h0_7, h0_8, h0_9, h0_10, h0_11, h0_12, h0_13, h0_14, h0_15, h0_16, h0_17, h0_18, h0_19, h0_20, h0_21, h0_22, h0_23, h0_24, h0_25, h0_26, .ref a_wd, .int mf, .int mfp, .int mst, .int mnx, .int mkd, .int mwh, .int mpl, h0_35, h0_36, h0_37, h0_38, h0_39, h0_40, h0_41, h0_42, h0_43, h0_44, .int mcr, h0_46, .int mkr, h0_48, h0_49, h0_50, h0_51, .ref a_kt, .ref a_lf, .ref a_rt, .ref a_am, .ref a_ah, .ref a_gb, .int mom, .ref a_w, .ref a_o, .int mws, .ref a_h, .int mhs, .ref a_cp, .int mop, .int mhc, .int mwv, .int mmn, h0_69])), (a_h, .inl (ca_h, 120, .inl fa_h))] [(ca_h, .int)] sz)) (va_Qi (fun (r : Int32) (_ : Unit) => r = fa_h (mhs.toInt - 1).toNat) (fun (_ : Unit) (t : State) => ∃ (n_h0_helds : Int32), ((0 : Int) ≤ (n_h0_helds).toInt ∧ (n_h0_helds).toInt ≤ (119 : Int)) ∧ (n_h0_helds.toInt = mhs.toInt - 1) ∧ va_P (dC, dI) vwCl [(h0, .inr (12, [.ref a_te, h0_1, h0_2, h0_3, h0_4, h0_5, h0_6, h0_7, h0_8, h0_9, h0_10, h0_11, h0_12, h0_13, h0_14, h0_15, h0_16, h0_17, h0_18, h0_19, h0_20, h0_21, h0_22, h0_23, h0_24, h0_25, h0_26, .ref a_wd, .int mf, .int mfp, .int mst, .int mnx, .int mkd, .int mwh, .int mpl, h0_35, h0_36, h0_37, h0_38, h0_39, h0_40, h0_41, h0_42, h0_43, h0_44, .int mcr, h0_46, .int mkr, h0_48, h0_49, h0_50, h0_51, .ref a_kt, .ref a_lf, .ref a_rt, .ref a_am, .ref a_ah, .ref a_gb, .int mom, .ref a_w, .ref a_o, .int mws, .ref a_h, .int n_h0_helds, .ref a_cp, .int mop, .int mhc, .int mwv, .int mmn, h0_69])), (a_h, .inl (ca_h, 120, .inl fa_h))] t.heap ∧ va_K (dC, dI) vwCl [] t ∧ va_D (va_A [(h0, .inr (12, [.ref a_te, h0_1, h0_2, h0_3, h0_4, h0_5, h0_6, h0_7, h0_8, h0_9, h0_10, h0_11, h0_12, h0_13, h0_14, h0_15, h0_16, h0_17, h0_18, h0_19, h0_20, h0_21, h0_22, h0_23, h0_24, h0_25, h0_26, .ref a_wd, .int mf, .int mfp, .int mst, .int mnx, .int mkd, .int mwh, .int mpl, h0_35, h0_36, h0_37, h0_38, h0_39, h0_40, h0_41, h0_42, h0_43, h0_44, .int mcr, h0_46, .int mkr, h0_48, h0_49, h0_50, h0_51, .ref a_kt, .ref a_lf, .ref a_rt, .ref a_am, .ref a_ah, .ref a_gb, .int mom, .ref a_w, .ref a_o, .int mws, .ref a_h, .int mhs, .ref a_cp, .int mop, .int mhc, .int mwv, .int mmn, h0_69])), (a_h, .inl (ca_h, 120, .inl fa_h))] sz) [(h0, .inr (12, [.ref a_te, h0_1, h0_2, h0_3, h0_4, h0_5, h0_6, h0_7, h0_8, h0_9, h0_10, h0_11, h0_12, h0_13, h0_14, h0_15, h0_16, h0_17, h0_18, h0_19, h0_20, h0_21, h0_22, h0_23, h0_24, h0_25, h0_26, .ref a_wd, .int mf, .int mfp, .int mst, .int mnx, .int mkd, .int mwh, .int mpl, h0_35, h0_36, h0_37, h0_38, h0_39, h0_40, h0_41, h0_42, h0_43, h0_44, .int mcr, h0_46, .int mkr, h0_48, h0_49, h0_50, h0_51, .ref a_kt, .ref a_lf, .ref a_rt, .ref a_am, .ref a_ah, .ref a_gb, .int mom, .ref a_w, .ref a_o, .int mws, .ref a_h, .int n_h0_helds, .ref a_cp, .int mop, .int mhc, .int mwv, .int mmn, h0_69])), (a_h, .inl (ca_h, 120, .inl fa_h))]) (va_A [(h0, .inr (12, [.ref a_te, h0_1, h0_2, h0_3, h0_4, h0_5, h0_6, h0_7, h0_8, h0_9, h0_10, h0_11, h0_12, h0_13, h0_14, h0_15, h0_16, h0_17, h0_18, h0_19, h0_20, h0_21, h0_22, h0_23, h0_24, h0_25, h0_26, .ref a_wd, .int mf, .int mfp, .int mst, .int mnx, .int mkd, .int mwh, .int mpl, h0_35, h0_36, h0_37, h0_38, h0_39, h0_40, h0_41, h0_42, h0_43, h0_44, .int mcr, h0_46, .int mkr, h0_48, h0_49, h0_50, h0_51, .ref a_kt, .ref a_lf, .ref a_rt, .ref a_am, .ref a_ah, .ref a_gb, .int mom, .ref a_w, .ref a_o, .int mws, .ref a_h, .int mhs, .ref a_cp, .int mop, .int mhc, .int mwv, .int mmn, h0_69])), (a_h, .inl (ca_h, 120, .inl fa_h))] sz)) 0 0 (va_A [(h0, .inr (12, [.ref a_te, h0_1, h0_2, h0_3, h0_4, h0_5, h0_6, h0_7, h0_8, h0_9, h0_10, h0_11, h0_12, h0_13, h0_14, h0_15, h0_16, h0_17, h0_18, h0_19, h0_20, h0_21, h0_22, h0_23, h0_24, h0_25, h0_26, .ref a_wd, .int mf, .int mfp, .int mst, .int mnx, .int mkd, .int mwh, .int mpl, h0_35, h0_36, h0_37, h0_38, h0_39, h0_40, h0_41, h0_42, h0_43, h0_44, .int mcr, h0_46, .int mkr, h0_48, h0_49, h0_50, h0_51, .ref a_kt, .ref a_lf, .ref a_rt, .ref a_am, .ref a_ah, .ref a_gb, .int mom, .ref a_w, .ref a_o, .int mws, .ref a_h, .int mhs, .ref a_cp, .int mop, .int mhc, .int mwv, .int mmn, h0_69])), (a_h, .inl (ca_h, 120, .inl fa_h))] sz) := by
  refine Met.ofW (cc := cX12_drop) (maxL := 1) (ret := (some .int)) (by decide) rfl ?_
  intro p e s m args below meth c s₁ B hml hv
  obtain ⟨rfl, hsz, hP, hK, hD0⟩ := hv
  have hx := B.exec
  have hb := B.bytes
  have hr := B.returns
  have hts := atoms_spec (ws := u_s_X12_drop) B.pre
  have hown : s.vm.findClass RX12 = some m.cls := findClass_of_methodNamed B.named
  have hlocks := B.notSynchronized
  subst hsz
  have hD := hD0.self (sz := s.heap.size)
  generalize hAe : va_A [(h0, .inr (12, [.ref a_te, h0_1, h0_2, h0_3, h0_4, h0_5, h0_6, h0_7, h0_8, h0_9, h0_10, h0_11, h0_12, h0_13, h0_14, h0_15, h0_16, h0_17, h0_18, h0_19, h0_20, h0_21, h0_22, h0_23, h0_24, h0_25, h0_26, .ref a_wd, .int mf, .int mfp, .int mst, .int mnx, .int mkd, .int mwh, .int mpl, h0_35, h0_36, h0_37, h0_38, h0_39, h0_40, h0_41, h0_42, h0_43, h0_44, .int mcr, h0_46, .int mkr, h0_48, h0_49, h0_50, h0_51, .ref a_kt, .ref a_lf, .ref a_rt, .ref a_am, .ref a_ah, .ref a_gb, .int mom, .ref a_w, .ref a_o, .int mws, .ref a_h, .int mhs, .ref a_cp, .int mop, .int mhc, .int mwv, .int mmn, h0_69])), (a_h, .inl (ca_h, 120, .inl fa_h))] s.heap.size = A at hD ⊢
  have hA : ∀ q : Nat, s.heap.size ≤ q → A q := fun q h => by rw [← hAe]; exact Or.inr h
  have hS : va_S A s.heap s.heap [] := va_S.rf
  have hP : va_P (dC, dI) vwCl [(h0, .inr (12, [.ref a_te, h0_1, h0_2, h0_3, h0_4, h0_5, h0_6, h0_7, h0_8, h0_9, h0_10, h0_11, h0_12, h0_13, h0_14, h0_15, h0_16, h0_17, h0_18, h0_19, h0_20, h0_21, h0_22, h0_23, h0_24, h0_25, h0_26, .ref a_wd, .int mf, .int mfp, .int mst, .int mnx, .int mkd, .int mwh, .int mpl, h0_35, h0_36, h0_37, h0_38, h0_39, h0_40, h0_41, h0_42, h0_43, h0_44, .int mcr, h0_46, .int mkr, h0_48, h0_49, h0_50, h0_51, .ref a_kt, .ref a_lf, .ref a_rt, .ref a_am, .ref a_ah, .ref a_gb, .int mom, .ref a_w, .ref a_o, .int mws, .ref a_h, .int mhs, .ref a_cp, .int mop, .int mhc, .int mwv, .int mmn, h0_69])), (a_h, .inl (ca_h, 120, .inl fa_h))] s.heap := hP
  have w__fieldLink_RX12_323_ShellHeapModel_helds_I_ := hts (.fieldLink RX12 323 "ShellHeapModel" "helds" "I") (z_mc (z_ml z_m0))
  have hiX12 := show ∀ w ∈ u_ws RX12 TX12 70, w ∈ u_s_X12_drop from fun w h => z_mc (z_mr (z_ml h))
  have w__fieldLink_RX12_135_ShellHeapModel_held_I_ := hts (.fieldLink RX12 135 "ShellHeapModel" "held" "[I") (z_mc (z_ml z_m1))
  have hl := lv_entry ([.ref h0]) (n := 1) (Nat.le_of_ble_eq_true rfl)
  rw [lg_entry_eq]
  generalize (lg_sl ([.ref h0]) ++ List.replicate (1 - (lg_sl ([.ref h0])).length) Slot.unset).toArray = ls at hl ⊢
  have hl : lv_has ls 1 [(0, .ref h0)] := hl
  refine lv_aload_n hx hb dX12_drop_0 rfl (lv_at hl 0 rfl) ?_
  refine lv_dup hx hb dX12_drop_1 rfl ?_
  refine va_get (D := (dC, dI)) (ci := 12) (v := .int mhs) (C := RX12) (T := TX12) (N := 70) hx hb hts hiX12 hown hK hP 0 rfl rfl 63 (by decide) w__fieldLink_RX12_323_ShellHeapModel_helds_I_ (fun _ h9 => h9) rfl dX12_drop_2 ?_
  refine lv_iconst (v := 1) hx hb dX12_drop_5 (by decide) ?_
  refine lv_isub hx hb dX12_drop_6 ?_
  refine lv_topi (fun z_1 ez_1 => ?_)
  have kz_1 : (z_1).toInt = (mhs).toInt - (1 : Int) := by rw [ez_1]; exact z_sub (a := (mhs).toInt) (b := (1 : Int)) rfl rfl (z_mlo hB_mhs.1 (by decide)) (z_mhi hB_mhs.2 (by decide))
  refine va_put (D := (dC, dI)) (ci := 12) (v := .int z_1) (ty := .int) (C := RX12) (T := TX12) (N := 70) hx hb hts hiX12 tyX12 tyX12_ok nmX12 hown hK hP hD hS 0 rfl rfl 63 (by decide) w__fieldLink_RX12_323_ShellHeapModel_helds_I_ (fun _ h9 => h9) rfl (by decide +kernel) rfl rfl (Nat.le_of_ble_eq_true rfl) dX12_drop_7 (fun H_2 locs hP hD hS => ?_)
  obtain ⟨hP, hD⟩ := z_s_0_63 hP hD
  refine lv_aload_n hx hb dX12_drop_10 rfl (lv_at hl 0 rfl) ?_
  refine va_get (D := (dC, dI)) (ci := 12) (v := .ref a_h) (C := RX12) (T := TX12) (N := 70) hx hb hts hiX12 hown hK hP 0 rfl rfl 62 (by decide) w__fieldLink_RX12_135_ShellHeapModel_held_I_ (fun _ h9 => h9) rfl dX12_drop_11 ?_
  refine lv_aload_n hx hb dX12_drop_14 rfl (lv_at hl 0 rfl) ?_
  refine va_get (D := (dC, dI)) (ci := 12) (v := .int z_1) (C := RX12) (T := TX12) (N := 70) hx hb hts hiX12 hown hK hP 0 rfl rfl 63 (by decide) w__fieldLink_RX12_323_ShellHeapModel_helds_I_ (fun _ h9 => h9) rfl dX12_drop_15 ?_
  refine va_iald hx hb hK hP 1 0 rfl rfl (z_vpin (by omega) (by omega)) dX12_drop_18 ?_
  refine lv_topi (fun z_3 ez_3 => ?_)
  have hP9 := hP
  have hD9 := hD
  have hK9 := hK.sub (tys' := []) [] rfl
  refine W.widen (k := 0) (n := 0) (Nat.le_of_ble_eq_true rfl) (Nat.le_of_ble_eq_true rfl) ?_
  exact W.iret (v := z_3) hx hb hr (fun t ht hW => ⟨⟨z_3, (), rfl, (show z_3 = fa_h (mhs.toInt - 1).toNat by rw [ez_3, z_nct (i := z_1) (k := (mhs).toInt - 1) (by omega)]), ⟨z_1, (by first | omega | decide), (show z_1.toInt = mhs.toInt - 1 by omega), by rw [ht]; exact hP9, va_K.moved hW.alike hK9, hD9⟩⟩, hS.F ht⟩) hS.2.2 dX12_drop_19
def u_s_X12_waitFor : List Cond := .code yX12_waitFor cX12_waitFor 3 none :: ([.fieldLink RX12 129 "ShellHeapModel" "wait" "[I", .fieldLink RX12 326 "ShellHeapModel" "waits" "I", .fieldLink RX12 132 "ShellHeapModel" "waitOf" "[I"] ++ (wsX120 ++ []))
theorem gd_s_X12_waitFor : z_gd u_s_X12_waitFor := z_gdc (by decide +kernel) (z_gda gdX12 (z_gd0))
set_option maxHeartbeats 4000000 in
set_option maxRecDepth 100000 in
theorem s_X12_waitFor (l : Launch) (dC : Nat → ClassId) (dI : Nat → Nat → Nat) (sz : Nat) (h0 : Nat) (p1 : Int32) (p2 : Int32) (a_te : Nat) (h0_1 : Value) (h0_2 : Value) (h0_3 : Value) (h0_4 : Value) (h0_5 : Value) (h0_6 : Value) (h0_7 : Value) (h0_8 : Value) (h0_9 : Value) (h0_10 : Value) (h0_11 : Value) (h0_12 : Value) (h0_13 : Value) (h0_14 : Value) (h0_15 : Value) (h0_16 : Value) (h0_17 : Value) (h0_18 : Value) (h0_19 : Value) (h0_20 : Value) (h0_21 : Value) (h0_22 : Value) (h0_23 : Value) (h0_24 : Value) (h0_25 : Value) (h0_26 : Value) (a_wd : Nat) (mf : Int32) (mfp : Int32) (mst : Int32) (mnx : Int32) (mkd : Int32) (mwh : Int32) (mpl : Int32) (h0_35 : Value) (h0_36 : Value) (h0_37 : Value) (h0_38 : Value) (h0_39 : Value) (h0_40 : Value) (h0_41 : Value) (h0_42 : Value) (h0_43 : Value) (h0_44 : Value) (mcr : Int32) (h0_46 : Value) (mkr : Int32) (h0_48 : Value) (h0_49 : Value) (h0_50 : Value) (h0_51 : Value) (a_kt : Nat) (a_lf : Nat) (a_rt : Nat) (a_am : Nat) (a_ah : Nat) (a_gb : Nat) (mom : Int32) (a_w : Nat) (a_o : Nat) (mws : Int32) (a_h : Nat) (mhs : Int32) (a_cp : Nat) (mop : Int32) (mhc : Int32) (mwv : Int32) (mmn : Int32) (h0_69 : Value) (ca_w : ClassId) (fa_w : Nat → Int32) (ca_o : ClassId) (fa_o : Nat → Int32) (hB_mws : ((0 : Int) ≤ (mws).toInt ∧ (mws).toInt ≤ (119 : Int))) : Met l yX12_waitFor u_s_X12_waitFor ({ frames := 0, cells := 0, slots := 0, locals := 0 }) (va_Pc [.ref h0, .int p1, .int p2] (z_C (dC, dI) vwCl [(h0, .inr (12, [.ref a_te, h0_1, h0_2, h0_3, h0_4, h0_5, h0_6, h0_7, h0_8, h0_9, h0_10, h0_11, h0_12, h0_13, h0_14, h0_15, h0_16, h0_17, h0_18, h0_19, h0_20, h0_21, h0_22, h0_23, h0_24, h0_25, h0_26, .ref a_wd, .int mf, .int mfp, .int mst, .int mnx, .int mkd, .int mwh, .int mpl, h0_35, h0_36, h0_37, h0_38, h0_39, h0_40, h0_41, h0_42, h0_43, h0_44, .int mcr, h0_46, .int mkr, h0_48, h0_49, h0_50, h0_51, .ref a_kt, .ref a_lf, .ref a_rt, .ref a_am, .ref a_ah, .ref a_gb, .int mom, .ref a_w, .ref a_o, .int mws, .ref a_h, .int mhs, .ref a_cp, .int mop, .int mhc, .int mwv, .int mmn, h0_69])), (a_w, .inl (ca_w, 120, .inl fa_w)), (a_o, .inl (ca_o, 120, .inl fa_o))] [(ca_w, .int), (ca_o, .int)] sz)) (va_Qv (fun (_ : Unit) => True) (fun (_ : Unit) (t : State) => ∃ (n_h0_waits : Int32), ∃ (g_a_w : Nat → Int32), ∃ (g_a_o : Nat → Int32), ((0 : Int) ≤ (n_h0_waits).toInt ∧ (n_h0_waits).toInt ≤ (120 : Int)) ∧ (n_h0_waits.toInt = mws.toInt + 1 ∧ g_a_w = upd fa_w mws.toInt.toNat p1 ∧ g_a_o = upd fa_o mws.toInt.toNat p2) ∧ va_P (dC, dI) vwCl [(h0, .inr (12, [.ref a_te, h0_1, h0_2, h0_3, h0_4, h0_5, h0_6, h0_7, h0_8, h0_9, h0_10, h0_11, h0_12, h0_13, h0_14, h0_15, h0_16, h0_17, h0_18, h0_19, h0_20, h0_21, h0_22, h0_23, h0_24, h0_25, h0_26, .ref a_wd, .int mf, .int mfp, .int mst, .int mnx, .int mkd, .int mwh, .int mpl, h0_35, h0_36, h0_37, h0_38, h0_39, h0_40, h0_41, h0_42, h0_43, h0_44, .int mcr, h0_46, .int mkr, h0_48, h0_49, h0_50, h0_51, .ref a_kt, .ref a_lf, .ref a_rt, .ref a_am, .ref a_ah, .ref a_gb, .int mom, .ref a_w, .ref a_o, .int n_h0_waits, .ref a_h, .int mhs, .ref a_cp, .int mop, .int mhc, .int mwv, .int mmn, h0_69])), (a_w, .inl (ca_w, 120, .inl g_a_w)), (a_o, .inl (ca_o, 120, .inl g_a_o))] t.heap ∧ va_K (dC, dI) vwCl [] t ∧ va_D (va_A [(h0, .inr (12, [.ref a_te, h0_1, h0_2, h0_3, h0_4, h0_5, h0_6, h0_7, h0_8, h0_9, h0_10, h0_11, h0_12, h0_13, h0_14, h0_15, h0_16, h0_17, h0_18, h0_19, h0_20, h0_21, h0_22, h0_23, h0_24, h0_25, h0_26, .ref a_wd, .int mf, .int mfp, .int mst, .int mnx, .int mkd, .int mwh, .int mpl, h0_35, h0_36, h0_37, h0_38, h0_39, h0_40, h0_41, h0_42, h0_43, h0_44, .int mcr, h0_46, .int mkr, h0_48, h0_49, h0_50, h0_51, .ref a_kt, .ref a_lf, .ref a_rt, .ref a_am, .ref a_ah, .ref a_gb, .int mom, .ref a_w, .ref a_o, .int mws, .ref a_h, .int mhs, .ref a_cp, .int mop, .int mhc, .int mwv, .int mmn, h0_69])), (a_w, .inl (ca_w, 120, .inl fa_w)), (a_o, .inl (ca_o, 120, .inl fa_o))] sz) [(h0, .inr (12, [.ref a_te, h0_1, h0_2, h0_3, h0_4, h0_5, h0_6, h0_7, h0_8, h0_9, h0_10, h0_11, h0_12, h0_13, h0_14, h0_15, h0_16, h0_17, h0_18, h0_19, h0_20, h0_21, h0_22, h0_23, h0_24, h0_25, h0_26, .ref a_wd, .int mf, .int mfp, .int mst, .int mnx, .int mkd, .int mwh, .int mpl, h0_35, h0_36, h0_37, h0_38, h0_39, h0_40, h0_41, h0_42, h0_43, h0_44, .int mcr, h0_46, .int mkr, h0_48, h0_49, h0_50, h0_51, .ref a_kt, .ref a_lf, .ref a_rt, .ref a_am, .ref a_ah, .ref a_gb, .int mom, .ref a_w, .ref a_o, .int n_h0_waits, .ref a_h, .int mhs, .ref a_cp, .int mop, .int mhc, .int mwv, .int mmn, h0_69])), (a_w, .inl (ca_w, 120, .inl g_a_w)), (a_o, .inl (ca_o, 120, .inl g_a_o))]) (va_A [(h0, .inr (12, [.ref a_te, h0_1, h0_2, h0_3, h0_4, h0_5, h0_6, h0_7, h0_8, h0_9, h0_10, h0_11, h0_12, h0_13, h0_14, h0_15, h0_16, h0_17, h0_18, h0_19, h0_20, h0_21, h0_22, h0_23, h0_24, h0_25, h0_26, .ref a_wd, .int mf, .int mfp, .int mst, .int mnx, .int mkd, .int mwh, .int mpl, h0_35, h0_36, h0_37, h0_38, h0_39, h0_40, h0_41, h0_42, h0_43, h0_44, .int mcr, h0_46, .int mkr, h0_48, h0_49, h0_50, h0_51, .ref a_kt, .ref a_lf, .ref a_rt, .ref a_am, .ref a_ah, .ref a_gb, .int mom, .ref a_w, .ref a_o, .int mws, .ref a_h, .int mhs, .ref a_cp, .int mop, .int mhc, .int mwv, .int mmn, h0_69])), (a_w, .inl (ca_w, 120, .inl fa_w)), (a_o, .inl (ca_o, 120, .inl fa_o))] sz)) 0 0 (va_A [(h0, .inr (12, [.ref a_te, h0_1, h0_2, h0_3, h0_4, h0_5, h0_6, h0_7, h0_8, h0_9, h0_10, h0_11, h0_12, h0_13, h0_14, h0_15, h0_16, h0_17, h0_18, h0_19, h0_20, h0_21, h0_22, h0_23, h0_24, h0_25, h0_26, .ref a_wd, .int mf, .int mfp, .int mst, .int mnx, .int mkd, .int mwh, .int mpl, h0_35, h0_36, h0_37, h0_38, h0_39, h0_40, h0_41, h0_42, h0_43, h0_44, .int mcr, h0_46, .int mkr, h0_48, h0_49, h0_50, h0_51, .ref a_kt, .ref a_lf, .ref a_rt, .ref a_am, .ref a_ah, .ref a_gb, .int mom, .ref a_w, .ref a_o, .int mws, .ref a_h, .int mhs, .ref a_cp, .int mop, .int mhc, .int mwv, .int mmn, h0_69])), (a_w, .inl (ca_w, 120, .inl fa_w)), (a_o, .inl (ca_o, 120, .inl fa_o))] sz) := by
  refine Met.ofW (cc := cX12_waitFor) (maxL := 3) (ret := none) (by decide) rfl ?_
  intro p e s m args below meth c s₁ B hml hv
  obtain ⟨rfl, hsz, hP, hK, hD0⟩ := hv
  have hx := B.exec
  have hb := B.bytes
  have hr := B.returns
  have hts := atoms_spec (ws := u_s_X12_waitFor) B.pre
  have hown : s.vm.findClass RX12 = some m.cls := findClass_of_methodNamed B.named
  have hlocks := B.notSynchronized
  subst hsz
  have hD := hD0.self (sz := s.heap.size)
  generalize hAe : va_A [(h0, .inr (12, [.ref a_te, h0_1, h0_2, h0_3, h0_4, h0_5, h0_6, h0_7, h0_8, h0_9, h0_10, h0_11, h0_12, h0_13, h0_14, h0_15, h0_16, h0_17, h0_18, h0_19, h0_20, h0_21, h0_22, h0_23, h0_24, h0_25, h0_26, .ref a_wd, .int mf, .int mfp, .int mst, .int mnx, .int mkd, .int mwh, .int mpl, h0_35, h0_36, h0_37, h0_38, h0_39, h0_40, h0_41, h0_42, h0_43, h0_44, .int mcr, h0_46, .int mkr, h0_48, h0_49, h0_50, h0_51, .ref a_kt, .ref a_lf, .ref a_rt, .ref a_am, .ref a_ah, .ref a_gb, .int mom, .ref a_w, .ref a_o, .int mws, .ref a_h, .int mhs, .ref a_cp, .int mop, .int mhc, .int mwv, .int mmn, h0_69])), (a_w, .inl (ca_w, 120, .inl fa_w)), (a_o, .inl (ca_o, 120, .inl fa_o))] s.heap.size = A at hD ⊢
  have hA : ∀ q : Nat, s.heap.size ≤ q → A q := fun q h => by rw [← hAe]; exact Or.inr h
  have hS : va_S A s.heap s.heap [] := va_S.rf
  have hP : va_P (dC, dI) vwCl [(h0, .inr (12, [.ref a_te, h0_1, h0_2, h0_3, h0_4, h0_5, h0_6, h0_7, h0_8, h0_9, h0_10, h0_11, h0_12, h0_13, h0_14, h0_15, h0_16, h0_17, h0_18, h0_19, h0_20, h0_21, h0_22, h0_23, h0_24, h0_25, h0_26, .ref a_wd, .int mf, .int mfp, .int mst, .int mnx, .int mkd, .int mwh, .int mpl, h0_35, h0_36, h0_37, h0_38, h0_39, h0_40, h0_41, h0_42, h0_43, h0_44, .int mcr, h0_46, .int mkr, h0_48, h0_49, h0_50, h0_51, .ref a_kt, .ref a_lf, .ref a_rt, .ref a_am, .ref a_ah, .ref a_gb, .int mom, .ref a_w, .ref a_o, .int mws, .ref a_h, .int mhs, .ref a_cp, .int mop, .int mhc, .int mwv, .int mmn, h0_69])), (a_w, .inl (ca_w, 120, .inl fa_w)), (a_o, .inl (ca_o, 120, .inl fa_o))] s.heap := hP
  have w__fieldLink_RX12_129_ShellHeapModel_wait_I_ := hts (.fieldLink RX12 129 "ShellHeapModel" "wait" "[I") (z_mc (z_ml z_m0))
  have hiX12 := show ∀ w ∈ u_ws RX12 TX12 70, w ∈ u_s_X12_waitFor from fun w h => z_mc (z_mr (z_ml h))
  have w__fieldLink_RX12_326_ShellHeapModel_waits_I_ := hts (.fieldLink RX12 326 "ShellHeapModel" "waits" "I") (z_mc (z_ml z_m1))
  have w__fieldLink_RX12_132_ShellHeapModel_waitOf_I_ := hts (.fieldLink RX12 132 "ShellHeapModel" "waitOf" "[I") (z_mc (z_ml z_m2))
  have krr_p1 := z_rng p1
  have krr_p2 := z_rng p2
  have hl := lv_entry ([.ref h0, .int p1, .int p2]) (n := 3) (Nat.le_of_ble_eq_true rfl)
  rw [lg_entry_eq]
  generalize (lg_sl ([.ref h0, .int p1, .int p2]) ++ List.replicate (3 - (lg_sl ([.ref h0, .int p1, .int p2])).length) Slot.unset).toArray = ls at hl ⊢
  have hl : lv_has ls 3 [(0, .ref h0), (1, .int p1), (2, .int p2)] := hl
  refine lv_aload_n hx hb dX12_waitFor_0 rfl (lv_at hl 0 rfl) ?_
  refine va_get (D := (dC, dI)) (ci := 12) (v := .ref a_w) (C := RX12) (T := TX12) (N := 70) hx hb hts hiX12 hown hK hP 0 rfl rfl 59 (by decide) w__fieldLink_RX12_129_ShellHeapModel_wait_I_ (fun _ h9 => h9) rfl dX12_waitFor_1 ?_
  refine lv_aload_n hx hb dX12_waitFor_4 rfl (lv_at hl 0 rfl) ?_
  refine va_get (D := (dC, dI)) (ci := 12) (v := .int mws) (C := RX12) (T := TX12) (N := 70) hx hb hts hiX12 hown hK hP 0 rfl rfl 61 (by decide) w__fieldLink_RX12_326_ShellHeapModel_waits_I_ (fun _ h9 => h9) rfl dX12_waitFor_5 ?_
  refine lv_iload_n hx hb dX12_waitFor_8 rfl (lv_at hl 1 rfl) ?_
  refine va_iast hx hb hK hP hD hS 1 0 rfl rfl (z_vpinB hB_mws (by decide) (by decide)) dX12_waitFor_9 (fun H_1 locs hP hD hS => ?_)
  obtain ⟨hP, hD⟩ := z_s_1 hP hD
  refine lv_aload_n hx hb dX12_waitFor_10 rfl (lv_at hl 0 rfl) ?_
  refine va_get (D := (dC, dI)) (ci := 12) (v := .ref a_o) (C := RX12) (T := TX12) (N := 70) hx hb hts hiX12 hown hK hP 0 rfl rfl 60 (by decide) w__fieldLink_RX12_132_ShellHeapModel_waitOf_I_ (fun _ h9 => h9) rfl dX12_waitFor_11 ?_
  refine lv_aload_n hx hb dX12_waitFor_14 rfl (lv_at hl 0 rfl) ?_
  refine va_get (D := (dC, dI)) (ci := 12) (v := .int mws) (C := RX12) (T := TX12) (N := 70) hx hb hts hiX12 hown hK hP 0 rfl rfl 61 (by decide) w__fieldLink_RX12_326_ShellHeapModel_waits_I_ (fun _ h9 => h9) rfl dX12_waitFor_15 ?_
  refine lv_iload_n hx hb dX12_waitFor_18 rfl (lv_at hl 2 rfl) ?_
  refine va_iast hx hb hK hP hD hS 2 1 rfl rfl (z_vpinB hB_mws (by decide) (by decide)) dX12_waitFor_19 (fun H_3 locs hP hD hS => ?_)
  obtain ⟨hP, hD⟩ := z_s_2 hP hD
  refine lv_aload_n hx hb dX12_waitFor_20 rfl (lv_at hl 0 rfl) ?_
  refine lv_dup hx hb dX12_waitFor_21 rfl ?_
  refine va_get (D := (dC, dI)) (ci := 12) (v := .int mws) (C := RX12) (T := TX12) (N := 70) hx hb hts hiX12 hown hK hP 0 rfl rfl 61 (by decide) w__fieldLink_RX12_326_ShellHeapModel_waits_I_ (fun _ h9 => h9) rfl dX12_waitFor_22 ?_
  refine lv_iconst (v := 1) hx hb dX12_waitFor_25 (by decide) ?_
  refine lv_iadd hx hb dX12_waitFor_26 ?_
  refine lv_topi (fun z_5 ez_5 => ?_)
  have kz_5 : (z_5).toInt = (mws).toInt + (1 : Int) := by rw [ez_5]; exact z_add (a := (mws).toInt) (b := (1 : Int)) rfl rfl (z_al hB_mws.1 (by decide)) (z_ah hB_mws.2 (by decide))
  refine va_put (D := (dC, dI)) (ci := 12) (v := .int z_5) (ty := .int) (C := RX12) (T := TX12) (N := 70) hx hb hts hiX12 tyX12 tyX12_ok nmX12 hown hK hP hD hS 0 rfl rfl 61 (by decide) w__fieldLink_RX12_326_ShellHeapModel_waits_I_ (fun _ h9 => h9) rfl (by decide +kernel) rfl rfl (Nat.le_of_ble_eq_true rfl) dX12_waitFor_27 (fun H_6 locs hP hD hS => ?_)
  obtain ⟨hP, hD⟩ := z_s_0_61 hP hD
  have hP9 := hP
  have hD9 := hD
  have hK9 := hK.sub (tys' := []) [] rfl
  refine W.widen (k := 0) (n := 0) (Nat.le_of_ble_eq_true rfl) (Nat.le_of_ble_eq_true rfl) ?_
  exact W.vret hx hb hr (fun t ht hW => ⟨⟨(), rfl, trivial, ⟨z_5, (upd fa_w (mws : Int32).toNatClampNeg p1), (upd fa_o (mws : Int32).toNatClampNeg p2), (by first | omega | decide), (show z_5.toInt = mws.toInt + 1 ∧ (upd fa_w (mws : Int32).toNatClampNeg p1) = upd fa_w mws.toInt.toNat p1 ∧ (upd fa_o (mws : Int32).toNatClampNeg p2) = upd fa_o mws.toInt.toNat p2 from ⟨by omega, rfl, rfl⟩), by rw [ht]; exact hP9, va_K.moved hW.alike hK9, hD9⟩⟩, hS.F ht⟩) hS.2.2 dX12_waitFor_30
