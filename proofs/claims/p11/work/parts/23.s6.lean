def u_s_X12_isLayer : List Cond := .code yX12_isLayer cX12_isLayer 2 (some .boolean) :: ([.fieldLink RX12 151 "ShellHeapModel" "layers" "I"] ++ (wsX120 ++ []))
theorem gd_s_X12_isLayer : z_gd u_s_X12_isLayer := z_gdc (by decide +kernel) (z_gda gdX12 (z_gd0))
set_option maxHeartbeats 4000000 in
set_option maxRecDepth 100000 in
theorem s_X12_isLayer (l : Launch) (dC : Nat → ClassId) (dI : Nat → Nat → Nat) (sz : Nat) (h0 : Nat) (p1 : Int32) (h0_0 : Value) (h0_1 : Value) (h0_2 : Value) (ml : Int32) (h0_4 : Value) (h0_5 : Value) (h0_6 : Value) (h0_7 : Value) (h0_8 : Value) (h0_9 : Value) (h0_10 : Value) (h0_11 : Value) (h0_12 : Value) (h0_13 : Value) (h0_14 : Value) (h0_15 : Value) (h0_16 : Value) (h0_17 : Value) (h0_18 : Value) (h0_19 : Value) (h0_20 : Value) (h0_21 : Value) (h0_22 : Value) (h0_23 : Value) (h0_24 : Value) (h0_25 : Value) (h0_26 : Value) (h0_27 : Value) (h0_28 : Value) (h0_29 : Value) (h0_30 : Value) (h0_31 : Value) (h0_32 : Value) (h0_33 : Value) (h0_34 : Value) (h0_35 : Value) (h0_36 : Value) (h0_37 : Value) (h0_38 : Value) (h0_39 : Value) (h0_40 : Value) (h0_41 : Value) (h0_42 : Value) (h0_43 : Value) (h0_44 : Value) (h0_45 : Value) (h0_46 : Value) (h0_47 : Value) (h0_48 : Value) (h0_49 : Value) (h0_50 : Value) (h0_51 : Value) (h0_52 : Value) (h0_53 : Value) (h0_54 : Value) (h0_55 : Value) (h0_56 : Value) (h0_57 : Value) (h0_58 : Value) (h0_59 : Value) (h0_60 : Value) (h0_61 : Value) (h0_62 : Value) (h0_63 : Value) (h0_64 : Value) (h0_65 : Value) (h0_66 : Value) (h0_67 : Value) (h0_68 : Value) (h0_69 : Value) (hB_ml : ((0 : Int) ≤ (ml).toInt ∧ (ml).toInt ≤ (12 : Int))) : Met l yX12_isLayer u_s_X12_isLayer ({ frames := 0, cells := 0, slots := 0, locals := 0 }) (va_Pc [.ref h0, .int p1] (z_C (dC, dI) vwCl [(h0, .inr (12, [h0_0, h0_1, h0_2, .int ml, h0_4, h0_5, h0_6, h0_7, h0_8, h0_9, h0_10, h0_11, h0_12, h0_13, h0_14, h0_15, h0_16, h0_17, h0_18, h0_19, h0_20, h0_21, h0_22, h0_23, h0_24, h0_25, h0_26, h0_27, h0_28, h0_29, h0_30, h0_31, h0_32, h0_33, h0_34, h0_35, h0_36, h0_37, h0_38, h0_39, h0_40, h0_41, h0_42, h0_43, h0_44, h0_45, h0_46, h0_47, h0_48, h0_49, h0_50, h0_51, h0_52, h0_53, h0_54, h0_55, h0_56, h0_57, h0_58, h0_59, h0_60, h0_61, h0_62, h0_63, h0_64, h0_65, h0_66, h0_67, h0_68, h0_69]))] [] sz)) (va_Qi (fun (r : Int32) (_ : Unit) => (r = 1 ∧ (0 ≤ p1.toInt ∧ p1.toInt < ml.toInt)) ∨ (r = 0 ∧ True)) (fun (_ : Unit) (_ : State) => True) (va_A [] sz)) 0 0 (va_A [] sz) := by
  refine Met.ofW (cc := cX12_isLayer) (maxL := 2) (ret := (some .boolean)) (by decide) rfl ?_
  intro p e s m args below meth c s₁ B hml hv
  obtain ⟨rfl, hsz, hP, hK, hD0⟩ := hv
  have hx := B.exec
  have hb := B.bytes
  have hr := B.returns
  have hts := atoms_spec (ws := u_s_X12_isLayer) B.pre
  have hown : s.vm.findClass RX12 = some m.cls := findClass_of_methodNamed B.named
  have hlocks := B.notSynchronized
  subst hsz
  have hD := hD0
  generalize hAe : va_A [] s.heap.size = A
  have hA : ∀ q : Nat, s.heap.size ≤ q → A q := fun q h => by rw [← hAe]; exact Or.inr h
  have hS : va_S A s.heap s.heap [] := va_S.rf
  have hP : va_P (dC, dI) vwCl [(h0, .inr (12, [h0_0, h0_1, h0_2, .int ml, h0_4, h0_5, h0_6, h0_7, h0_8, h0_9, h0_10, h0_11, h0_12, h0_13, h0_14, h0_15, h0_16, h0_17, h0_18, h0_19, h0_20, h0_21, h0_22, h0_23, h0_24, h0_25, h0_26, h0_27, h0_28, h0_29, h0_30, h0_31, h0_32, h0_33, h0_34, h0_35, h0_36, h0_37, h0_38, h0_39, h0_40, h0_41, h0_42, h0_43, h0_44, h0_45, h0_46, h0_47, h0_48, h0_49, h0_50, h0_51, h0_52, h0_53, h0_54, h0_55, h0_56, h0_57, h0_58, h0_59, h0_60, h0_61, h0_62, h0_63, h0_64, h0_65, h0_66, h0_67, h0_68, h0_69]))] s.heap := hP
  have w__fieldLink_RX12_151_ShellHeapModel_layers_I_ := hts (.fieldLink RX12 151 "ShellHeapModel" "layers" "I") (z_mc (z_ml z_m0))
  have hiX12 := show ∀ w ∈ u_ws RX12 TX12 70, w ∈ u_s_X12_isLayer from fun w h => z_mc (z_mr (z_ml h))
  have krr_p1 := z_rng p1
  have hl := lv_entry ([.ref h0, .int p1]) (n := 2) (Nat.le_of_ble_eq_true rfl)
  rw [lg_entry_eq]
  generalize (lg_sl ([.ref h0, .int p1]) ++ List.replicate (2 - (lg_sl ([.ref h0, .int p1])).length) Slot.unset).toArray = ls at hl ⊢
  have hl : lv_has ls 2 [(0, .ref h0), (1, .int p1)] := hl
  refine lv_iload_n hx hb dX12_isLayer_0 rfl (lv_at hl 1 rfl) ?_
  refine lv_if_lt (tgt := 16) hx hb dX12_isLayer_1 (by decide) (fun c_1 => ?_) (fun c_1 => ?_)
  · have k_2 : (p1).toInt < (0 : Int) := z_lt c_1
    refine lv_iconst (v := 0) hx hb dX12_isLayer_16 (by decide) ?_
    refine W.widen (k := 0) (n := 0) (Nat.le_of_ble_eq_true rfl) (Nat.le_of_ble_eq_true rfl) ?_
    exact W.zret (v := 0) hx hb hr (by rfl) (fun t ht hW => ⟨⟨0, (), rfl, (Or.inr (⟨rfl, by first | omega | decide⟩)), trivial⟩, hS.F ht⟩) hS.2.2 dX12_isLayer_17
  · have k_3 : (p1).toInt ≥ (0 : Int) := z_nlt c_1
    refine lv_iload_n hx hb dX12_isLayer_4 rfl (lv_at hl 1 rfl) ?_
    refine lv_aload_n hx hb dX12_isLayer_5 rfl (lv_at hl 0 rfl) ?_
    refine va_get (D := (dC, dI)) (ci := 12) (v := .int ml) (C := RX12) (T := TX12) (N := 70) hx hb hts hiX12 hown hK hP 0 rfl rfl 3 (by decide) w__fieldLink_RX12_151_ShellHeapModel_layers_I_ (fun _ h9 => h9) rfl dX12_isLayer_6 ?_
    refine lv_icmp_ge (tgt := 16) hx hb dX12_isLayer_9 (by decide) (fun c_4 => ?_) (fun c_4 => ?_)
    · have k_5 : (ml).toInt ≤ (p1).toInt := z_le c_4
      refine lv_iconst (v := 0) hx hb dX12_isLayer_16 (by decide) ?_
      refine W.widen (k := 0) (n := 0) (Nat.le_of_ble_eq_true rfl) (Nat.le_of_ble_eq_true rfl) ?_
      exact W.zret (v := 0) hx hb hr (by rfl) (fun t ht hW => ⟨⟨0, (), rfl, (Or.inr (⟨rfl, by first | omega | decide⟩)), trivial⟩, hS.F ht⟩) hS.2.2 dX12_isLayer_17
    · have k_6 : (ml).toInt > (p1).toInt := z_nle c_4
      refine lv_iconst (v := 1) hx hb dX12_isLayer_12 (by decide) ?_
      refine lv_goto (tgt := 17) hx hb dX12_isLayer_13 (by decide) ?_
      refine W.widen (k := 0) (n := 0) (Nat.le_of_ble_eq_true rfl) (Nat.le_of_ble_eq_true rfl) ?_
      exact W.zret (v := 1) hx hb hr (by rfl) (fun t ht hW => ⟨⟨1, (), rfl, (Or.inl (⟨rfl, by first | omega | decide⟩)), trivial⟩, hS.F ht⟩) hS.2.2 dX12_isLayer_17
def u_s_X12_isKind : List Cond := .code yX12_isKind cX12_isKind 2 (some .boolean) :: ([.fieldLink RX12 192 "ShellHeapModel" "kinds" "I"] ++ (wsX120 ++ []))
theorem gd_s_X12_isKind : z_gd u_s_X12_isKind := z_gdc (by decide +kernel) (z_gda gdX12 (z_gd0))
set_option maxHeartbeats 4000000 in
set_option maxRecDepth 100000 in
theorem s_X12_isKind (l : Launch) (dC : Nat → ClassId) (dI : Nat → Nat → Nat) (sz : Nat) (h0 : Nat) (p1 : Int32) (h0_0 : Value) (h0_1 : Value) (h0_2 : Value) (h0_3 : Value) (h0_4 : Value) (h0_5 : Value) (h0_6 : Value) (h0_7 : Value) (h0_8 : Value) (h0_9 : Value) (h0_10 : Value) (h0_11 : Value) (h0_12 : Value) (h0_13 : Value) (h0_14 : Value) (h0_15 : Value) (h0_16 : Value) (h0_17 : Value) (h0_18 : Value) (h0_19 : Value) (h0_20 : Value) (h0_21 : Value) (h0_22 : Value) (mk : Int32) (h0_24 : Value) (h0_25 : Value) (h0_26 : Value) (h0_27 : Value) (h0_28 : Value) (h0_29 : Value) (h0_30 : Value) (h0_31 : Value) (h0_32 : Value) (h0_33 : Value) (h0_34 : Value) (h0_35 : Value) (h0_36 : Value) (h0_37 : Value) (h0_38 : Value) (h0_39 : Value) (h0_40 : Value) (h0_41 : Value) (h0_42 : Value) (h0_43 : Value) (h0_44 : Value) (h0_45 : Value) (h0_46 : Value) (h0_47 : Value) (h0_48 : Value) (h0_49 : Value) (h0_50 : Value) (h0_51 : Value) (h0_52 : Value) (h0_53 : Value) (h0_54 : Value) (h0_55 : Value) (h0_56 : Value) (h0_57 : Value) (h0_58 : Value) (h0_59 : Value) (h0_60 : Value) (h0_61 : Value) (h0_62 : Value) (h0_63 : Value) (h0_64 : Value) (h0_65 : Value) (h0_66 : Value) (h0_67 : Value) (h0_68 : Value) (h0_69 : Value) (hB_mk : ((0 : Int) ≤ (mk).toInt ∧ (mk).toInt ≤ (6 : Int))) : Met l yX12_isKind u_s_X12_isKind ({ frames := 0, cells := 0, slots := 0, locals := 0 }) (va_Pc [.ref h0, .int p1] (z_C (dC, dI) vwCl [(h0, .inr (12, [h0_0, h0_1, h0_2, h0_3, h0_4, h0_5, h0_6, h0_7, h0_8, h0_9, h0_10, h0_11, h0_12, h0_13, h0_14, h0_15, h0_16, h0_17, h0_18, h0_19, h0_20, h0_21, h0_22, .int mk, h0_24, h0_25, h0_26, h0_27, h0_28, h0_29, h0_30, h0_31, h0_32, h0_33, h0_34, h0_35, h0_36, h0_37, h0_38, h0_39, h0_40, h0_41, h0_42, h0_43, h0_44, h0_45, h0_46, h0_47, h0_48, h0_49, h0_50, h0_51, h0_52, h0_53, h0_54, h0_55, h0_56, h0_57, h0_58, h0_59, h0_60, h0_61, h0_62, h0_63, h0_64, h0_65, h0_66, h0_67, h0_68, h0_69]))] [] sz)) (va_Qi (fun (r : Int32) (_ : Unit) => (r = 1 ∧ (0 ≤ p1.toInt ∧ p1.toInt < mk.toInt)) ∨ (r = 0 ∧ True)) (fun (_ : Unit) (_ : State) => True) (va_A [] sz)) 0 0 (va_A [] sz) := by
  refine Met.ofW (cc := cX12_isKind) (maxL := 2) (ret := (some .boolean)) (by decide) rfl ?_
  intro p e s m args below meth c s₁ B hml hv
  obtain ⟨rfl, hsz, hP, hK, hD0⟩ := hv
  have hx := B.exec
  have hb := B.bytes
  have hr := B.returns
  have hts := atoms_spec (ws := u_s_X12_isKind) B.pre
  have hown : s.vm.findClass RX12 = some m.cls := findClass_of_methodNamed B.named
  have hlocks := B.notSynchronized
  subst hsz
  have hD := hD0
  generalize hAe : va_A [] s.heap.size = A
  have hA : ∀ q : Nat, s.heap.size ≤ q → A q := fun q h => by rw [← hAe]; exact Or.inr h
  have hS : va_S A s.heap s.heap [] := va_S.rf
  have hP : va_P (dC, dI) vwCl [(h0, .inr (12, [h0_0, h0_1, h0_2, h0_3, h0_4, h0_5, h0_6, h0_7, h0_8, h0_9, h0_10, h0_11, h0_12, h0_13, h0_14, h0_15, h0_16, h0_17, h0_18, h0_19, h0_20, h0_21, h0_22, .int mk, h0_24, h0_25, h0_26, h0_27, h0_28, h0_29, h0_30, h0_31, h0_32, h0_33, h0_34, h0_35, h0_36, h0_37, h0_38, h0_39, h0_40, h0_41, h0_42, h0_43, h0_44, h0_45, h0_46, h0_47, h0_48, h0_49, h0_50, h0_51, h0_52, h0_53, h0_54, h0_55, h0_56, h0_57, h0_58, h0_59, h0_60, h0_61, h0_62, h0_63, h0_64, h0_65, h0_66, h0_67, h0_68, h0_69]))] s.heap := hP
  have w__fieldLink_RX12_192_ShellHeapModel_kinds_I_ := hts (.fieldLink RX12 192 "ShellHeapModel" "kinds" "I") (z_mc (z_ml z_m0))
  have hiX12 := show ∀ w ∈ u_ws RX12 TX12 70, w ∈ u_s_X12_isKind from fun w h => z_mc (z_mr (z_ml h))
  have krr_p1 := z_rng p1
  have hl := lv_entry ([.ref h0, .int p1]) (n := 2) (Nat.le_of_ble_eq_true rfl)
  rw [lg_entry_eq]
  generalize (lg_sl ([.ref h0, .int p1]) ++ List.replicate (2 - (lg_sl ([.ref h0, .int p1])).length) Slot.unset).toArray = ls at hl ⊢
  have hl : lv_has ls 2 [(0, .ref h0), (1, .int p1)] := hl
  refine lv_iload_n hx hb dX12_isKind_0 rfl (lv_at hl 1 rfl) ?_
  refine lv_if_lt (tgt := 16) hx hb dX12_isKind_1 (by decide) (fun c_1 => ?_) (fun c_1 => ?_)
  · have k_2 : (p1).toInt < (0 : Int) := z_lt c_1
    refine lv_iconst (v := 0) hx hb dX12_isKind_16 (by decide) ?_
    refine W.widen (k := 0) (n := 0) (Nat.le_of_ble_eq_true rfl) (Nat.le_of_ble_eq_true rfl) ?_
    exact W.zret (v := 0) hx hb hr (by rfl) (fun t ht hW => ⟨⟨0, (), rfl, (Or.inr (⟨rfl, by first | omega | decide⟩)), trivial⟩, hS.F ht⟩) hS.2.2 dX12_isKind_17
  · have k_3 : (p1).toInt ≥ (0 : Int) := z_nlt c_1
    refine lv_iload_n hx hb dX12_isKind_4 rfl (lv_at hl 1 rfl) ?_
    refine lv_aload_n hx hb dX12_isKind_5 rfl (lv_at hl 0 rfl) ?_
    refine va_get (D := (dC, dI)) (ci := 12) (v := .int mk) (C := RX12) (T := TX12) (N := 70) hx hb hts hiX12 hown hK hP 0 rfl rfl 23 (by decide) w__fieldLink_RX12_192_ShellHeapModel_kinds_I_ (fun _ h9 => h9) rfl dX12_isKind_6 ?_
    refine lv_icmp_ge (tgt := 16) hx hb dX12_isKind_9 (by decide) (fun c_4 => ?_) (fun c_4 => ?_)
    · have k_5 : (mk).toInt ≤ (p1).toInt := z_le c_4
      refine lv_iconst (v := 0) hx hb dX12_isKind_16 (by decide) ?_
      refine W.widen (k := 0) (n := 0) (Nat.le_of_ble_eq_true rfl) (Nat.le_of_ble_eq_true rfl) ?_
      exact W.zret (v := 0) hx hb hr (by rfl) (fun t ht hW => ⟨⟨0, (), rfl, (Or.inr (⟨rfl, by first | omega | decide⟩)), trivial⟩, hS.F ht⟩) hS.2.2 dX12_isKind_17
    · have k_6 : (mk).toInt > (p1).toInt := z_nle c_4
      refine lv_iconst (v := 1) hx hb dX12_isKind_12 (by decide) ?_
      refine lv_goto (tgt := 17) hx hb dX12_isKind_13 (by decide) ?_
      refine W.widen (k := 0) (n := 0) (Nat.le_of_ble_eq_true rfl) (Nat.le_of_ble_eq_true rfl) ?_
      exact W.zret (v := 1) hx hb hr (by rfl) (fun t ht hW => ⟨⟨1, (), rfl, (Or.inl (⟨rfl, by first | omega | decide⟩)), trivial⟩, hS.F ht⟩) hS.2.2 dX12_isKind_17
def u_s_X12_isReader : List Cond := .code yX12_isReader cX12_isReader 1 (some .boolean) :: ([] ++ [])
theorem gd_s_X12_isReader : z_gd u_s_X12_isReader := z_gdc (by decide +kernel) (z_gd0)
set_option maxHeartbeats 4000000 in
set_option maxRecDepth 100000 in
theorem s_X12_isReader (l : Launch) (dC : Nat → ClassId) (dI : Nat → Nat → Nat) (sz : Nat) (p0 : Int32) : Met l yX12_isReader u_s_X12_isReader ({ frames := 0, cells := 0, slots := 0, locals := 0 }) (va_Pc [.int p0] (z_C (dC, dI) vwCl [] [] sz)) (va_Qi (fun (r : Int32) (_ : Unit) => (r = 1 ∧ (0 ≤ p0.toInt ∧ p0.toInt < 3)) ∨ (r = 0 ∧ True)) (fun (_ : Unit) (_ : State) => True) (va_A [] sz)) 0 0 (va_A [] sz) := by
  refine Met.ofW (cc := cX12_isReader) (maxL := 1) (ret := (some .boolean)) (by decide) rfl ?_
  intro p e s m args below meth c s₁ B hml hv
  obtain ⟨rfl, hsz, hP, hK, hD0⟩ := hv
  have hx := B.exec
  have hb := B.bytes
  have hr := B.returns
  have hts := atoms_spec (ws := u_s_X12_isReader) B.pre
  have hown : s.vm.findClass RX12 = some m.cls := findClass_of_methodNamed B.named
  have hlocks := B.notSynchronized
  subst hsz
  have hD := hD0
  generalize hAe : va_A [] s.heap.size = A
  have hA : ∀ q : Nat, s.heap.size ≤ q → A q := fun q h => by rw [← hAe]; exact Or.inr h
  have hS : va_S A s.heap s.heap [] := va_S.rf
  have hP : va_P (dC, dI) vwCl [] s.heap := hP
  have krr_p0 := z_rng p0
  have hl := lv_entry ([.int p0]) (n := 1) (Nat.le_of_ble_eq_true rfl)
  rw [lg_entry_eq]
  generalize (lg_sl ([.int p0]) ++ List.replicate (1 - (lg_sl ([.int p0])).length) Slot.unset).toArray = ls at hl ⊢
  have hl : lv_has ls 1 [(0, .int p0)] := hl
  refine lv_iload_n hx hb dX12_isReader_0 rfl (lv_at hl 0 rfl) ?_
  refine lv_if_lt (tgt := 13) hx hb dX12_isReader_1 (by decide) (fun c_1 => ?_) (fun c_1 => ?_)
  · have k_2 : (p0).toInt < (0 : Int) := z_lt c_1
    refine lv_iconst (v := 0) hx hb dX12_isReader_13 (by decide) ?_
    refine W.widen (k := 0) (n := 0) (Nat.le_of_ble_eq_true rfl) (Nat.le_of_ble_eq_true rfl) ?_
    exact W.zret (v := 0) hx hb hr (by rfl) (fun t ht hW => ⟨⟨0, (), rfl, (Or.inr (⟨rfl, by first | omega | decide⟩)), trivial⟩, hS.F ht⟩) hS.2.2 dX12_isReader_14
  · have k_3 : (p0).toInt ≥ (0 : Int) := z_nlt c_1
    refine lv_iload_n hx hb dX12_isReader_4 rfl (lv_at hl 0 rfl) ?_
    refine lv_iconst (v := 3) hx hb dX12_isReader_5 (by decide) ?_
    refine lv_icmp_ge (tgt := 13) hx hb dX12_isReader_6 (by decide) (fun c_4 => ?_) (fun c_4 => ?_)
    · have k_5 : (3 : Int) ≤ (p0).toInt := z_le c_4
      refine lv_iconst (v := 0) hx hb dX12_isReader_13 (by decide) ?_
      refine W.widen (k := 0) (n := 0) (Nat.le_of_ble_eq_true rfl) (Nat.le_of_ble_eq_true rfl) ?_
      exact W.zret (v := 0) hx hb hr (by rfl) (fun t ht hW => ⟨⟨0, (), rfl, (Or.inr (⟨rfl, by first | omega | decide⟩)), trivial⟩, hS.F ht⟩) hS.2.2 dX12_isReader_14
    · have k_6 : (3 : Int) > (p0).toInt := z_nle c_4
      refine lv_iconst (v := 1) hx hb dX12_isReader_9 (by decide) ?_
      refine lv_goto (tgt := 14) hx hb dX12_isReader_10 (by decide) ?_
      refine W.widen (k := 0) (n := 0) (Nat.le_of_ble_eq_true rfl) (Nat.le_of_ble_eq_true rfl) ?_
      exact W.zret (v := 1) hx hb hr (by rfl) (fun t ht hW => ⟨⟨1, (), rfl, (Or.inl (⟨rfl, by first | omega | decide⟩)), trivial⟩, hS.F ht⟩) hS.2.2 dX12_isReader_14
def u_s_X12_isFew : List Cond := .code yX12_isFew cX12_isFew 1 (some .boolean) :: ([] ++ [])
theorem gd_s_X12_isFew : z_gd u_s_X12_isFew := z_gdc (by decide +kernel) (z_gd0)
set_option maxHeartbeats 4000000 in
set_option maxRecDepth 100000 in
theorem s_X12_isFew (l : Launch) (dC : Nat → ClassId) (dI : Nat → Nat → Nat) (sz : Nat) (p0 : Int32) : Met l yX12_isFew u_s_X12_isFew ({ frames := 0, cells := 0, slots := 0, locals := 0 }) (va_Pc [.int p0] (z_C (dC, dI) vwCl [] [] sz)) (va_Qi (fun (r : Int32) (_ : Unit) => (r = 1 ∧ (0 ≤ p0.toInt ∧ p0.toInt ≤ 9)) ∨ (r = 0 ∧ True)) (fun (_ : Unit) (_ : State) => True) (va_A [] sz)) 0 0 (va_A [] sz) := by
  refine Met.ofW (cc := cX12_isFew) (maxL := 1) (ret := (some .boolean)) (by decide) rfl ?_
  intro p e s m args below meth c s₁ B hml hv
  obtain ⟨rfl, hsz, hP, hK, hD0⟩ := hv
  have hx := B.exec
  have hb := B.bytes
  have hr := B.returns
  have hts := atoms_spec (ws := u_s_X12_isFew) B.pre
  have hown : s.vm.findClass RX12 = some m.cls := findClass_of_methodNamed B.named
  have hlocks := B.notSynchronized
  subst hsz
  have hD := hD0
  generalize hAe : va_A [] s.heap.size = A
  have hA : ∀ q : Nat, s.heap.size ≤ q → A q := fun q h => by rw [← hAe]; exact Or.inr h
  have hS : va_S A s.heap s.heap [] := va_S.rf
  have hP : va_P (dC, dI) vwCl [] s.heap := hP
  have krr_p0 := z_rng p0
  have hl := lv_entry ([.int p0]) (n := 1) (Nat.le_of_ble_eq_true rfl)
  rw [lg_entry_eq]
  generalize (lg_sl ([.int p0]) ++ List.replicate (1 - (lg_sl ([.int p0])).length) Slot.unset).toArray = ls at hl ⊢
  have hl : lv_has ls 1 [(0, .int p0)] := hl
  refine lv_iload_n hx hb dX12_isFew_0 rfl (lv_at hl 0 rfl) ?_
  refine lv_if_lt (tgt := 14) hx hb dX12_isFew_1 (by decide) (fun c_1 => ?_) (fun c_1 => ?_)
  · have k_2 : (p0).toInt < (0 : Int) := z_lt c_1
    refine lv_iconst (v := 0) hx hb dX12_isFew_14 (by decide) ?_
    refine W.widen (k := 0) (n := 0) (Nat.le_of_ble_eq_true rfl) (Nat.le_of_ble_eq_true rfl) ?_
    exact W.zret (v := 0) hx hb hr (by rfl) (fun t ht hW => ⟨⟨0, (), rfl, (Or.inr (⟨rfl, by first | omega | decide⟩)), trivial⟩, hS.F ht⟩) hS.2.2 dX12_isFew_15
  · have k_3 : (p0).toInt ≥ (0 : Int) := z_nlt c_1
    refine lv_iload_n hx hb dX12_isFew_4 rfl (lv_at hl 0 rfl) ?_
    refine lv_bipush (v := 9) hx hb dX12_isFew_5 (by decide) ?_
    refine lv_icmp_gt (tgt := 14) hx hb dX12_isFew_7 (by decide) (fun c_4 => ?_) (fun c_4 => ?_)
    · have k_5 : (9 : Int) < (p0).toInt := z_lt c_4
      refine lv_iconst (v := 0) hx hb dX12_isFew_14 (by decide) ?_
      refine W.widen (k := 0) (n := 0) (Nat.le_of_ble_eq_true rfl) (Nat.le_of_ble_eq_true rfl) ?_
      exact W.zret (v := 0) hx hb hr (by rfl) (fun t ht hW => ⟨⟨0, (), rfl, (Or.inr (⟨rfl, by first | omega | decide⟩)), trivial⟩, hS.F ht⟩) hS.2.2 dX12_isFew_15
    · have k_6 : (9 : Int) ≥ (p0).toInt := z_nlt c_4
      refine lv_iconst (v := 1) hx hb dX12_isFew_10 (by decide) ?_
      refine lv_goto (tgt := 15) hx hb dX12_isFew_11 (by decide) ?_
      refine W.widen (k := 0) (n := 0) (Nat.le_of_ble_eq_true rfl) (Nat.le_of_ble_eq_true rfl) ?_
      exact W.zret (v := 1) hx hb hr (by rfl) (fun t ht hW => ⟨⟨1, (), rfl, (Or.inl (⟨rfl, by first | omega | decide⟩)), trivial⟩, hS.F ht⟩) hS.2.2 dX12_isFew_15
def u_s_X12_heap : List Cond := .code yX12_heap cX12_heap 3 (some .boolean) :: ([.fieldLink RX12 145 "ShellHeapModel" "thrown" "I", .fieldLink RX12 47 "ShellHeapModel" "wide" "I", .fieldLink RX12 51 "ShellHeapModel" "tall" "I", .fieldLink RX12 181 "ShellHeapModel" "columns" "I"] ++ (wsX120 ++ []))
set_option maxHeartbeats 4000000 in
set_option maxRecDepth 100000 in
theorem s_X12_heap (l : Launch) (dC : Nat → ClassId) (dI : Nat → Nat → Nat) (sz : Nat) (h0 : Nat) (p1 : Int32) (p2 : Int32) (h0_0 : Value) (h0_1 : Value) (mx : Int32) (h0_3 : Value) (h0_4 : Value) (h0_5 : Value) (h0_6 : Value) (h0_7 : Value) (h0_8 : Value) (h0_9 : Value) (h0_10 : Value) (h0_11 : Value) (h0_12 : Value) (h0_13 : Value) (h0_14 : Value) (h0_15 : Value) (h0_16 : Value) (mw : Int32) (mh : Int32) (mc : Int32) (h0_20 : Value) (h0_21 : Value) (h0_22 : Value) (h0_23 : Value) (h0_24 : Value) (h0_25 : Value) (h0_26 : Value) (h0_27 : Value) (h0_28 : Value) (h0_29 : Value) (h0_30 : Value) (h0_31 : Value) (h0_32 : Value) (h0_33 : Value) (h0_34 : Value) (h0_35 : Value) (h0_36 : Value) (h0_37 : Value) (h0_38 : Value) (h0_39 : Value) (h0_40 : Value) (h0_41 : Value) (h0_42 : Value) (h0_43 : Value) (h0_44 : Value) (h0_45 : Value) (h0_46 : Value) (h0_47 : Value) (h0_48 : Value) (h0_49 : Value) (h0_50 : Value) (h0_51 : Value) (h0_52 : Value) (h0_53 : Value) (h0_54 : Value) (h0_55 : Value) (h0_56 : Value) (h0_57 : Value) (h0_58 : Value) (h0_59 : Value) (h0_60 : Value) (h0_61 : Value) (h0_62 : Value) (h0_63 : Value) (h0_64 : Value) (h0_65 : Value) (h0_66 : Value) (h0_67 : Value) (h0_68 : Value) (h0_69 : Value) (hB_mw : ((2 : Int) ≤ (mw).toInt ∧ (mw).toInt ≤ (12 : Int))) (hB_mh : ((2 : Int) ≤ (mh).toInt ∧ (mh).toInt ≤ (12 : Int))) (hB_mc : ((0 : Int) ≤ (mc).toInt ∧ (mc).toInt ≤ (10 : Int))) : Met l yX12_heap u_s_X12_heap ({ frames := 0, cells := 0, slots := 0, locals := 0 }) (va_Pc [.ref h0, .int p1, .int p2] (z_C (dC, dI) vwCl [(h0, .inr (12, [h0_0, h0_1, .int mx, h0_3, h0_4, h0_5, h0_6, h0_7, h0_8, h0_9, h0_10, h0_11, h0_12, h0_13, h0_14, h0_15, h0_16, .int mw, .int mh, .int mc, h0_20, h0_21, h0_22, h0_23, h0_24, h0_25, h0_26, h0_27, h0_28, h0_29, h0_30, h0_31, h0_32, h0_33, h0_34, h0_35, h0_36, h0_37, h0_38, h0_39, h0_40, h0_41, h0_42, h0_43, h0_44, h0_45, h0_46, h0_47, h0_48, h0_49, h0_50, h0_51, h0_52, h0_53, h0_54, h0_55, h0_56, h0_57, h0_58, h0_59, h0_60, h0_61, h0_62, h0_63, h0_64, h0_65, h0_66, h0_67, h0_68, h0_69]))] [] sz)) (va_Qi (fun (r : Int32) (_ : Unit) => ((0 : Int) ≤ (r).toInt ∧ (r).toInt ≤ (1 : Int))) (fun (_ : Unit) (t : State) => ∃ (n_h0_thrown : Int32), ∃ (n_h0_wide : Int32), ∃ (n_h0_tall : Int32), ∃ (n_h0_columns : Int32), ((2 : Int) ≤ (n_h0_wide).toInt ∧ (n_h0_wide).toInt ≤ (12 : Int)) ∧ ((2 : Int) ≤ (n_h0_tall).toInt ∧ (n_h0_tall).toInt ≤ (12 : Int)) ∧ ((0 : Int) ≤ (n_h0_columns).toInt ∧ (n_h0_columns).toInt ≤ (10 : Int)) ∧ va_P (dC, dI) vwCl [(h0, .inr (12, [h0_0, h0_1, .int n_h0_thrown, h0_3, h0_4, h0_5, h0_6, h0_7, h0_8, h0_9, h0_10, h0_11, h0_12, h0_13, h0_14, h0_15, h0_16, .int n_h0_wide, .int n_h0_tall, .int n_h0_columns, h0_20, h0_21, h0_22, h0_23, h0_24, h0_25, h0_26, h0_27, h0_28, h0_29, h0_30, h0_31, h0_32, h0_33, h0_34, h0_35, h0_36, h0_37, h0_38, h0_39, h0_40, h0_41, h0_42, h0_43, h0_44, h0_45, h0_46, h0_47, h0_48, h0_49, h0_50, h0_51, h0_52, h0_53, h0_54, h0_55, h0_56, h0_57, h0_58, h0_59, h0_60, h0_61, h0_62, h0_63, h0_64, h0_65, h0_66, h0_67, h0_68, h0_69]))] t.heap ∧ va_K (dC, dI) vwCl [] t ∧ va_D (va_A [(h0, .inr (12, [h0_0, h0_1, .int mx, h0_3, h0_4, h0_5, h0_6, h0_7, h0_8, h0_9, h0_10, h0_11, h0_12, h0_13, h0_14, h0_15, h0_16, .int mw, .int mh, .int mc, h0_20, h0_21, h0_22, h0_23, h0_24, h0_25, h0_26, h0_27, h0_28, h0_29, h0_30, h0_31, h0_32, h0_33, h0_34, h0_35, h0_36, h0_37, h0_38, h0_39, h0_40, h0_41, h0_42, h0_43, h0_44, h0_45, h0_46, h0_47, h0_48, h0_49, h0_50, h0_51, h0_52, h0_53, h0_54, h0_55, h0_56, h0_57, h0_58, h0_59, h0_60, h0_61, h0_62, h0_63, h0_64, h0_65, h0_66, h0_67, h0_68, h0_69]))] sz) [(h0, .inr (12, [h0_0, h0_1, .int n_h0_thrown, h0_3, h0_4, h0_5, h0_6, h0_7, h0_8, h0_9, h0_10, h0_11, h0_12, h0_13, h0_14, h0_15, h0_16, .int n_h0_wide, .int n_h0_tall, .int n_h0_columns, h0_20, h0_21, h0_22, h0_23, h0_24, h0_25, h0_26, h0_27, h0_28, h0_29, h0_30, h0_31, h0_32, h0_33, h0_34, h0_35, h0_36, h0_37, h0_38, h0_39, h0_40, h0_41, h0_42, h0_43, h0_44, h0_45, h0_46, h0_47, h0_48, h0_49, h0_50, h0_51, h0_52, h0_53, h0_54, h0_55, h0_56, h0_57, h0_58, h0_59, h0_60, h0_61, h0_62, h0_63, h0_64, h0_65, h0_66, h0_67, h0_68, h0_69]))]) (va_A [(h0, .inr (12, [h0_0, h0_1, .int mx, h0_3, h0_4, h0_5, h0_6, h0_7, h0_8, h0_9, h0_10, h0_11, h0_12, h0_13, h0_14, h0_15, h0_16, .int mw, .int mh, .int mc, h0_20, h0_21, h0_22, h0_23, h0_24, h0_25, h0_26, h0_27, h0_28, h0_29, h0_30, h0_31, h0_32, h0_33, h0_34, h0_35, h0_36, h0_37, h0_38, h0_39, h0_40, h0_41, h0_42, h0_43, h0_44, h0_45, h0_46, h0_47, h0_48, h0_49, h0_50, h0_51, h0_52, h0_53, h0_54, h0_55, h0_56, h0_57, h0_58, h0_59, h0_60, h0_61, h0_62, h0_63, h0_64, h0_65, h0_66, h0_67, h0_68, h0_69]))] sz)) 0 0 (va_A [(h0, .inr (12, [h0_0, h0_1, .int mx, h0_3, h0_4, h0_5, h0_6, h0_7, h0_8, h0_9, h0_10, h0_11, h0_12, h0_13, h0_14, h0_15, h0_16, .int mw, .int mh, .int mc, h0_20, h0_21, h0_22, h0_23, h0_24, h0_25, h0_26, h0_27, h0_28, h0_29, h0_30, h0_31, h0_32, h0_33, h0_34, h0_35, h0_36, h0_37, h0_38, h0_39, h0_40, h0_41, h0_42, h0_43, h0_44, h0_45, h0_46, h0_47, h0_48, h0_49, h0_50, h0_51, h0_52, h0_53, h0_54, h0_55, h0_56, h0_57, h0_58, h0_59, h0_60, h0_61, h0_62, h0_63, h0_64, h0_65, h0_66, h0_67, h0_68, h0_69]))] sz) := by
  refine Met.ofW (cc := cX12_heap) (maxL := 3) (ret := (some .boolean)) (by decide) rfl ?_
  intro p e s m args below meth c s₁ B hml hv
  obtain ⟨rfl, hsz, hP, hK, hD0⟩ := hv
  have hx := B.exec
  have hb := B.bytes
  have hr := B.returns
  have hts := atoms_spec (ws := u_s_X12_heap) B.pre
  have hown : s.vm.findClass RX12 = some m.cls := findClass_of_methodNamed B.named
  have hlocks := B.notSynchronized
  subst hsz
  have hD := hD0.self (sz := s.heap.size)
  generalize hAe : va_A [(h0, .inr (12, [h0_0, h0_1, .int mx, h0_3, h0_4, h0_5, h0_6, h0_7, h0_8, h0_9, h0_10, h0_11, h0_12, h0_13, h0_14, h0_15, h0_16, .int mw, .int mh, .int mc, h0_20, h0_21, h0_22, h0_23, h0_24, h0_25, h0_26, h0_27, h0_28, h0_29, h0_30, h0_31, h0_32, h0_33, h0_34, h0_35, h0_36, h0_37, h0_38, h0_39, h0_40, h0_41, h0_42, h0_43, h0_44, h0_45, h0_46, h0_47, h0_48, h0_49, h0_50, h0_51, h0_52, h0_53, h0_54, h0_55, h0_56, h0_57, h0_58, h0_59, h0_60, h0_61, h0_62, h0_63, h0_64, h0_65, h0_66, h0_67, h0_68, h0_69]))] s.heap.size = A at hD ⊢
  have hA : ∀ q : Nat, s.heap.size ≤ q → A q := fun q h => by rw [← hAe]; exact Or.inr h
  have hS : va_S A s.heap s.heap [] := va_S.rf
  have hP : va_P (dC, dI) vwCl [(h0, .inr (12, [h0_0, h0_1, .int mx, h0_3, h0_4, h0_5, h0_6, h0_7, h0_8, h0_9, h0_10, h0_11, h0_12, h0_13, h0_14, h0_15, h0_16, .int mw, .int mh, .int mc, h0_20, h0_21, h0_22, h0_23, h0_24, h0_25, h0_26, h0_27, h0_28, h0_29, h0_30, h0_31, h0_32, h0_33, h0_34, h0_35, h0_36, h0_37, h0_38, h0_39, h0_40, h0_41, h0_42, h0_43, h0_44, h0_45, h0_46, h0_47, h0_48, h0_49, h0_50, h0_51, h0_52, h0_53, h0_54, h0_55, h0_56, h0_57, h0_58, h0_59, h0_60, h0_61, h0_62, h0_63, h0_64, h0_65, h0_66, h0_67, h0_68, h0_69]))] s.heap := hP
  have w__fieldLink_RX12_145_ShellHeapModel_thrown_I_ := hts (.fieldLink RX12 145 "ShellHeapModel" "thrown" "I") (z_mc (z_ml z_m0))
  have hiX12 := show ∀ w ∈ u_ws RX12 TX12 70, w ∈ u_s_X12_heap from fun w h => z_mc (z_mr (z_ml h))
  have w__fieldLink_RX12_47_ShellHeapModel_wide_I_ := hts (.fieldLink RX12 47 "ShellHeapModel" "wide" "I") (z_mc (z_ml z_m1))
  have w__fieldLink_RX12_51_ShellHeapModel_tall_I_ := hts (.fieldLink RX12 51 "ShellHeapModel" "tall" "I") (z_mc (z_ml z_m2))
  have w__fieldLink_RX12_181_ShellHeapModel_columns_I_ := hts (.fieldLink RX12 181 "ShellHeapModel" "columns" "I") (z_mc (z_ml z_m3))
  have krr_p1 := z_rng p1
  have krr_p2 := z_rng p2
  have hl := lv_entry ([.ref h0, .int p1, .int p2]) (n := 3) (Nat.le_of_ble_eq_true rfl)
  rw [lg_entry_eq]
  generalize (lg_sl ([.ref h0, .int p1, .int p2]) ++ List.replicate (3 - (lg_sl ([.ref h0, .int p1, .int p2])).length) Slot.unset).toArray = ls at hl ⊢
  have hl : lv_has ls 3 [(0, .ref h0), (1, .int p1), (2, .int p2)] := hl
  refine lv_aload_n hx hb dX12_heap_0 rfl (lv_at hl 0 rfl) ?_
  refine lv_iconst (v := 0) hx hb dX12_heap_1 (by decide) ?_
  refine va_put (D := (dC, dI)) (ci := 12) (v := .int 0) (ty := .int) (C := RX12) (T := TX12) (N := 70) hx hb hts hiX12 tyX12 tyX12_ok nmX12 hown hK hP hD hS 0 rfl rfl 2 (by decide) w__fieldLink_RX12_145_ShellHeapModel_thrown_I_ (fun _ h9 => h9) rfl (by decide +kernel) rfl rfl (Nat.le_of_ble_eq_true rfl) dX12_heap_2 (fun H_1 locs hP hD hS => ?_)
  obtain ⟨hP, hD⟩ := z_s_0_2 hP hD
  refine lv_iload_n hx hb dX12_heap_5 rfl (lv_at hl 1 rfl) ?_
  refine lv_iconst (v := 2) hx hb dX12_heap_6 (by decide) ?_
  refine lv_icmp_lt (tgt := 27) hx hb dX12_heap_7 (by decide) (fun c_2 => ?_) (fun c_2 => ?_)
  · have k_3 : (p1).toInt < (2 : Int) := z_lt c_2
    refine lv_iconst (v := 0) hx hb dX12_heap_27 (by decide) ?_
    have hP9 := hP
    have hD9 := hD
    have hK9 := hK.sub (tys' := []) [] rfl
    refine W.widen (k := 0) (n := 0) (Nat.le_of_ble_eq_true rfl) (Nat.le_of_ble_eq_true rfl) ?_
    exact W.zret (v := 0) hx hb hr (by rfl) (fun t ht hW => ⟨⟨0, (), rfl, (show ((0 : Int) ≤ (0 : Int) ∧ (0 : Int) ≤ (1 : Int)) by decide), ⟨0, mw, mh, mc, hB_mw, hB_mh, hB_mc, by rw [ht]; exact hP9, va_K.moved hW.alike hK9, hD9⟩⟩, hS.F ht⟩) hS.2.2 dX12_heap_28
  · have k_4 : (p1).toInt ≥ (2 : Int) := z_nlt c_2
    refine lv_iload_n hx hb dX12_heap_10 rfl (lv_at hl 1 rfl) ?_
    refine lv_bipush (v := 12) hx hb dX12_heap_11 (by decide) ?_
    refine lv_icmp_gt (tgt := 27) hx hb dX12_heap_13 (by decide) (fun c_5 => ?_) (fun c_5 => ?_)
    · have k_6 : (12 : Int) < (p1).toInt := z_lt c_5
      refine lv_iconst (v := 0) hx hb dX12_heap_27 (by decide) ?_
      have hP9 := hP
      have hD9 := hD
      have hK9 := hK.sub (tys' := []) [] rfl
      refine W.widen (k := 0) (n := 0) (Nat.le_of_ble_eq_true rfl) (Nat.le_of_ble_eq_true rfl) ?_
      exact W.zret (v := 0) hx hb hr (by rfl) (fun t ht hW => ⟨⟨0, (), rfl, (show ((0 : Int) ≤ (0 : Int) ∧ (0 : Int) ≤ (1 : Int)) by decide), ⟨0, mw, mh, mc, hB_mw, hB_mh, hB_mc, by rw [ht]; exact hP9, va_K.moved hW.alike hK9, hD9⟩⟩, hS.F ht⟩) hS.2.2 dX12_heap_28
    · have k_7 : (12 : Int) ≥ (p1).toInt := z_nlt c_5
      refine lv_iload_n hx hb dX12_heap_16 rfl (lv_at hl 2 rfl) ?_
      refine lv_iconst (v := 2) hx hb dX12_heap_17 (by decide) ?_
      refine lv_icmp_lt (tgt := 27) hx hb dX12_heap_18 (by decide) (fun c_8 => ?_) (fun c_8 => ?_)
      · have k_9 : (p2).toInt < (2 : Int) := z_lt c_8
        refine lv_iconst (v := 0) hx hb dX12_heap_27 (by decide) ?_
        have hP9 := hP
        have hD9 := hD
        have hK9 := hK.sub (tys' := []) [] rfl
        refine W.widen (k := 0) (n := 0) (Nat.le_of_ble_eq_true rfl) (Nat.le_of_ble_eq_true rfl) ?_
        exact W.zret (v := 0) hx hb hr (by rfl) (fun t ht hW => ⟨⟨0, (), rfl, (show ((0 : Int) ≤ (0 : Int) ∧ (0 : Int) ≤ (1 : Int)) by decide), ⟨0, mw, mh, mc, hB_mw, hB_mh, hB_mc, by rw [ht]; exact hP9, va_K.moved hW.alike hK9, hD9⟩⟩, hS.F ht⟩) hS.2.2 dX12_heap_28
      · have k_10 : (p2).toInt ≥ (2 : Int) := z_nlt c_8
        refine lv_iload_n hx hb dX12_heap_21 rfl (lv_at hl 2 rfl) ?_
        refine lv_bipush (v := 12) hx hb dX12_heap_22 (by decide) ?_
        refine lv_icmp_le (tgt := 29) hx hb dX12_heap_24 (by decide) (fun c_11 => ?_) (fun c_11 => ?_)
        · have k_12 : (p2).toInt ≤ (12 : Int) := z_le c_11
          refine lv_aload_n hx hb dX12_heap_29 rfl (lv_at hl 0 rfl) ?_
          refine lv_iload_n hx hb dX12_heap_30 rfl (lv_at hl 1 rfl) ?_
          refine va_put (D := (dC, dI)) (ci := 12) (v := .int p1) (ty := .int) (C := RX12) (T := TX12) (N := 70) hx hb hts hiX12 tyX12 tyX12_ok nmX12 hown hK hP hD hS 0 rfl rfl 17 (by decide) w__fieldLink_RX12_47_ShellHeapModel_wide_I_ (fun _ h9 => h9) rfl (by decide +kernel) rfl rfl (Nat.le_of_ble_eq_true rfl) dX12_heap_31 (fun H_13 locs hP hD hS => ?_)
          obtain ⟨hP, hD⟩ := z_s_0_17 hP hD
          refine lv_aload_n hx hb dX12_heap_34 rfl (lv_at hl 0 rfl) ?_
          refine lv_iload_n hx hb dX12_heap_35 rfl (lv_at hl 2 rfl) ?_
          refine va_put (D := (dC, dI)) (ci := 12) (v := .int p2) (ty := .int) (C := RX12) (T := TX12) (N := 70) hx hb hts hiX12 tyX12 tyX12_ok nmX12 hown hK hP hD hS 0 rfl rfl 18 (by decide) w__fieldLink_RX12_51_ShellHeapModel_tall_I_ (fun _ h9 => h9) rfl (by decide +kernel) rfl rfl (Nat.le_of_ble_eq_true rfl) dX12_heap_36 (fun H_14 locs hP hD hS => ?_)
          obtain ⟨hP, hD⟩ := z_s_0_18 hP hD
          refine lv_aload_n hx hb dX12_heap_39 rfl (lv_at hl 0 rfl) ?_
          refine lv_iconst (v := 0) hx hb dX12_heap_40 (by decide) ?_
          refine va_put (D := (dC, dI)) (ci := 12) (v := .int 0) (ty := .int) (C := RX12) (T := TX12) (N := 70) hx hb hts hiX12 tyX12 tyX12_ok nmX12 hown hK hP hD hS 0 rfl rfl 19 (by decide) w__fieldLink_RX12_181_ShellHeapModel_columns_I_ (fun _ h9 => h9) rfl (by decide +kernel) rfl rfl (Nat.le_of_ble_eq_true rfl) dX12_heap_41 (fun H_15 locs hP hD hS => ?_)
          obtain ⟨hP, hD⟩ := z_s_0_19 hP hD
          refine lv_iconst (v := 1) hx hb dX12_heap_44 (by decide) ?_
          have hP9 := hP
          have hD9 := hD
          have hK9 := hK.sub (tys' := []) [] rfl
          refine W.widen (k := 0) (n := 0) (Nat.le_of_ble_eq_true rfl) (Nat.le_of_ble_eq_true rfl) ?_
          exact W.zret (v := 1) hx hb hr (by rfl) (fun t ht hW => ⟨⟨1, (), rfl, (show ((0 : Int) ≤ (1 : Int) ∧ (1 : Int) ≤ (1 : Int)) by decide), ⟨0, p1, p2, 0, (by first | omega | decide), (by first | omega | decide), (by decide), by rw [ht]; exact hP9, va_K.moved hW.alike hK9, hD9⟩⟩, hS.F ht⟩) hS.2.2 dX12_heap_45
        · have k_16 : (p2).toInt > (12 : Int) := z_nle c_11
          refine lv_iconst (v := 0) hx hb dX12_heap_27 (by decide) ?_
          have hP9 := hP
          have hD9 := hD
          have hK9 := hK.sub (tys' := []) [] rfl
          refine W.widen (k := 0) (n := 0) (Nat.le_of_ble_eq_true rfl) (Nat.le_of_ble_eq_true rfl) ?_
          exact W.zret (v := 0) hx hb hr (by rfl) (fun t ht hW => ⟨⟨0, (), rfl, (show ((0 : Int) ≤ (0 : Int) ∧ (0 : Int) ≤ (1 : Int)) by decide), ⟨0, mw, mh, mc, hB_mw, hB_mh, hB_mc, by rw [ht]; exact hP9, va_K.moved hW.alike hK9, hD9⟩⟩, hS.F ht⟩) hS.2.2 dX12_heap_28
def u_s_X12_fault : List Cond := .code yX12_fault cX12_fault 2 (some .int) :: ([.fieldLink RX12 145 "ShellHeapModel" "thrown" "I", .fieldLink RX12 75 "ShellHeapModel" "faultPlace" "I", .fieldLink RX12 198 "ShellHeapModel" "fault" "I"] ++ (wsX120 ++ []))
set_option maxHeartbeats 4000000 in
set_option maxRecDepth 100000 in
theorem s_X12_fault (l : Launch) (dC : Nat → ClassId) (dI : Nat → Nat → Nat) (sz : Nat) (h0 : Nat) (p1 : Int32) (h0_0 : Value) (h0_1 : Value) (mx : Int32) (h0_3 : Value) (h0_4 : Value) (h0_5 : Value) (h0_6 : Value) (h0_7 : Value) (h0_8 : Value) (h0_9 : Value) (h0_10 : Value) (h0_11 : Value) (h0_12 : Value) (h0_13 : Value) (h0_14 : Value) (h0_15 : Value) (h0_16 : Value) (h0_17 : Value) (h0_18 : Value) (h0_19 : Value) (h0_20 : Value) (h0_21 : Value) (h0_22 : Value) (h0_23 : Value) (h0_24 : Value) (h0_25 : Value) (h0_26 : Value) (h0_27 : Value) (mf : Int32) (mp : Int32) (h0_30 : Value) (h0_31 : Value) (h0_32 : Value) (h0_33 : Value) (h0_34 : Value) (h0_35 : Value) (h0_36 : Value) (h0_37 : Value) (h0_38 : Value) (h0_39 : Value) (h0_40 : Value) (h0_41 : Value) (h0_42 : Value) (h0_43 : Value) (h0_44 : Value) (h0_45 : Value) (h0_46 : Value) (h0_47 : Value) (h0_48 : Value) (h0_49 : Value) (h0_50 : Value) (h0_51 : Value) (h0_52 : Value) (h0_53 : Value) (h0_54 : Value) (h0_55 : Value) (h0_56 : Value) (h0_57 : Value) (h0_58 : Value) (h0_59 : Value) (h0_60 : Value) (h0_61 : Value) (h0_62 : Value) (h0_63 : Value) (h0_64 : Value) (h0_65 : Value) (h0_66 : Value) (h0_67 : Value) (h0_68 : Value) (h0_69 : Value) : Met l yX12_fault u_s_X12_fault ({ frames := 0, cells := 0, slots := 0, locals := 0 }) (va_Pc [.ref h0, .int p1] (z_C (dC, dI) vwCl [(h0, .inr (12, [h0_0, h0_1, .int mx, h0_3, h0_4, h0_5, h0_6, h0_7, h0_8, h0_9, h0_10, h0_11, h0_12, h0_13, h0_14, h0_15, h0_16, h0_17, h0_18, h0_19, h0_20, h0_21, h0_22, h0_23, h0_24, h0_25, h0_26, h0_27, .int mf, .int mp, h0_30, h0_31, h0_32, h0_33, h0_34, h0_35, h0_36, h0_37, h0_38, h0_39, h0_40, h0_41, h0_42, h0_43, h0_44, h0_45, h0_46, h0_47, h0_48, h0_49, h0_50, h0_51, h0_52, h0_53, h0_54, h0_55, h0_56, h0_57, h0_58, h0_59, h0_60, h0_61, h0_62, h0_63, h0_64, h0_65, h0_66, h0_67, h0_68, h0_69]))] [] sz)) (va_Qi (fun (r : Int32) (_ : Unit) => True) (fun (_ : Unit) (t : State) => ∃ (n_h0_thrown : Int32), va_P (dC, dI) vwCl [(h0, .inr (12, [h0_0, h0_1, .int n_h0_thrown, h0_3, h0_4, h0_5, h0_6, h0_7, h0_8, h0_9, h0_10, h0_11, h0_12, h0_13, h0_14, h0_15, h0_16, h0_17, h0_18, h0_19, h0_20, h0_21, h0_22, h0_23, h0_24, h0_25, h0_26, h0_27, .int mf, .int mp, h0_30, h0_31, h0_32, h0_33, h0_34, h0_35, h0_36, h0_37, h0_38, h0_39, h0_40, h0_41, h0_42, h0_43, h0_44, h0_45, h0_46, h0_47, h0_48, h0_49, h0_50, h0_51, h0_52, h0_53, h0_54, h0_55, h0_56, h0_57, h0_58, h0_59, h0_60, h0_61, h0_62, h0_63, h0_64, h0_65, h0_66, h0_67, h0_68, h0_69]))] t.heap ∧ va_K (dC, dI) vwCl [] t ∧ va_D (va_A [(h0, .inr (12, [h0_0, h0_1, .int mx, h0_3, h0_4, h0_5, h0_6, h0_7, h0_8, h0_9, h0_10, h0_11, h0_12, h0_13, h0_14, h0_15, h0_16, h0_17, h0_18, h0_19, h0_20, h0_21, h0_22, h0_23, h0_24, h0_25, h0_26, h0_27, .int mf, .int mp, h0_30, h0_31, h0_32, h0_33, h0_34, h0_35, h0_36, h0_37, h0_38, h0_39, h0_40, h0_41, h0_42, h0_43, h0_44, h0_45, h0_46, h0_47, h0_48, h0_49, h0_50, h0_51, h0_52, h0_53, h0_54, h0_55, h0_56, h0_57, h0_58, h0_59, h0_60, h0_61, h0_62, h0_63, h0_64, h0_65, h0_66, h0_67, h0_68, h0_69]))] sz) [(h0, .inr (12, [h0_0, h0_1, .int n_h0_thrown, h0_3, h0_4, h0_5, h0_6, h0_7, h0_8, h0_9, h0_10, h0_11, h0_12, h0_13, h0_14, h0_15, h0_16, h0_17, h0_18, h0_19, h0_20, h0_21, h0_22, h0_23, h0_24, h0_25, h0_26, h0_27, .int mf, .int mp, h0_30, h0_31, h0_32, h0_33, h0_34, h0_35, h0_36, h0_37, h0_38, h0_39, h0_40, h0_41, h0_42, h0_43, h0_44, h0_45, h0_46, h0_47, h0_48, h0_49, h0_50, h0_51, h0_52, h0_53, h0_54, h0_55, h0_56, h0_57, h0_58, h0_59, h0_60, h0_61, h0_62, h0_63, h0_64, h0_65, h0_66, h0_67, h0_68, h0_69]))]) (va_A [(h0, .inr (12, [h0_0, h0_1, .int mx, h0_3, h0_4, h0_5, h0_6, h0_7, h0_8, h0_9, h0_10, h0_11, h0_12, h0_13, h0_14, h0_15, h0_16, h0_17, h0_18, h0_19, h0_20, h0_21, h0_22, h0_23, h0_24, h0_25, h0_26, h0_27, .int mf, .int mp, h0_30, h0_31, h0_32, h0_33, h0_34, h0_35, h0_36, h0_37, h0_38, h0_39, h0_40, h0_41, h0_42, h0_43, h0_44, h0_45, h0_46, h0_47, h0_48, h0_49, h0_50, h0_51, h0_52, h0_53, h0_54, h0_55, h0_56, h0_57, h0_58, h0_59, h0_60, h0_61, h0_62, h0_63, h0_64, h0_65, h0_66, h0_67, h0_68, h0_69]))] sz)) 0 0 (va_A [(h0, .inr (12, [h0_0, h0_1, .int mx, h0_3, h0_4, h0_5, h0_6, h0_7, h0_8, h0_9, h0_10, h0_11, h0_12, h0_13, h0_14, h0_15, h0_16, h0_17, h0_18, h0_19, h0_20, h0_21, h0_22, h0_23, h0_24, h0_25, h0_26, h0_27, .int mf, .int mp, h0_30, h0_31, h0_32, h0_33, h0_34, h0_35, h0_36, h0_37, h0_38, h0_39, h0_40, h0_41, h0_42, h0_43, h0_44, h0_45, h0_46, h0_47, h0_48, h0_49, h0_50, h0_51, h0_52, h0_53, h0_54, h0_55, h0_56, h0_57, h0_58, h0_59, h0_60, h0_61, h0_62, h0_63, h0_64, h0_65, h0_66, h0_67, h0_68, h0_69]))] sz) := by
  refine Met.ofW (cc := cX12_fault) (maxL := 2) (ret := (some .int)) (by decide) rfl ?_
  intro p e s m args below meth c s₁ B hml hv
  obtain ⟨rfl, hsz, hP, hK, hD0⟩ := hv
  have hx := B.exec
  have hb := B.bytes
  have hr := B.returns
  have hts := atoms_spec (ws := u_s_X12_fault) B.pre
  have hown : s.vm.findClass RX12 = some m.cls := findClass_of_methodNamed B.named
  have hlocks := B.notSynchronized
  subst hsz
  have hD := hD0.self (sz := s.heap.size)
  generalize hAe : va_A [(h0, .inr (12, [h0_0, h0_1, .int mx, h0_3, h0_4, h0_5, h0_6, h0_7, h0_8, h0_9, h0_10, h0_11, h0_12, h0_13, h0_14, h0_15, h0_16, h0_17, h0_18, h0_19, h0_20, h0_21, h0_22, h0_23, h0_24, h0_25, h0_26, h0_27, .int mf, .int mp, h0_30, h0_31, h0_32, h0_33, h0_34, h0_35, h0_36, h0_37, h0_38, h0_39, h0_40, h0_41, h0_42, h0_43, h0_44, h0_45, h0_46, h0_47, h0_48, h0_49, h0_50, h0_51, h0_52, h0_53, h0_54, h0_55, h0_56, h0_57, h0_58, h0_59, h0_60, h0_61, h0_62, h0_63, h0_64, h0_65, h0_66, h0_67, h0_68, h0_69]))] s.heap.size = A at hD ⊢
  have hA : ∀ q : Nat, s.heap.size ≤ q → A q := fun q h => by rw [← hAe]; exact Or.inr h
  have hS : va_S A s.heap s.heap [] := va_S.rf
  have hP : va_P (dC, dI) vwCl [(h0, .inr (12, [h0_0, h0_1, .int mx, h0_3, h0_4, h0_5, h0_6, h0_7, h0_8, h0_9, h0_10, h0_11, h0_12, h0_13, h0_14, h0_15, h0_16, h0_17, h0_18, h0_19, h0_20, h0_21, h0_22, h0_23, h0_24, h0_25, h0_26, h0_27, .int mf, .int mp, h0_30, h0_31, h0_32, h0_33, h0_34, h0_35, h0_36, h0_37, h0_38, h0_39, h0_40, h0_41, h0_42, h0_43, h0_44, h0_45, h0_46, h0_47, h0_48, h0_49, h0_50, h0_51, h0_52, h0_53, h0_54, h0_55, h0_56, h0_57, h0_58, h0_59, h0_60, h0_61, h0_62, h0_63, h0_64, h0_65, h0_66, h0_67, h0_68, h0_69]))] s.heap := hP
  have w__fieldLink_RX12_145_ShellHeapModel_thrown_I_ := hts (.fieldLink RX12 145 "ShellHeapModel" "thrown" "I") (z_mc (z_ml z_m0))
  have hiX12 := show ∀ w ∈ u_ws RX12 TX12 70, w ∈ u_s_X12_fault from fun w h => z_mc (z_mr (z_ml h))
  have w__fieldLink_RX12_75_ShellHeapModel_faultPlace_I_ := hts (.fieldLink RX12 75 "ShellHeapModel" "faultPlace" "I") (z_mc (z_ml z_m1))
  have w__fieldLink_RX12_198_ShellHeapModel_fault_I_ := hts (.fieldLink RX12 198 "ShellHeapModel" "fault" "I") (z_mc (z_ml z_m2))
  have krr_p1 := z_rng p1
  have hl := lv_entry ([.ref h0, .int p1]) (n := 2) (Nat.le_of_ble_eq_true rfl)
  rw [lg_entry_eq]
  generalize (lg_sl ([.ref h0, .int p1]) ++ List.replicate (2 - (lg_sl ([.ref h0, .int p1])).length) Slot.unset).toArray = ls at hl ⊢
  have hl : lv_has ls 2 [(0, .ref h0), (1, .int p1)] := hl
  refine lv_aload_n hx hb dX12_fault_0 rfl (lv_at hl 0 rfl) ?_
  refine lv_iconst (v := 0) hx hb dX12_fault_1 (by decide) ?_
  refine va_put (D := (dC, dI)) (ci := 12) (v := .int 0) (ty := .int) (C := RX12) (T := TX12) (N := 70) hx hb hts hiX12 tyX12 tyX12_ok nmX12 hown hK hP hD hS 0 rfl rfl 2 (by decide) w__fieldLink_RX12_145_ShellHeapModel_thrown_I_ (fun _ h9 => h9) rfl (by decide +kernel) rfl rfl (Nat.le_of_ble_eq_true rfl) dX12_fault_2 (fun H_1 locs hP hD hS => ?_)
  obtain ⟨hP, hD⟩ := z_s_0_2 hP hD
  refine lv_iload_n hx hb dX12_fault_5 rfl (lv_at hl 1 rfl) ?_
  refine lv_if_ne (tgt := 16) hx hb dX12_fault_6 (by decide) (fun c_2 => ?_) (fun c_2 => ?_)
  · have k_3 : (p1).toInt ≠ (0 : Int) := z_ne c_2
    refine lv_iload_n hx hb dX12_fault_16 rfl (lv_at hl 1 rfl) ?_
    refine lv_iconst (v := 1) hx hb dX12_fault_17 (by decide) ?_
    refine lv_icmp_ne (tgt := 28) hx hb dX12_fault_18 (by decide) (fun c_4 => ?_) (fun c_4 => ?_)
    · have k_5 : (p1).toInt ≠ (1 : Int) := z_ne c_4
      refine lv_iconst (v := (-1)) hx hb dX12_fault_28 (by decide) ?_
      have hP9 := hP
      have hD9 := hD
      have hK9 := hK.sub (tys' := []) [] rfl
      refine W.widen (k := 0) (n := 0) (Nat.le_of_ble_eq_true rfl) (Nat.le_of_ble_eq_true rfl) ?_
      exact W.iret (v := (-1)) hx hb hr (fun t ht hW => ⟨⟨(-1), (), rfl, trivial, ⟨0, by rw [ht]; exact hP9, va_K.moved hW.alike hK9, hD9⟩⟩, hS.F ht⟩) hS.2.2 dX12_fault_29
    · have k_6 : (p1).toInt = (1 : Int) := z_eq c_4
      obtain rfl : p1 = 1 := z_eq' (show (p1).toInt = (1 : Int) by omega)
      refine lv_aload_n hx hb dX12_fault_21 rfl (lv_at hl 0 rfl) ?_
      refine va_get (D := (dC, dI)) (ci := 12) (v := .int mp) (C := RX12) (T := TX12) (N := 70) hx hb hts hiX12 hown hK hP 0 rfl rfl 29 (by decide) w__fieldLink_RX12_75_ShellHeapModel_faultPlace_I_ (fun _ h9 => h9) rfl dX12_fault_22 ?_
      refine lv_goto (tgt := 29) hx hb dX12_fault_25 (by decide) ?_
      have hP9 := hP
      have hD9 := hD
      have hK9 := hK.sub (tys' := []) [] rfl
      refine W.widen (k := 0) (n := 0) (Nat.le_of_ble_eq_true rfl) (Nat.le_of_ble_eq_true rfl) ?_
      exact W.iret (v := mp) hx hb hr (fun t ht hW => ⟨⟨mp, (), rfl, trivial, ⟨0, by rw [ht]; exact hP9, va_K.moved hW.alike hK9, hD9⟩⟩, hS.F ht⟩) hS.2.2 dX12_fault_29
  · have k_8 : (p1).toInt = (0 : Int) := z_eq c_2
    obtain rfl : p1 = 0 := z_eq' (show (p1).toInt = (0 : Int) by omega)
    refine lv_aload_n hx hb dX12_fault_9 rfl (lv_at hl 0 rfl) ?_
    refine va_get (D := (dC, dI)) (ci := 12) (v := .int mf) (C := RX12) (T := TX12) (N := 70) hx hb hts hiX12 hown hK hP 0 rfl rfl 28 (by decide) w__fieldLink_RX12_198_ShellHeapModel_fault_I_ (fun _ h9 => h9) rfl dX12_fault_10 ?_
    refine lv_goto (tgt := 29) hx hb dX12_fault_13 (by decide) ?_
    have hP9 := hP
    have hD9 := hD
    have hK9 := hK.sub (tys' := []) [] rfl
    refine W.widen (k := 0) (n := 0) (Nat.le_of_ble_eq_true rfl) (Nat.le_of_ble_eq_true rfl) ?_
    exact W.iret (v := mf) hx hb hr (fun t ht hW => ⟨⟨mf, (), rfl, trivial, ⟨0, by rw [ht]; exact hP9, va_K.moved hW.alike hK9, hD9⟩⟩, hS.F ht⟩) hS.2.2 dX12_fault_29
def u_s_X12_column : List Cond := .code yX12_column cX12_column 4 (some .int) :: ([.fieldLink RX12 145 "ShellHeapModel" "thrown" "I", .fieldLink RX12 181 "ShellHeapModel" "columns" "I", .fieldLink RX12 47 "ShellHeapModel" "wide" "I", .fieldLink RX12 51 "ShellHeapModel" "tall" "I", .fieldLink RX12 54 "ShellHeapModel" "columnX" "[I", .fieldLink RX12 57 "ShellHeapModel" "columnY" "[I", .fieldLink RX12 60 "ShellHeapModel" "thickOf" "[I"] ++ (wsX120 ++ []))
set_option maxHeartbeats 4000000 in
set_option maxRecDepth 100000 in
theorem s_X12_column (l : Launch) (dC : Nat → ClassId) (dI : Nat → Nat → Nat) (sz : Nat) (h0 : Nat) (p1 : Int32) (p2 : Int32) (h0_0 : Value) (h0_1 : Value) (mx : Int32) (h0_3 : Value) (h0_4 : Value) (h0_5 : Value) (h0_6 : Value) (h0_7 : Value) (h0_8 : Value) (h0_9 : Value) (h0_10 : Value) (h0_11 : Value) (h0_12 : Value) (h0_13 : Value) (h0_14 : Value) (h0_15 : Value) (h0_16 : Value) (mw : Int32) (mh : Int32) (mc : Int32) (h1 : Nat) (h2 : Nat) (h3 : Nat) (h0_23 : Value) (h0_24 : Value) (h0_25 : Value) (h0_26 : Value) (h0_27 : Value) (h0_28 : Value) (h0_29 : Value) (h0_30 : Value) (h0_31 : Value) (h0_32 : Value) (h0_33 : Value) (h0_34 : Value) (h0_35 : Value) (h0_36 : Value) (h0_37 : Value) (h0_38 : Value) (h0_39 : Value) (h0_40 : Value) (h0_41 : Value) (h0_42 : Value) (h0_43 : Value) (h0_44 : Value) (h0_45 : Value) (h0_46 : Value) (h0_47 : Value) (h0_48 : Value) (h0_49 : Value) (h0_50 : Value) (h0_51 : Value) (h0_52 : Value) (h0_53 : Value) (h0_54 : Value) (h0_55 : Value) (h0_56 : Value) (h0_57 : Value) (h0_58 : Value) (h0_59 : Value) (h0_60 : Value) (h0_61 : Value) (h0_62 : Value) (h0_63 : Value) (h0_64 : Value) (h0_65 : Value) (h0_66 : Value) (h0_67 : Value) (h0_68 : Value) (h0_69 : Value) (ch1 : ClassId) (fh1 : Nat → Int32) (ch2 : ClassId) (fh2 : Nat → Int32) (ch3 : ClassId) (fh3 : Nat → Int32) (hB_mw : ((2 : Int) ≤ (mw).toInt ∧ (mw).toInt ≤ (12 : Int))) (hB_mh : ((2 : Int) ≤ (mh).toInt ∧ (mh).toInt ≤ (12 : Int))) (hB_mc : ((0 : Int) ≤ (mc).toInt ∧ (mc).toInt ≤ (10 : Int))) : Met l yX12_column u_s_X12_column ({ frames := 0, cells := 0, slots := 0, locals := 0 }) (va_Pc [.ref h0, .int p1, .int p2] (z_C (dC, dI) vwCl [(h0, .inr (12, [h0_0, h0_1, .int mx, h0_3, h0_4, h0_5, h0_6, h0_7, h0_8, h0_9, h0_10, h0_11, h0_12, h0_13, h0_14, h0_15, h0_16, .int mw, .int mh, .int mc, .ref h1, .ref h2, .ref h3, h0_23, h0_24, h0_25, h0_26, h0_27, h0_28, h0_29, h0_30, h0_31, h0_32, h0_33, h0_34, h0_35, h0_36, h0_37, h0_38, h0_39, h0_40, h0_41, h0_42, h0_43, h0_44, h0_45, h0_46, h0_47, h0_48, h0_49, h0_50, h0_51, h0_52, h0_53, h0_54, h0_55, h0_56, h0_57, h0_58, h0_59, h0_60, h0_61, h0_62, h0_63, h0_64, h0_65, h0_66, h0_67, h0_68, h0_69])), (h1, .inl (ch1, 10, .inl fh1)), (h2, .inl (ch2, 10, .inl fh2)), (h3, .inl (ch3, 120, .inl fh3))] [(ch1, .int), (ch2, .int), (ch3, .int)] sz)) (va_Qi (fun (r : Int32) (_ : Unit) => True) (fun (_ : Unit) (t : State) => ∃ (n_h0_thrown : Int32), ∃ (n_h0_columns : Int32), ∃ (g_h1 : Nat → Int32), ∃ (g_h2 : Nat → Int32), ∃ (g_h3 : Nat → Int32), ((0 : Int) ≤ (n_h0_columns).toInt ∧ (n_h0_columns).toInt ≤ (10 : Int)) ∧ va_P (dC, dI) vwCl [(h0, .inr (12, [h0_0, h0_1, .int n_h0_thrown, h0_3, h0_4, h0_5, h0_6, h0_7, h0_8, h0_9, h0_10, h0_11, h0_12, h0_13, h0_14, h0_15, h0_16, .int mw, .int mh, .int n_h0_columns, .ref h1, .ref h2, .ref h3, h0_23, h0_24, h0_25, h0_26, h0_27, h0_28, h0_29, h0_30, h0_31, h0_32, h0_33, h0_34, h0_35, h0_36, h0_37, h0_38, h0_39, h0_40, h0_41, h0_42, h0_43, h0_44, h0_45, h0_46, h0_47, h0_48, h0_49, h0_50, h0_51, h0_52, h0_53, h0_54, h0_55, h0_56, h0_57, h0_58, h0_59, h0_60, h0_61, h0_62, h0_63, h0_64, h0_65, h0_66, h0_67, h0_68, h0_69])), (h1, .inl (ch1, 10, .inl g_h1)), (h2, .inl (ch2, 10, .inl g_h2)), (h3, .inl (ch3, 120, .inl g_h3))] t.heap ∧ va_K (dC, dI) vwCl [] t ∧ va_D (va_A [(h0, .inr (12, [h0_0, h0_1, .int mx, h0_3, h0_4, h0_5, h0_6, h0_7, h0_8, h0_9, h0_10, h0_11, h0_12, h0_13, h0_14, h0_15, h0_16, .int mw, .int mh, .int mc, .ref h1, .ref h2, .ref h3, h0_23, h0_24, h0_25, h0_26, h0_27, h0_28, h0_29, h0_30, h0_31, h0_32, h0_33, h0_34, h0_35, h0_36, h0_37, h0_38, h0_39, h0_40, h0_41, h0_42, h0_43, h0_44, h0_45, h0_46, h0_47, h0_48, h0_49, h0_50, h0_51, h0_52, h0_53, h0_54, h0_55, h0_56, h0_57, h0_58, h0_59, h0_60, h0_61, h0_62, h0_63, h0_64, h0_65, h0_66, h0_67, h0_68, h0_69])), (h1, .inl (ch1, 10, .inl fh1)), (h2, .inl (ch2, 10, .inl fh2)), (h3, .inl (ch3, 120, .inl fh3))] sz) [(h0, .inr (12, [h0_0, h0_1, .int n_h0_thrown, h0_3, h0_4, h0_5, h0_6, h0_7, h0_8, h0_9, h0_10, h0_11, h0_12, h0_13, h0_14, h0_15, h0_16, .int mw, .int mh, .int n_h0_columns, .ref h1, .ref h2, .ref h3, h0_23, h0_24, h0_25, h0_26, h0_27, h0_28, h0_29, h0_30, h0_31, h0_32, h0_33, h0_34, h0_35, h0_36, h0_37, h0_38, h0_39, h0_40, h0_41, h0_42, h0_43, h0_44, h0_45, h0_46, h0_47, h0_48, h0_49, h0_50, h0_51, h0_52, h0_53, h0_54, h0_55, h0_56, h0_57, h0_58, h0_59, h0_60, h0_61, h0_62, h0_63, h0_64, h0_65, h0_66, h0_67, h0_68, h0_69])), (h1, .inl (ch1, 10, .inl g_h1)), (h2, .inl (ch2, 10, .inl g_h2)), (h3, .inl (ch3, 120, .inl g_h3))]) (va_A [(h0, .inr (12, [h0_0, h0_1, .int mx, h0_3, h0_4, h0_5, h0_6, h0_7, h0_8, h0_9, h0_10, h0_11, h0_12, h0_13, h0_14, h0_15, h0_16, .int mw, .int mh, .int mc, .ref h1, .ref h2, .ref h3, h0_23, h0_24, h0_25, h0_26, h0_27, h0_28, h0_29, h0_30, h0_31, h0_32, h0_33, h0_34, h0_35, h0_36, h0_37, h0_38, h0_39, h0_40, h0_41, h0_42, h0_43, h0_44, h0_45, h0_46, h0_47, h0_48, h0_49, h0_50, h0_51, h0_52, h0_53, h0_54, h0_55, h0_56, h0_57, h0_58, h0_59, h0_60, h0_61, h0_62, h0_63, h0_64, h0_65, h0_66, h0_67, h0_68, h0_69])), (h1, .inl (ch1, 10, .inl fh1)), (h2, .inl (ch2, 10, .inl fh2)), (h3, .inl (ch3, 120, .inl fh3))] sz)) 0 0 (va_A [(h0, .inr (12, [h0_0, h0_1, .int mx, h0_3, h0_4, h0_5, h0_6, h0_7, h0_8, h0_9, h0_10, h0_11, h0_12, h0_13, h0_14, h0_15, h0_16, .int mw, .int mh, .int mc, .ref h1, .ref h2, .ref h3, h0_23, h0_24, h0_25, h0_26, h0_27, h0_28, h0_29, h0_30, h0_31, h0_32, h0_33, h0_34, h0_35, h0_36, h0_37, h0_38, h0_39, h0_40, h0_41, h0_42, h0_43, h0_44, h0_45, h0_46, h0_47, h0_48, h0_49, h0_50, h0_51, h0_52, h0_53, h0_54, h0_55, h0_56, h0_57, h0_58, h0_59, h0_60, h0_61, h0_62, h0_63, h0_64, h0_65, h0_66, h0_67, h0_68, h0_69])), (h1, .inl (ch1, 10, .inl fh1)), (h2, .inl (ch2, 10, .inl fh2)), (h3, .inl (ch3, 120, .inl fh3))] sz) := by
  refine Met.ofW (cc := cX12_column) (maxL := 4) (ret := (some .int)) (by decide) rfl ?_
  intro p e s m args below meth c s₁ B hml hv
  obtain ⟨rfl, hsz, hP, hK, hD0⟩ := hv
  have hx := B.exec
  have hb := B.bytes
  have hr := B.returns
  have hts := atoms_spec (ws := u_s_X12_column) B.pre
  have hown : s.vm.findClass RX12 = some m.cls := findClass_of_methodNamed B.named
  have hlocks := B.notSynchronized
  subst hsz
  have hD := hD0.self (sz := s.heap.size)
  generalize hAe : va_A [(h0, .inr (12, [h0_0, h0_1, .int mx, h0_3, h0_4, h0_5, h0_6, h0_7, h0_8, h0_9, h0_10, h0_11, h0_12, h0_13, h0_14, h0_15, h0_16, .int mw, .int mh, .int mc, .ref h1, .ref h2, .ref h3, h0_23, h0_24, h0_25, h0_26, h0_27, h0_28, h0_29, h0_30, h0_31, h0_32, h0_33, h0_34, h0_35, h0_36, h0_37, h0_38, h0_39, h0_40, h0_41, h0_42, h0_43, h0_44, h0_45, h0_46, h0_47, h0_48, h0_49, h0_50, h0_51, h0_52, h0_53, h0_54, h0_55, h0_56, h0_57, h0_58, h0_59, h0_60, h0_61, h0_62, h0_63, h0_64, h0_65, h0_66, h0_67, h0_68, h0_69])), (h1, .inl (ch1, 10, .inl fh1)), (h2, .inl (ch2, 10, .inl fh2)), (h3, .inl (ch3, 120, .inl fh3))] s.heap.size = A at hD ⊢
  have hA : ∀ q : Nat, s.heap.size ≤ q → A q := fun q h => by rw [← hAe]; exact Or.inr h
  have hS : va_S A s.heap s.heap [] := va_S.rf
  have hP : va_P (dC, dI) vwCl [(h0, .inr (12, [h0_0, h0_1, .int mx, h0_3, h0_4, h0_5, h0_6, h0_7, h0_8, h0_9, h0_10, h0_11, h0_12, h0_13, h0_14, h0_15, h0_16, .int mw, .int mh, .int mc, .ref h1, .ref h2, .ref h3, h0_23, h0_24, h0_25, h0_26, h0_27, h0_28, h0_29, h0_30, h0_31, h0_32, h0_33, h0_34, h0_35, h0_36, h0_37, h0_38, h0_39, h0_40, h0_41, h0_42, h0_43, h0_44, h0_45, h0_46, h0_47, h0_48, h0_49, h0_50, h0_51, h0_52, h0_53, h0_54, h0_55, h0_56, h0_57, h0_58, h0_59, h0_60, h0_61, h0_62, h0_63, h0_64, h0_65, h0_66, h0_67, h0_68, h0_69])), (h1, .inl (ch1, 10, .inl fh1)), (h2, .inl (ch2, 10, .inl fh2)), (h3, .inl (ch3, 120, .inl fh3))] s.heap := hP
  have w__fieldLink_RX12_145_ShellHeapModel_thrown_I_ := hts (.fieldLink RX12 145 "ShellHeapModel" "thrown" "I") (z_mc (z_ml z_m0))
  have hiX12 := show ∀ w ∈ u_ws RX12 TX12 70, w ∈ u_s_X12_column from fun w h => z_mc (z_mr (z_ml h))
  have w__fieldLink_RX12_181_ShellHeapModel_columns_I_ := hts (.fieldLink RX12 181 "ShellHeapModel" "columns" "I") (z_mc (z_ml z_m1))
  have w__fieldLink_RX12_47_ShellHeapModel_wide_I_ := hts (.fieldLink RX12 47 "ShellHeapModel" "wide" "I") (z_mc (z_ml z_m2))
  have w__fieldLink_RX12_51_ShellHeapModel_tall_I_ := hts (.fieldLink RX12 51 "ShellHeapModel" "tall" "I") (z_mc (z_ml z_m3))
  have w__fieldLink_RX12_54_ShellHeapModel_columnX_I_ := hts (.fieldLink RX12 54 "ShellHeapModel" "columnX" "[I") (z_mc (z_ml z_m4))
  have w__fieldLink_RX12_57_ShellHeapModel_columnY_I_ := hts (.fieldLink RX12 57 "ShellHeapModel" "columnY" "[I") (z_mc (z_ml z_m5))
  have w__fieldLink_RX12_60_ShellHeapModel_thickOf_I_ := hts (.fieldLink RX12 60 "ShellHeapModel" "thickOf" "[I") (z_mc (z_ml z_m6))
  have krr_p1 := z_rng p1
  have krr_p2 := z_rng p2
  have hl := lv_entry ([.ref h0, .int p1, .int p2]) (n := 4) (Nat.le_of_ble_eq_true rfl)
  rw [lg_entry_eq]
  generalize (lg_sl ([.ref h0, .int p1, .int p2]) ++ List.replicate (4 - (lg_sl ([.ref h0, .int p1, .int p2])).length) Slot.unset).toArray = ls at hl ⊢
  have hl : lv_has ls 4 [(0, .ref h0), (1, .int p1), (2, .int p2)] := hl
  refine z_nameQ (fun QQ hQQ => ?_)
  refine lv_aload_n hx hb dX12_column_0 rfl (lv_at hl 0 rfl) ?_
  refine lv_iconst (v := 0) hx hb dX12_column_1 (by decide) ?_
  refine va_put (D := (dC, dI)) (ci := 12) (v := .int 0) (ty := .int) (C := RX12) (T := TX12) (N := 70) hx hb hts hiX12 tyX12 tyX12_ok nmX12 hown hK hP hD hS 0 rfl rfl 2 (by decide) w__fieldLink_RX12_145_ShellHeapModel_thrown_I_ (fun _ h9 => h9) rfl (by decide +kernel) rfl rfl (Nat.le_of_ble_eq_true rfl) dX12_column_2 (fun H_1 locs hP hD hS => ?_)
  obtain ⟨hP, hD⟩ := z_s_0_2 hP hD
  refine lv_aload_n hx hb dX12_column_5 rfl (lv_at hl 0 rfl) ?_
  refine va_get (D := (dC, dI)) (ci := 12) (v := .int mc) (C := RX12) (T := TX12) (N := 70) hx hb hts hiX12 hown hK hP 0 rfl rfl 19 (by decide) w__fieldLink_RX12_181_ShellHeapModel_columns_I_ (fun _ h9 => h9) rfl dX12_column_6 ?_
  refine lv_bipush (v := 10) hx hb dX12_column_9 (by decide) ?_
  refine lv_icmp_eq (tgt := 38) hx hb dX12_column_11 (by decide) (fun c_2 => ?_) (fun c_2 => ?_)
  · have k_3 : (mc).toInt = (10 : Int) := z_eq c_2
    obtain rfl : mc = 10 := z_eq' (show (mc).toInt = (10 : Int) by omega)
    refine lv_iconst (v := (-1)) hx hb dX12_column_38 (by decide) ?_
    refine z_backQ hQQ ?_
    have hP9 := hP
    have hD9 := hD
    have hK9 := hK.sub (tys' := []) [] rfl
    refine W.widen (k := 0) (n := 0) (Nat.le_of_ble_eq_true rfl) (Nat.le_of_ble_eq_true rfl) ?_
    exact W.iret (v := (-1)) hx hb hr (fun t ht hW => ⟨⟨(-1), (), rfl, trivial, ⟨0, 10, fh1, fh2, fh3, (by decide), by rw [ht]; exact hP9, va_K.moved hW.alike hK9, hD9⟩⟩, hS.F ht⟩) hS.2.2 dX12_column_39
  · have k_5 : (mc).toInt ≠ (10 : Int) := z_ne c_2
    refine lv_iload_n hx hb dX12_column_14 rfl (lv_at hl 1 rfl) ?_
    refine lv_if_lt (tgt := 38) hx hb dX12_column_15 (by decide) (fun c_6 => ?_) (fun c_6 => ?_)
    · have k_7 : (p1).toInt < (0 : Int) := z_lt c_6
      refine lv_iconst (v := (-1)) hx hb dX12_column_38 (by decide) ?_
      refine z_backQ hQQ ?_
      have hP9 := hP
      have hD9 := hD
      have hK9 := hK.sub (tys' := []) [] rfl
      refine W.widen (k := 0) (n := 0) (Nat.le_of_ble_eq_true rfl) (Nat.le_of_ble_eq_true rfl) ?_
      exact W.iret (v := (-1)) hx hb hr (fun t ht hW => ⟨⟨(-1), (), rfl, trivial, ⟨0, mc, fh1, fh2, fh3, hB_mc, by rw [ht]; exact hP9, va_K.moved hW.alike hK9, hD9⟩⟩, hS.F ht⟩) hS.2.2 dX12_column_39
    · have k_8 : (p1).toInt ≥ (0 : Int) := z_nlt c_6
      refine lv_iload_n hx hb dX12_column_18 rfl (lv_at hl 1 rfl) ?_
      refine lv_aload_n hx hb dX12_column_19 rfl (lv_at hl 0 rfl) ?_
      refine va_get (D := (dC, dI)) (ci := 12) (v := .int mw) (C := RX12) (T := TX12) (N := 70) hx hb hts hiX12 hown hK hP 0 rfl rfl 17 (by decide) w__fieldLink_RX12_47_ShellHeapModel_wide_I_ (fun _ h9 => h9) rfl dX12_column_20 ?_
      refine lv_icmp_ge (tgt := 38) hx hb dX12_column_23 (by decide) (fun c_9 => ?_) (fun c_9 => ?_)
      · have k_10 : (mw).toInt ≤ (p1).toInt := z_le c_9
        refine lv_iconst (v := (-1)) hx hb dX12_column_38 (by decide) ?_
        refine z_backQ hQQ ?_
        have hP9 := hP
        have hD9 := hD
        have hK9 := hK.sub (tys' := []) [] rfl
        refine W.widen (k := 0) (n := 0) (Nat.le_of_ble_eq_true rfl) (Nat.le_of_ble_eq_true rfl) ?_
        exact W.iret (v := (-1)) hx hb hr (fun t ht hW => ⟨⟨(-1), (), rfl, trivial, ⟨0, mc, fh1, fh2, fh3, hB_mc, by rw [ht]; exact hP9, va_K.moved hW.alike hK9, hD9⟩⟩, hS.F ht⟩) hS.2.2 dX12_column_39
      · have k_11 : (mw).toInt > (p1).toInt := z_nle c_9
        refine lv_iload_n hx hb dX12_column_26 rfl (lv_at hl 2 rfl) ?_
        refine lv_if_lt (tgt := 38) hx hb dX12_column_27 (by decide) (fun c_12 => ?_) (fun c_12 => ?_)
        · have k_13 : (p2).toInt < (0 : Int) := z_lt c_12
          refine lv_iconst (v := (-1)) hx hb dX12_column_38 (by decide) ?_
          refine z_backQ hQQ ?_
          have hP9 := hP
          have hD9 := hD
          have hK9 := hK.sub (tys' := []) [] rfl
          refine W.widen (k := 0) (n := 0) (Nat.le_of_ble_eq_true rfl) (Nat.le_of_ble_eq_true rfl) ?_
          exact W.iret (v := (-1)) hx hb hr (fun t ht hW => ⟨⟨(-1), (), rfl, trivial, ⟨0, mc, fh1, fh2, fh3, hB_mc, by rw [ht]; exact hP9, va_K.moved hW.alike hK9, hD9⟩⟩, hS.F ht⟩) hS.2.2 dX12_column_39
        · have k_14 : (p2).toInt ≥ (0 : Int) := z_nlt c_12
          refine lv_iload_n hx hb dX12_column_30 rfl (lv_at hl 2 rfl) ?_
          refine lv_aload_n hx hb dX12_column_31 rfl (lv_at hl 0 rfl) ?_
          refine va_get (D := (dC, dI)) (ci := 12) (v := .int mh) (C := RX12) (T := TX12) (N := 70) hx hb hts hiX12 hown hK hP 0 rfl rfl 18 (by decide) w__fieldLink_RX12_51_ShellHeapModel_tall_I_ (fun _ h9 => h9) rfl dX12_column_32 ?_
          refine lv_icmp_lt (tgt := 40) hx hb dX12_column_35 (by decide) (fun c_15 => ?_) (fun c_15 => ?_)
          · have k_16 : (p2).toInt < (mh).toInt := z_lt c_15
            refine lv_iconst (v := 0) hx hb dX12_column_40 (by decide) ?_
            refine lv_istore_n (lv' := [(3, .int 0), (0, .ref h0), (1, .int p1), (2, .int p2)]) hx hb dX12_column_41 rfl hl (by decide) rfl (fun ls hl => ?_)
            have loop_17 : ∀ (n_18 : Nat) (i_20 : Int32) (H : Heap) (locs : List Loc) (ls : Array Slot), (11 - (i_20).toInt).toNat < n_18 → (((0 : Int) ≤ (i_20).toInt ∧ (i_20).toInt ≤ (10 : Int))) → va_P (dC, dI) vwCl [(h0, .inr (12, [h0_0, h0_1, .int 0, h0_3, h0_4, h0_5, h0_6, h0_7, h0_8, h0_9, h0_10, h0_11, h0_12, h0_13, h0_14, h0_15, h0_16, .int mw, .int mh, .int mc, .ref h1, .ref h2, .ref h3, h0_23, h0_24, h0_25, h0_26, h0_27, h0_28, h0_29, h0_30, h0_31, h0_32, h0_33, h0_34, h0_35, h0_36, h0_37, h0_38, h0_39, h0_40, h0_41, h0_42, h0_43, h0_44, h0_45, h0_46, h0_47, h0_48, h0_49, h0_50, h0_51, h0_52, h0_53, h0_54, h0_55, h0_56, h0_57, h0_58, h0_59, h0_60, h0_61, h0_62, h0_63, h0_64, h0_65, h0_66, h0_67, h0_68, h0_69])), (h1, .inl (ch1, 10, .inl fh1)), (h2, .inl (ch2, 10, .inl fh2)), (h3, .inl (ch3, 120, .inl fh3))] H → va_D A [(h0, .inr (12, [h0_0, h0_1, .int 0, h0_3, h0_4, h0_5, h0_6, h0_7, h0_8, h0_9, h0_10, h0_11, h0_12, h0_13, h0_14, h0_15, h0_16, .int mw, .int mh, .int mc, .ref h1, .ref h2, .ref h3, h0_23, h0_24, h0_25, h0_26, h0_27, h0_28, h0_29, h0_30, h0_31, h0_32, h0_33, h0_34, h0_35, h0_36, h0_37, h0_38, h0_39, h0_40, h0_41, h0_42, h0_43, h0_44, h0_45, h0_46, h0_47, h0_48, h0_49, h0_50, h0_51, h0_52, h0_53, h0_54, h0_55, h0_56, h0_57, h0_58, h0_59, h0_60, h0_61, h0_62, h0_63, h0_64, h0_65, h0_66, h0_67, h0_68, h0_69])), (h1, .inl (ch1, 10, .inl fh1)), (h2, .inl (ch2, 10, .inl fh2)), (h3, .inl (ch3, 120, .inl fh3))] → va_S A s.heap H locs → lv_has ls 4 [(3, .int i_20), (0, .ref h0), (1, .int p1), (2, .int p2)] → W p l e ({ frames := 0, cells := 0, slots := 0, locals := 0 } : Room) s m ([.ref h0, .int p1, .int p2] : List Value).toArray below meth c H locs 0 0 QQ (F0 m 42 ls []) := by
              intro n_18
              induction n_18 with
              | zero => intro i_20 H locs ls hm; exact absurd hm (Nat.not_lt_zero _)
              | succ n_18 ih_19 =>
                intro i_20 H locs ls hm hF_21 hP hD hS hl
                refine lv_iload_n hx hb dX12_column_42 rfl (lv_at hl 0 rfl) ?_
                refine lv_aload_n hx hb dX12_column_43 rfl (lv_at hl 1 rfl) ?_
                refine va_get (D := (dC, dI)) (ci := 12) (v := .int mc) (C := RX12) (T := TX12) (N := 70) hx hb hts hiX12 hown hK hP 0 rfl rfl 19 (by decide) w__fieldLink_RX12_181_ShellHeapModel_columns_I_ (fun _ h9 => h9) rfl dX12_column_44 ?_
                refine lv_icmp_ge (tgt := 78) hx hb dX12_column_47 (by decide) (fun c_22 => ?_) (fun c_22 => ?_)
                · have k_23 : (mc).toInt ≤ (i_20).toInt := z_le c_22
                  refine lv_aload_n hx hb dX12_column_78 rfl (lv_at hl 1 rfl) ?_
                  refine va_get (D := (dC, dI)) (ci := 12) (v := .ref h1) (C := RX12) (T := TX12) (N := 70) hx hb hts hiX12 hown hK hP 0 rfl rfl 20 (by decide) w__fieldLink_RX12_54_ShellHeapModel_columnX_I_ (fun _ h9 => h9) rfl dX12_column_79 ?_
                  refine lv_aload_n hx hb dX12_column_82 rfl (lv_at hl 1 rfl) ?_
                  refine va_get (D := (dC, dI)) (ci := 12) (v := .int mc) (C := RX12) (T := TX12) (N := 70) hx hb hts hiX12 hown hK hP 0 rfl rfl 19 (by decide) w__fieldLink_RX12_181_ShellHeapModel_columns_I_ (fun _ h9 => h9) rfl dX12_column_83 ?_
                  refine lv_iload_n hx hb dX12_column_86 rfl (lv_at hl 2 rfl) ?_
                  refine va_iast hx hb hK hP hD hS 1 0 rfl rfl (z_vpin (by omega) (by omega)) dX12_column_87 (fun H_24 locs hP hD hS => ?_)
                  obtain ⟨hP, hD⟩ := z_s_1 hP hD
                  generalize (upd fh1 (mc : Int32).toNatClampNeg p1) = f_25 at hP hD
                  refine lv_aload_n hx hb dX12_column_88 rfl (lv_at hl 1 rfl) ?_
                  refine va_get (D := (dC, dI)) (ci := 12) (v := .ref h2) (C := RX12) (T := TX12) (N := 70) hx hb hts hiX12 hown hK hP 0 rfl rfl 21 (by decide) w__fieldLink_RX12_57_ShellHeapModel_columnY_I_ (fun _ h9 => h9) rfl dX12_column_89 ?_
                  refine lv_aload_n hx hb dX12_column_92 rfl (lv_at hl 1 rfl) ?_
                  refine va_get (D := (dC, dI)) (ci := 12) (v := .int mc) (C := RX12) (T := TX12) (N := 70) hx hb hts hiX12 hown hK hP 0 rfl rfl 19 (by decide) w__fieldLink_RX12_181_ShellHeapModel_columns_I_ (fun _ h9 => h9) rfl dX12_column_93 ?_
                  refine lv_iload_n hx hb dX12_column_96 rfl (lv_at hl 3 rfl) ?_
                  refine va_iast hx hb hK hP hD hS 2 1 rfl rfl (z_vpin (by omega) (by omega)) dX12_column_97 (fun H_26 locs hP hD hS => ?_)
                  obtain ⟨hP, hD⟩ := z_s_2 hP hD
                  generalize (upd fh2 (mc : Int32).toNatClampNeg p2) = f_27 at hP hD
                  refine lv_iconst (v := 0) hx hb dX12_column_98 (by decide) ?_
                  refine lv_istore_n (lv' := [(3, .int 0), (0, .ref h0), (1, .int p1), (2, .int p2)]) hx hb dX12_column_99 rfl hl (by decide) rfl (fun ls hl => ?_)
                  have loop_28 : ∀ (n_29 : Nat) (i_31 : Int32) (f_32 : Nat → Int32) (H : Heap) (locs : List Loc) (ls : Array Slot), (13 - (i_31).toInt).toNat < n_29 → (((0 : Int) ≤ (i_31).toInt ∧ (i_31).toInt ≤ (12 : Int))) → va_P (dC, dI) vwCl [(h0, .inr (12, [h0_0, h0_1, .int 0, h0_3, h0_4, h0_5, h0_6, h0_7, h0_8, h0_9, h0_10, h0_11, h0_12, h0_13, h0_14, h0_15, h0_16, .int mw, .int mh, .int mc, .ref h1, .ref h2, .ref h3, h0_23, h0_24, h0_25, h0_26, h0_27, h0_28, h0_29, h0_30, h0_31, h0_32, h0_33, h0_34, h0_35, h0_36, h0_37, h0_38, h0_39, h0_40, h0_41, h0_42, h0_43, h0_44, h0_45, h0_46, h0_47, h0_48, h0_49, h0_50, h0_51, h0_52, h0_53, h0_54, h0_55, h0_56, h0_57, h0_58, h0_59, h0_60, h0_61, h0_62, h0_63, h0_64, h0_65, h0_66, h0_67, h0_68, h0_69])), (h1, .inl (ch1, 10, .inl f_25)), (h2, .inl (ch2, 10, .inl f_27)), (h3, .inl (ch3, 120, .inl f_32))] H → va_D A [(h0, .inr (12, [h0_0, h0_1, .int 0, h0_3, h0_4, h0_5, h0_6, h0_7, h0_8, h0_9, h0_10, h0_11, h0_12, h0_13, h0_14, h0_15, h0_16, .int mw, .int mh, .int mc, .ref h1, .ref h2, .ref h3, h0_23, h0_24, h0_25, h0_26, h0_27, h0_28, h0_29, h0_30, h0_31, h0_32, h0_33, h0_34, h0_35, h0_36, h0_37, h0_38, h0_39, h0_40, h0_41, h0_42, h0_43, h0_44, h0_45, h0_46, h0_47, h0_48, h0_49, h0_50, h0_51, h0_52, h0_53, h0_54, h0_55, h0_56, h0_57, h0_58, h0_59, h0_60, h0_61, h0_62, h0_63, h0_64, h0_65, h0_66, h0_67, h0_68, h0_69])), (h1, .inl (ch1, 10, .inl f_25)), (h2, .inl (ch2, 10, .inl f_27)), (h3, .inl (ch3, 120, .inl f_32))] → va_S A s.heap H locs → lv_has ls 4 [(3, .int i_31), (0, .ref h0), (1, .int p1), (2, .int p2)] → W p l e ({ frames := 0, cells := 0, slots := 0, locals := 0 } : Room) s m ([.ref h0, .int p1, .int p2] : List Value).toArray below meth c H locs 0 0 QQ (F0 m 100 ls []) := by
                    intro n_29
                    induction n_29 with
                    | zero => intro i_31 f_32 H locs ls hm; exact absurd hm (Nat.not_lt_zero _)
                    | succ n_29 ih_30 =>
                      intro i_31 f_32 H locs ls hm hF_33 hP hD hS hl
                      refine lv_iload_n hx hb dX12_column_100 rfl (lv_at hl 0 rfl) ?_
                      refine lv_bipush (v := 12) hx hb dX12_column_101 (by decide) ?_
                      refine lv_icmp_ge (tgt := 127) hx hb dX12_column_103 (by decide) (fun c_34 => ?_) (fun c_34 => ?_)
                      · have k_35 : (12 : Int) ≤ (i_31).toInt := z_le c_34
                        obtain rfl : i_31 = 12 := z_eq' (show (i_31).toInt = (12 : Int) by omega)
                        refine lv_aload_n hx hb dX12_column_127 rfl (lv_at hl 1 rfl) ?_
                        refine lv_dup hx hb dX12_column_128 rfl ?_
                        refine va_get (D := (dC, dI)) (ci := 12) (v := .int mc) (C := RX12) (T := TX12) (N := 70) hx hb hts hiX12 hown hK hP 0 rfl rfl 19 (by decide) w__fieldLink_RX12_181_ShellHeapModel_columns_I_ (fun _ h9 => h9) rfl dX12_column_129 ?_
                        refine lv_iconst (v := 1) hx hb dX12_column_132 (by decide) ?_
                        refine lv_iadd hx hb dX12_column_133 ?_
                        refine lv_topi (fun z_37 ez_37 => ?_)
                        have kz_37 : (z_37).toInt = (mc).toInt + (1 : Int) := by rw [ez_37]; exact z_add (a := (mc).toInt) (b := (1 : Int)) rfl rfl (z_al hB_mc.1 (by decide)) (z_ah hB_mc.2 (by decide))
                        refine va_put (D := (dC, dI)) (ci := 12) (v := .int z_37) (ty := .int) (C := RX12) (T := TX12) (N := 70) hx hb hts hiX12 tyX12 tyX12_ok nmX12 hown hK hP hD hS 0 rfl rfl 19 (by decide) w__fieldLink_RX12_181_ShellHeapModel_columns_I_ (fun _ h9 => h9) rfl (by decide +kernel) rfl rfl (Nat.le_of_ble_eq_true rfl) dX12_column_134 (fun H_38 locs hP hD hS => ?_)
                        obtain ⟨hP, hD⟩ := z_s_0_19 hP hD
                        refine lv_aload_n hx hb dX12_column_137 rfl (lv_at hl 1 rfl) ?_
                        refine va_get (D := (dC, dI)) (ci := 12) (v := .int z_37) (C := RX12) (T := TX12) (N := 70) hx hb hts hiX12 hown hK hP 0 rfl rfl 19 (by decide) w__fieldLink_RX12_181_ShellHeapModel_columns_I_ (fun _ h9 => h9) rfl dX12_column_138 ?_
                        refine lv_iconst (v := 1) hx hb dX12_column_141 (by decide) ?_
                        refine lv_isub hx hb dX12_column_142 ?_
                        refine lv_topi (fun z_39 ez_39 => ?_)
                        have kz_39 : (z_39).toInt = (z_37).toInt - (1 : Int) := by rw [ez_39]; exact z_sub (a := (z_37).toInt) (b := (1 : Int)) rfl rfl (by omega) (by omega)
                        refine z_backQ hQQ ?_
                        have hP9 := hP
                        have hD9 := hD
                        have hK9 := hK.sub (tys' := []) [] rfl
                        refine W.widen (k := 0) (n := 0) (Nat.le_of_ble_eq_true rfl) (Nat.le_of_ble_eq_true rfl) ?_
                        exact W.iret (v := z_39) hx hb hr (fun t ht hW => ⟨⟨z_39, (), rfl, trivial, ⟨0, z_37, f_25, f_27, f_32, (by first | omega | decide), by rw [ht]; exact hP9, va_K.moved hW.alike hK9, hD9⟩⟩, hS.F ht⟩) hS.2.2 dX12_column_143
                      · have k_40 : (12 : Int) > (i_31).toInt := z_nle c_34
                        refine lv_aload_n hx hb dX12_column_106 rfl (lv_at hl 1 rfl) ?_
                        refine va_get (D := (dC, dI)) (ci := 12) (v := .ref h3) (C := RX12) (T := TX12) (N := 70) hx hb hts hiX12 hown hK hP 0 rfl rfl 22 (by decide) w__fieldLink_RX12_60_ShellHeapModel_thickOf_I_ (fun _ h9 => h9) rfl dX12_column_107 ?_
                        refine lv_bipush (v := 12) hx hb dX12_column_110 (by decide) ?_
                        refine lv_aload_n hx hb dX12_column_112 rfl (lv_at hl 1 rfl) ?_
                        refine va_get (D := (dC, dI)) (ci := 12) (v := .int mc) (C := RX12) (T := TX12) (N := 70) hx hb hts hiX12 hown hK hP 0 rfl rfl 19 (by decide) w__fieldLink_RX12_181_ShellHeapModel_columns_I_ (fun _ h9 => h9) rfl dX12_column_113 ?_
                        refine lv_imul hx hb dX12_column_116 ?_
                        refine lv_topi (fun z_41 ez_41 => ?_)
                        have kz_41 : (z_41).toInt = (12 : Int) * (mc).toInt := by rw [ez_41]; exact z_mul (a := (12 : Int)) (b := (mc).toInt) rfl rfl (by omega) (by omega)
                        refine lv_iload_n hx hb dX12_column_117 rfl (lv_at hl 0 rfl) ?_
                        refine lv_iadd hx hb dX12_column_118 ?_
                        refine lv_topi (fun z_42 ez_42 => ?_)
                        have kz_42 : (z_42).toInt = (z_41).toInt + (i_31).toInt := by rw [ez_42]; exact z_add (a := (z_41).toInt) (b := (i_31).toInt) rfl rfl (by omega) (by omega)
                        refine lv_iconst (v := 0) hx hb dX12_column_119 (by decide) ?_
                        refine va_iast hx hb hK hP hD hS 3 2 rfl rfl (z_vpin (by omega) (by omega)) dX12_column_120 (fun H_43 locs hP hD hS => ?_)
                        obtain ⟨hP, hD⟩ := z_s_3 hP hD
                        generalize (upd f_32 (z_42 : Int32).toNatClampNeg 0) = f_44 at hP hD
                        obtain ⟨z_45, ez_45⟩ : ∃ y : Int32, y = i_31 + 1 := ⟨_, rfl⟩
                        have kz_45 : (z_45).toInt = (i_31).toInt + (1 : Int) := by rw [ez_45]; exact z_add (b := 1) rfl rfl (z_al hF_33.1 (by decide)) (z_ah hF_33.2 (by decide))
                        refine lv_iinc (v := z_45) (lv' := [(3, .int z_45), (0, .ref h0), (1, .int p1), (2, .int p2)]) hx hb dX12_column_121 hl (k := 0) rfl (by rw [ez_45]; rfl) (by decide) rfl (fun ls hl => ?_)
                        refine lv_goto (tgt := 100) hx hb dX12_column_124 (by decide) ?_
                        exact ih_30 z_45 f_44 _ _ _ (show (13 - (z_45).toInt).toNat < n_29 by omega) (show ((0 : Int) ≤ (z_45).toInt ∧ (z_45).toInt ≤ (12 : Int)) by omega) hP hD hS (lv_sub hl [0, 1, 2, 3] rfl)
                  exact loop_28 _ 0 fh3 _ _ _ (Nat.lt_succ_self _) (show ((0 : Int) ≤ (0 : Int) ∧ (0 : Int) ≤ (12 : Int)) by omega) hP hD hS hl
                · have k_46 : (mc).toInt > (i_20).toInt := z_nle c_22
                  refine lv_aload_n hx hb dX12_column_50 rfl (lv_at hl 1 rfl) ?_
                  refine va_get (D := (dC, dI)) (ci := 12) (v := .ref h1) (C := RX12) (T := TX12) (N := 70) hx hb hts hiX12 hown hK hP 0 rfl rfl 20 (by decide) w__fieldLink_RX12_54_ShellHeapModel_columnX_I_ (fun _ h9 => h9) rfl dX12_column_51 ?_
                  refine lv_iload_n hx hb dX12_column_54 rfl (lv_at hl 0 rfl) ?_
                  refine va_iald hx hb hK hP 1 0 rfl rfl (z_vpin (by omega) (by omega)) dX12_column_55 ?_
                  refine lv_topi (fun z_47 ez_47 => ?_)
                  refine lv_iload_n hx hb dX12_column_56 rfl (lv_at hl 2 rfl) ?_
                  refine lv_icmp_ne (tgt := 72) hx hb dX12_column_57 (by decide) (fun c_48 => ?_) (fun c_48 => ?_)
                  · have k_49 : (z_47).toInt ≠ (p1).toInt := z_ne c_48
                    obtain ⟨z_50, ez_50⟩ : ∃ y : Int32, y = i_20 + 1 := ⟨_, rfl⟩
                    have kz_50 : (z_50).toInt = (i_20).toInt + (1 : Int) := by rw [ez_50]; exact z_add (b := 1) rfl rfl (z_al hF_21.1 (by decide)) (z_ah hF_21.2 (by decide))
                    refine lv_iinc (v := z_50) (lv' := [(3, .int z_50), (0, .ref h0), (1, .int p1), (2, .int p2)]) hx hb dX12_column_72 hl (k := 0) rfl (by rw [ez_50]; rfl) (by decide) rfl (fun ls hl => ?_)
                    refine lv_goto (tgt := 42) hx hb dX12_column_75 (by decide) ?_
                    exact ih_19 z_50 _ _ _ (show (11 - (z_50).toInt).toNat < n_18 by omega) (show ((0 : Int) ≤ (z_50).toInt ∧ (z_50).toInt ≤ (10 : Int)) by omega) hP hD hS (lv_sub hl [0, 1, 2, 3] rfl)
                  · have k_51 : (z_47).toInt = (p1).toInt := z_eq c_48
                    refine lv_aload_n hx hb dX12_column_60 rfl (lv_at hl 1 rfl) ?_
                    refine va_get (D := (dC, dI)) (ci := 12) (v := .ref h2) (C := RX12) (T := TX12) (N := 70) hx hb hts hiX12 hown hK hP 0 rfl rfl 21 (by decide) w__fieldLink_RX12_57_ShellHeapModel_columnY_I_ (fun _ h9 => h9) rfl dX12_column_61 ?_
                    refine lv_iload_n hx hb dX12_column_64 rfl (lv_at hl 0 rfl) ?_
                    refine va_iald hx hb hK hP 2 1 rfl rfl (z_vpin (by omega) (by omega)) dX12_column_65 ?_
                    refine lv_topi (fun z_52 ez_52 => ?_)
                    refine lv_iload_n hx hb dX12_column_66 rfl (lv_at hl 3 rfl) ?_
                    refine lv_icmp_ne (tgt := 72) hx hb dX12_column_67 (by decide) (fun c_53 => ?_) (fun c_53 => ?_)
                    · have k_54 : (z_52).toInt ≠ (p2).toInt := z_ne c_53
                      obtain ⟨z_55, ez_55⟩ : ∃ y : Int32, y = i_20 + 1 := ⟨_, rfl⟩
                      have kz_55 : (z_55).toInt = (i_20).toInt + (1 : Int) := by rw [ez_55]; exact z_add (b := 1) rfl rfl (z_al hF_21.1 (by decide)) (z_ah hF_21.2 (by decide))
                      refine lv_iinc (v := z_55) (lv' := [(3, .int z_55), (0, .ref h0), (1, .int p1), (2, .int p2)]) hx hb dX12_column_72 hl (k := 0) rfl (by rw [ez_55]; rfl) (by decide) rfl (fun ls hl => ?_)
                      refine lv_goto (tgt := 42) hx hb dX12_column_75 (by decide) ?_
                      exact ih_19 z_55 _ _ _ (show (11 - (z_55).toInt).toNat < n_18 by omega) (show ((0 : Int) ≤ (z_55).toInt ∧ (z_55).toInt ≤ (10 : Int)) by omega) hP hD hS (lv_sub hl [0, 1, 2, 3] rfl)
                    · have k_56 : (z_52).toInt = (p2).toInt := z_eq c_53
                      refine lv_iconst (v := (-1)) hx hb dX12_column_70 (by decide) ?_
                      refine z_backQ hQQ ?_
                      have hP9 := hP
                      have hD9 := hD
                      have hK9 := hK.sub (tys' := []) [] rfl
                      refine W.widen (k := 0) (n := 0) (Nat.le_of_ble_eq_true rfl) (Nat.le_of_ble_eq_true rfl) ?_
                      exact W.iret (v := (-1)) hx hb hr (fun t ht hW => ⟨⟨(-1), (), rfl, trivial, ⟨0, mc, fh1, fh2, fh3, hB_mc, by rw [ht]; exact hP9, va_K.moved hW.alike hK9, hD9⟩⟩, hS.F ht⟩) hS.2.2 dX12_column_71
            exact loop_17 _ 0 _ _ _ (Nat.lt_succ_self _) (show ((0 : Int) ≤ (0 : Int) ∧ (0 : Int) ≤ (10 : Int)) by omega) hP hD hS hl
          · have k_57 : (p2).toInt ≥ (mh).toInt := z_nlt c_15
            refine lv_iconst (v := (-1)) hx hb dX12_column_38 (by decide) ?_
            refine z_backQ hQQ ?_
            have hP9 := hP
            have hD9 := hD
            have hK9 := hK.sub (tys' := []) [] rfl
            refine W.widen (k := 0) (n := 0) (Nat.le_of_ble_eq_true rfl) (Nat.le_of_ble_eq_true rfl) ?_
            exact W.iret (v := (-1)) hx hb hr (fun t ht hW => ⟨⟨(-1), (), rfl, trivial, ⟨0, mc, fh1, fh2, fh3, hB_mc, by rw [ht]; exact hP9, va_K.moved hW.alike hK9, hD9⟩⟩, hS.F ht⟩) hS.2.2 dX12_column_39
def u_s_X12_thick : List Cond := .code yX12_thick cX12_thick 4 (some .boolean) :: ([.fieldLink RX12 145 "ShellHeapModel" "thrown" "I", .fieldLink RX12 181 "ShellHeapModel" "columns" "I", .methodLink RX12 157 yX12_isLayer, .instanceMethod yX12_isLayer, .selects RX12 yX12_isLayer yX12_isLayer, .initialized RX12, .fieldLink RX12 60 "ShellHeapModel" "thickOf" "[I"] ++ (wsX120 ++ (u_s_X12_isLayer ++ [])))
set_option maxRecDepth 20000 in
theorem gw_s_X12_thick_s_X12_isLayer_157 : GoodIn u_s_X12_thick (wsV RX12 157 RX12 yX12_isLayer u_s_X12_isLayer) := z_gV (z_gr _ [3, 4, 5, 6] rfl (by decide +kernel)) (fun w h => ⟨z_mc (z_mr (z_mr (z_ml h))), gd_s_X12_isLayer w h⟩)
set_option maxHeartbeats 4000000 in
set_option maxRecDepth 100000 in
theorem s_X12_thick (l : Launch) (dC : Nat → ClassId) (dI : Nat → Nat → Nat) (sz : Nat) (h0 : Nat) (p1 : Int32) (p2 : Int32) (p3 : Int32) (h0_0 : Value) (h0_1 : Value) (mx : Int32) (ml : Int32) (h0_4 : Value) (h0_5 : Value) (h0_6 : Value) (h0_7 : Value) (h0_8 : Value) (h0_9 : Value) (h0_10 : Value) (h0_11 : Value) (h0_12 : Value) (h0_13 : Value) (h0_14 : Value) (h0_15 : Value) (h0_16 : Value) (h0_17 : Value) (h0_18 : Value) (mc : Int32) (h0_20 : Value) (h0_21 : Value) (h1 : Nat) (h0_23 : Value) (h0_24 : Value) (h0_25 : Value) (h0_26 : Value) (h0_27 : Value) (h0_28 : Value) (h0_29 : Value) (h0_30 : Value) (h0_31 : Value) (h0_32 : Value) (h0_33 : Value) (h0_34 : Value) (h0_35 : Value) (h0_36 : Value) (h0_37 : Value) (h0_38 : Value) (h0_39 : Value) (h0_40 : Value) (h0_41 : Value) (h0_42 : Value) (h0_43 : Value) (h0_44 : Value) (h0_45 : Value) (h0_46 : Value) (h0_47 : Value) (h0_48 : Value) (h0_49 : Value) (h0_50 : Value) (h0_51 : Value) (h0_52 : Value) (h0_53 : Value) (h0_54 : Value) (h0_55 : Value) (h0_56 : Value) (h0_57 : Value) (h0_58 : Value) (h0_59 : Value) (h0_60 : Value) (h0_61 : Value) (h0_62 : Value) (h0_63 : Value) (h0_64 : Value) (h0_65 : Value) (h0_66 : Value) (h0_67 : Value) (h0_68 : Value) (h0_69 : Value) (ch1 : ClassId) (fh1 : Nat → Int32) (hB_mc : ((0 : Int) ≤ (mc).toInt ∧ (mc).toInt ≤ (10 : Int))) (hB_ml : ((0 : Int) ≤ (ml).toInt ∧ (ml).toInt ≤ (12 : Int))) : Met l yX12_thick u_s_X12_thick ({ frames := 1, cells := 0, slots := 0, locals := 21 }) (va_Pc [.ref h0, .int p1, .int p2, .int p3] (z_C (dC, dI) vwCl [(h0, .inr (12, [h0_0, h0_1, .int mx, .int ml, h0_4, h0_5, h0_6, h0_7, h0_8, h0_9, h0_10, h0_11, h0_12, h0_13, h0_14, h0_15, h0_16, h0_17, h0_18, .int mc, h0_20, h0_21, .ref h1, h0_23, h0_24, h0_25, h0_26, h0_27, h0_28, h0_29, h0_30, h0_31, h0_32, h0_33, h0_34, h0_35, h0_36, h0_37, h0_38, h0_39, h0_40, h0_41, h0_42, h0_43, h0_44, h0_45, h0_46, h0_47, h0_48, h0_49, h0_50, h0_51, h0_52, h0_53, h0_54, h0_55, h0_56, h0_57, h0_58, h0_59, h0_60, h0_61, h0_62, h0_63, h0_64, h0_65, h0_66, h0_67, h0_68, h0_69])), (h1, .inl (ch1, 120, .inl fh1))] [(ch1, .int)] sz)) (va_Qi (fun (r : Int32) (_ : Unit) => ((0 : Int) ≤ (r).toInt ∧ (r).toInt ≤ (1 : Int))) (fun (_ : Unit) (t : State) => ∃ (n_h0_thrown : Int32), ∃ (g_h1 : Nat → Int32), va_P (dC, dI) vwCl [(h0, .inr (12, [h0_0, h0_1, .int n_h0_thrown, .int ml, h0_4, h0_5, h0_6, h0_7, h0_8, h0_9, h0_10, h0_11, h0_12, h0_13, h0_14, h0_15, h0_16, h0_17, h0_18, .int mc, h0_20, h0_21, .ref h1, h0_23, h0_24, h0_25, h0_26, h0_27, h0_28, h0_29, h0_30, h0_31, h0_32, h0_33, h0_34, h0_35, h0_36, h0_37, h0_38, h0_39, h0_40, h0_41, h0_42, h0_43, h0_44, h0_45, h0_46, h0_47, h0_48, h0_49, h0_50, h0_51, h0_52, h0_53, h0_54, h0_55, h0_56, h0_57, h0_58, h0_59, h0_60, h0_61, h0_62, h0_63, h0_64, h0_65, h0_66, h0_67, h0_68, h0_69])), (h1, .inl (ch1, 120, .inl g_h1))] t.heap ∧ va_K (dC, dI) vwCl [] t ∧ va_D (va_A [(h0, .inr (12, [h0_0, h0_1, .int mx, .int ml, h0_4, h0_5, h0_6, h0_7, h0_8, h0_9, h0_10, h0_11, h0_12, h0_13, h0_14, h0_15, h0_16, h0_17, h0_18, .int mc, h0_20, h0_21, .ref h1, h0_23, h0_24, h0_25, h0_26, h0_27, h0_28, h0_29, h0_30, h0_31, h0_32, h0_33, h0_34, h0_35, h0_36, h0_37, h0_38, h0_39, h0_40, h0_41, h0_42, h0_43, h0_44, h0_45, h0_46, h0_47, h0_48, h0_49, h0_50, h0_51, h0_52, h0_53, h0_54, h0_55, h0_56, h0_57, h0_58, h0_59, h0_60, h0_61, h0_62, h0_63, h0_64, h0_65, h0_66, h0_67, h0_68, h0_69])), (h1, .inl (ch1, 120, .inl fh1))] sz) [(h0, .inr (12, [h0_0, h0_1, .int n_h0_thrown, .int ml, h0_4, h0_5, h0_6, h0_7, h0_8, h0_9, h0_10, h0_11, h0_12, h0_13, h0_14, h0_15, h0_16, h0_17, h0_18, .int mc, h0_20, h0_21, .ref h1, h0_23, h0_24, h0_25, h0_26, h0_27, h0_28, h0_29, h0_30, h0_31, h0_32, h0_33, h0_34, h0_35, h0_36, h0_37, h0_38, h0_39, h0_40, h0_41, h0_42, h0_43, h0_44, h0_45, h0_46, h0_47, h0_48, h0_49, h0_50, h0_51, h0_52, h0_53, h0_54, h0_55, h0_56, h0_57, h0_58, h0_59, h0_60, h0_61, h0_62, h0_63, h0_64, h0_65, h0_66, h0_67, h0_68, h0_69])), (h1, .inl (ch1, 120, .inl g_h1))]) (va_A [(h0, .inr (12, [h0_0, h0_1, .int mx, .int ml, h0_4, h0_5, h0_6, h0_7, h0_8, h0_9, h0_10, h0_11, h0_12, h0_13, h0_14, h0_15, h0_16, h0_17, h0_18, .int mc, h0_20, h0_21, .ref h1, h0_23, h0_24, h0_25, h0_26, h0_27, h0_28, h0_29, h0_30, h0_31, h0_32, h0_33, h0_34, h0_35, h0_36, h0_37, h0_38, h0_39, h0_40, h0_41, h0_42, h0_43, h0_44, h0_45, h0_46, h0_47, h0_48, h0_49, h0_50, h0_51, h0_52, h0_53, h0_54, h0_55, h0_56, h0_57, h0_58, h0_59, h0_60, h0_61, h0_62, h0_63, h0_64, h0_65, h0_66, h0_67, h0_68, h0_69])), (h1, .inl (ch1, 120, .inl fh1))] sz)) 0 0 (va_A [(h0, .inr (12, [h0_0, h0_1, .int mx, .int ml, h0_4, h0_5, h0_6, h0_7, h0_8, h0_9, h0_10, h0_11, h0_12, h0_13, h0_14, h0_15, h0_16, h0_17, h0_18, .int mc, h0_20, h0_21, .ref h1, h0_23, h0_24, h0_25, h0_26, h0_27, h0_28, h0_29, h0_30, h0_31, h0_32, h0_33, h0_34, h0_35, h0_36, h0_37, h0_38, h0_39, h0_40, h0_41, h0_42, h0_43, h0_44, h0_45, h0_46, h0_47, h0_48, h0_49, h0_50, h0_51, h0_52, h0_53, h0_54, h0_55, h0_56, h0_57, h0_58, h0_59, h0_60, h0_61, h0_62, h0_63, h0_64, h0_65, h0_66, h0_67, h0_68, h0_69])), (h1, .inl (ch1, 120, .inl fh1))] sz) := by
  refine Met.ofW (cc := cX12_thick) (maxL := 4) (ret := (some .boolean)) (by decide) rfl ?_
  intro p e s m args below meth c s₁ B hml hv
  obtain ⟨rfl, hsz, hP, hK, hD0⟩ := hv
  have hx := B.exec
  have hb := B.bytes
  have hr := B.returns
  have hts := atoms_spec (ws := u_s_X12_thick) B.pre
  have hown : s.vm.findClass RX12 = some m.cls := findClass_of_methodNamed B.named
  have hlocks := B.notSynchronized
  subst hsz
  have hD := hD0.self (sz := s.heap.size)
  generalize hAe : va_A [(h0, .inr (12, [h0_0, h0_1, .int mx, .int ml, h0_4, h0_5, h0_6, h0_7, h0_8, h0_9, h0_10, h0_11, h0_12, h0_13, h0_14, h0_15, h0_16, h0_17, h0_18, .int mc, h0_20, h0_21, .ref h1, h0_23, h0_24, h0_25, h0_26, h0_27, h0_28, h0_29, h0_30, h0_31, h0_32, h0_33, h0_34, h0_35, h0_36, h0_37, h0_38, h0_39, h0_40, h0_41, h0_42, h0_43, h0_44, h0_45, h0_46, h0_47, h0_48, h0_49, h0_50, h0_51, h0_52, h0_53, h0_54, h0_55, h0_56, h0_57, h0_58, h0_59, h0_60, h0_61, h0_62, h0_63, h0_64, h0_65, h0_66, h0_67, h0_68, h0_69])), (h1, .inl (ch1, 120, .inl fh1))] s.heap.size = A at hD ⊢
  have hA : ∀ q : Nat, s.heap.size ≤ q → A q := fun q h => by rw [← hAe]; exact Or.inr h
  have hS : va_S A s.heap s.heap [] := va_S.rf
  have hP : va_P (dC, dI) vwCl [(h0, .inr (12, [h0_0, h0_1, .int mx, .int ml, h0_4, h0_5, h0_6, h0_7, h0_8, h0_9, h0_10, h0_11, h0_12, h0_13, h0_14, h0_15, h0_16, h0_17, h0_18, .int mc, h0_20, h0_21, .ref h1, h0_23, h0_24, h0_25, h0_26, h0_27, h0_28, h0_29, h0_30, h0_31, h0_32, h0_33, h0_34, h0_35, h0_36, h0_37, h0_38, h0_39, h0_40, h0_41, h0_42, h0_43, h0_44, h0_45, h0_46, h0_47, h0_48, h0_49, h0_50, h0_51, h0_52, h0_53, h0_54, h0_55, h0_56, h0_57, h0_58, h0_59, h0_60, h0_61, h0_62, h0_63, h0_64, h0_65, h0_66, h0_67, h0_68, h0_69])), (h1, .inl (ch1, 120, .inl fh1))] s.heap := hP
  have w__fieldLink_RX12_145_ShellHeapModel_thrown_I_ := hts (.fieldLink RX12 145 "ShellHeapModel" "thrown" "I") (z_mc (z_ml z_m0))
  have hiX12 := show ∀ w ∈ u_ws RX12 TX12 70, w ∈ u_s_X12_thick from fun w h => z_mc (z_mr (z_ml h))
  have w__fieldLink_RX12_181_ShellHeapModel_columns_I_ := hts (.fieldLink RX12 181 "ShellHeapModel" "columns" "I") (z_mc (z_ml z_m1))
  have w__fieldLink_RX12_60_ShellHeapModel_thickOf_I_ := hts (.fieldLink RX12 60 "ShellHeapModel" "thickOf" "[I") (z_mc (z_ml z_m6))
  have krr_p1 := z_rng p1
  have krr_p2 := z_rng p2
  have krr_p3 := z_rng p3
  have hl := lv_entry ([.ref h0, .int p1, .int p2, .int p3]) (n := 4) (Nat.le_of_ble_eq_true rfl)
  rw [lg_entry_eq]
  generalize (lg_sl ([.ref h0, .int p1, .int p2, .int p3]) ++ List.replicate (4 - (lg_sl ([.ref h0, .int p1, .int p2, .int p3])).length) Slot.unset).toArray = ls at hl ⊢
  have hl : lv_has ls 4 [(0, .ref h0), (1, .int p1), (2, .int p2), (3, .int p3)] := hl
  refine lv_aload_n hx hb dX12_thick_0 rfl (lv_at hl 0 rfl) ?_
  refine lv_iconst (v := 0) hx hb dX12_thick_1 (by decide) ?_
  refine va_put (D := (dC, dI)) (ci := 12) (v := .int 0) (ty := .int) (C := RX12) (T := TX12) (N := 70) hx hb hts hiX12 tyX12 tyX12_ok nmX12 hown hK hP hD hS 0 rfl rfl 2 (by decide) w__fieldLink_RX12_145_ShellHeapModel_thrown_I_ (fun _ h9 => h9) rfl (by decide +kernel) rfl rfl (Nat.le_of_ble_eq_true rfl) dX12_thick_2 (fun H_1 locs hP hD hS => ?_)
  obtain ⟨hP, hD⟩ := z_s_0_2 hP hD
  refine lv_iload_n hx hb dX12_thick_5 rfl (lv_at hl 1 rfl) ?_
  refine lv_if_lt (tgt := 36) hx hb dX12_thick_6 (by decide) (fun c_2 => ?_) (fun c_2 => ?_)
  · have k_3 : (p1).toInt < (0 : Int) := z_lt c_2
    refine lv_iconst (v := 0) hx hb dX12_thick_36 (by decide) ?_
    have hP9 := hP
    have hD9 := hD
    have hK9 := hK.sub (tys' := []) [] rfl
    refine W.widen (k := 0) (n := 0) (Nat.le_of_ble_eq_true rfl) (Nat.le_of_ble_eq_true rfl) ?_
    exact W.zret (v := 0) hx hb hr (by rfl) (fun t ht hW => ⟨⟨0, (), rfl, (show ((0 : Int) ≤ (0 : Int) ∧ (0 : Int) ≤ (1 : Int)) by decide), ⟨0, fh1, by rw [ht]; exact hP9, va_K.moved hW.alike hK9, hD9⟩⟩, hS.F ht⟩) hS.2.2 dX12_thick_37
  · have k_4 : (p1).toInt ≥ (0 : Int) := z_nlt c_2
    refine lv_iload_n hx hb dX12_thick_9 rfl (lv_at hl 1 rfl) ?_
    refine lv_aload_n hx hb dX12_thick_10 rfl (lv_at hl 0 rfl) ?_
    refine va_get (D := (dC, dI)) (ci := 12) (v := .int mc) (C := RX12) (T := TX12) (N := 70) hx hb hts hiX12 hown hK hP 0 rfl rfl 19 (by decide) w__fieldLink_RX12_181_ShellHeapModel_columns_I_ (fun _ h9 => h9) rfl dX12_thick_11 ?_
    refine lv_icmp_ge (tgt := 36) hx hb dX12_thick_14 (by decide) (fun c_5 => ?_) (fun c_5 => ?_)
    · have k_6 : (mc).toInt ≤ (p1).toInt := z_le c_5
      refine lv_iconst (v := 0) hx hb dX12_thick_36 (by decide) ?_
      have hP9 := hP
      have hD9 := hD
      have hK9 := hK.sub (tys' := []) [] rfl
      refine W.widen (k := 0) (n := 0) (Nat.le_of_ble_eq_true rfl) (Nat.le_of_ble_eq_true rfl) ?_
      exact W.zret (v := 0) hx hb hr (by rfl) (fun t ht hW => ⟨⟨0, (), rfl, (show ((0 : Int) ≤ (0 : Int) ∧ (0 : Int) ≤ (1 : Int)) by decide), ⟨0, fh1, by rw [ht]; exact hP9, va_K.moved hW.alike hK9, hD9⟩⟩, hS.F ht⟩) hS.2.2 dX12_thick_37
    · have k_7 : (mc).toInt > (p1).toInt := z_nle c_5
      refine lv_aload_n hx hb dX12_thick_17 rfl (lv_at hl 0 rfl) ?_
      refine lv_iload_n hx hb dX12_thick_18 rfl (lv_at hl 2 rfl) ?_
      obtain ⟨hPc, hDc⟩ := z_sub2 (ws' := [(h0, .inr (12, [h0_0, h0_1, .int 0, .int ml, h0_4, h0_5, h0_6, h0_7, h0_8, h0_9, h0_10, h0_11, h0_12, h0_13, h0_14, h0_15, h0_16, h0_17, h0_18, .int mc, h0_20, h0_21, .ref h1, h0_23, h0_24, h0_25, h0_26, h0_27, h0_28, h0_29, h0_30, h0_31, h0_32, h0_33, h0_34, h0_35, h0_36, h0_37, h0_38, h0_39, h0_40, h0_41, h0_42, h0_43, h0_44, h0_45, h0_46, h0_47, h0_48, h0_49, h0_50, h0_51, h0_52, h0_53, h0_54, h0_55, h0_56, h0_57, h0_58, h0_59, h0_60, h0_61, h0_62, h0_63, h0_64, h0_65, h0_66, h0_67, h0_68, h0_69]))]) hP hD [0] (by decide) rfl
      have hKc := hK.sub (tys' := []) [] rfl
      have hFc := va_free (ws := []) (wc := []) (z_D0 _) hS hA [] rfl
      refine va_calli (va_runV (As := [.int p2]) (rest := []) ⟨hx, hb, hml, hown, hts⟩ (s_X12_isLayer l dC dI H_1.size h0 p2 h0_0 h0_1 (.int 0) ml h0_4 h0_5 h0_6 h0_7 h0_8 h0_9 h0_10 h0_11 h0_12 h0_13 h0_14 h0_15 h0_16 h0_17 h0_18 (.int mc) h0_20 h0_21 (.ref h1) h0_23 h0_24 h0_25 h0_26 h0_27 h0_28 h0_29 h0_30 h0_31 h0_32 h0_33 h0_34 h0_35 h0_36 h0_37 h0_38 h0_39 h0_40 h0_41 h0_42 h0_43 h0_44 h0_45 h0_46 h0_47 h0_48 h0_49 h0_50 h0_51 h0_52 h0_53 h0_54 h0_55 h0_56 h0_57 h0_58 h0_59 h0_60 h0_61 h0_62 h0_63 h0_64 h0_65 h0_66 h0_67 h0_68 h0_69 hB_ml) (cwV 1 hts gw_s_X12_thick_s_X12_isLayer_157 rfl rfl rfl (by decide +kernel) ⟨Nat.le_of_ble_eq_true rfl, Nat.le_of_ble_eq_true rfl⟩) ⟨z_blind, va_recv hKc hPc (ci := 12) (q0 := 0) rfl rfl, z_pre hPc hKc hDc⟩ rfl rfl hl.1 rfl (lv_room (Nat.le_of_ble_eq_true rfl)) dX12_thick_19 ⟨Nat.le_of_ble_eq_true rfl, Nat.le_of_ble_eq_true rfl⟩) hS (fun q _ h => hFc q h) hFc (fun r_9 u t H_8 locs ht hvm hw_10 hB hz1 hk1 hS => ?_)
      replace hP := z_pure hP hk1
      clear hPc hDc hKc
      rcases hw_10 with ⟨rfl, hw_10⟩ | ⟨rfl, hw_10⟩
      · have hw_10 : (0 ≤ p2.toInt ∧ p2.toInt < ml.toInt) := hw_10
        refine lv_if_eq (tgt := 36) hx hb dX12_thick_22 (by decide) (fun c_11 => absurd c_11 (by decide)) (fun _ => ?_)
        refine lv_iload_n hx hb dX12_thick_25 rfl (lv_at hl 3 rfl) ?_
        refine lv_if_lt (tgt := 36) hx hb dX12_thick_26 (by decide) (fun c_12 => ?_) (fun c_12 => ?_)
        · have k_13 : (p3).toInt < (0 : Int) := z_lt c_12
          refine lv_iconst (v := 0) hx hb dX12_thick_36 (by decide) ?_
          have hP9 := hP
          have hD9 := hD
          have hK9 := hK.sub (tys' := []) [] rfl
          refine W.widen (k := 0) (n := 0) (Nat.le_of_ble_eq_true rfl) (Nat.le_of_ble_eq_true rfl) ?_
          exact W.zret (v := 0) hx hb hr (by rfl) (fun t ht hW => ⟨⟨0, (), rfl, (show ((0 : Int) ≤ (0 : Int) ∧ (0 : Int) ≤ (1 : Int)) by decide), ⟨0, fh1, by rw [ht]; exact hP9, va_K.moved hW.alike hK9, hD9⟩⟩, hS.F ht⟩) hS.2.2 dX12_thick_37
        · have k_14 : (p3).toInt ≥ (0 : Int) := z_nlt c_12
          refine lv_iload_n hx hb dX12_thick_29 rfl (lv_at hl 3 rfl) ?_
          refine lv_sipush (v := 500) hx hb dX12_thick_30 (by decide) ?_
          refine lv_icmp_le (tgt := 38) hx hb dX12_thick_33 (by decide) (fun c_15 => ?_) (fun c_15 => ?_)
          · have k_16 : (p3).toInt ≤ (500 : Int) := z_le c_15
            refine lv_aload_n hx hb dX12_thick_38 rfl (lv_at hl 0 rfl) ?_
            refine va_get (D := (dC, dI)) (ci := 12) (v := .ref h1) (C := RX12) (T := TX12) (N := 70) hx hb hts hiX12 hown hK hP 0 rfl rfl 22 (by decide) w__fieldLink_RX12_60_ShellHeapModel_thickOf_I_ (fun _ h9 => h9) rfl dX12_thick_39 ?_
            refine lv_bipush (v := 12) hx hb dX12_thick_42 (by decide) ?_
            refine lv_iload_n hx hb dX12_thick_44 rfl (lv_at hl 1 rfl) ?_
            refine lv_imul hx hb dX12_thick_45 ?_
            refine lv_topi (fun z_17 ez_17 => ?_)
            have kz_17 : (z_17).toInt = (12 : Int) * (p1).toInt := by rw [ez_17]; exact z_mul (a := (12 : Int)) (b := (p1).toInt) rfl rfl (by omega) (by omega)
            refine lv_iload_n hx hb dX12_thick_46 rfl (lv_at hl 2 rfl) ?_
            refine lv_iadd hx hb dX12_thick_47 ?_
            refine lv_topi (fun z_18 ez_18 => ?_)
            have kz_18 : (z_18).toInt = (z_17).toInt + (p2).toInt := by rw [ez_18]; exact z_add (a := (z_17).toInt) (b := (p2).toInt) rfl rfl (by omega) (by omega)
            refine lv_iload_n hx hb dX12_thick_48 rfl (lv_at hl 3 rfl) ?_
            refine va_iast hx hb hK hP hD hS 1 0 rfl rfl (z_vpin (by omega) (by omega)) dX12_thick_49 (fun H_19 locs hP hD hS => ?_)
            obtain ⟨hP, hD⟩ := z_s_1 hP hD
            generalize (upd fh1 (z_18 : Int32).toNatClampNeg p3) = f_20 at hP hD
            refine lv_iconst (v := 1) hx hb dX12_thick_50 (by decide) ?_
            have hP9 := hP
            have hD9 := hD
            have hK9 := hK.sub (tys' := []) [] rfl
            refine W.widen (k := 0) (n := 0) (Nat.le_of_ble_eq_true rfl) (Nat.le_of_ble_eq_true rfl) ?_
            exact W.zret (v := 1) hx hb hr (by rfl) (fun t ht hW => ⟨⟨1, (), rfl, (show ((0 : Int) ≤ (1 : Int) ∧ (1 : Int) ≤ (1 : Int)) by decide), ⟨0, f_20, by rw [ht]; exact hP9, va_K.moved hW.alike hK9, hD9⟩⟩, hS.F ht⟩) hS.2.2 dX12_thick_51
          · have k_21 : (p3).toInt > (500 : Int) := z_nle c_15
            refine lv_iconst (v := 0) hx hb dX12_thick_36 (by decide) ?_
            have hP9 := hP
            have hD9 := hD
            have hK9 := hK.sub (tys' := []) [] rfl
            refine W.widen (k := 0) (n := 0) (Nat.le_of_ble_eq_true rfl) (Nat.le_of_ble_eq_true rfl) ?_
            exact W.zret (v := 0) hx hb hr (by rfl) (fun t ht hW => ⟨⟨0, (), rfl, (show ((0 : Int) ≤ (0 : Int) ∧ (0 : Int) ≤ (1 : Int)) by decide), ⟨0, fh1, by rw [ht]; exact hP9, va_K.moved hW.alike hK9, hD9⟩⟩, hS.F ht⟩) hS.2.2 dX12_thick_37
      · have hw_10 : True := hw_10
        refine lv_if_eq (tgt := 36) hx hb dX12_thick_22 (by decide) (fun _ => ?_) (fun c_22 => absurd (by decide) c_22)
        refine lv_iconst (v := 0) hx hb dX12_thick_36 (by decide) ?_
        have hP9 := hP
        have hD9 := hD
        have hK9 := hK.sub (tys' := []) [] rfl
        refine W.widen (k := 0) (n := 0) (Nat.le_of_ble_eq_true rfl) (Nat.le_of_ble_eq_true rfl) ?_
        exact W.zret (v := 0) hx hb hr (by rfl) (fun t ht hW => ⟨⟨0, (), rfl, (show ((0 : Int) ≤ (0 : Int) ∧ (0 : Int) ≤ (1 : Int)) by decide), ⟨0, fh1, by rw [ht]; exact hP9, va_K.moved hW.alike hK9, hD9⟩⟩, hS.F ht⟩) hS.2.2 dX12_thick_37
def u_s_X12_measure : List Cond := .code yX12_measure cX12_measure 5 (some .int) :: ([.fieldLink RX12 145 "ShellHeapModel" "thrown" "I", .methodLink RX12 157 yX12_isLayer, .instanceMethod yX12_isLayer, .selects RX12 yX12_isLayer yX12_isLayer, .initialized RX12, .fieldLink RX12 311 "ShellHeapModel" "shells" "I", .fieldLink RX12 90 "ShellHeapModel" "shellOf" "[I", .fieldLink RX12 93 "ShellHeapModel" "shell" "[I"] ++ (wsX120 ++ (u_s_X12_isLayer ++ [])))
set_option maxRecDepth 20000 in
theorem gw_s_X12_measure_s_X12_isLayer_157 : GoodIn u_s_X12_measure (wsV RX12 157 RX12 yX12_isLayer u_s_X12_isLayer) := z_gV (z_gr _ [2, 3, 4, 5] rfl (by decide +kernel)) (fun w h => ⟨z_mc (z_mr (z_mr (z_ml h))), gd_s_X12_isLayer w h⟩)
set_option maxHeartbeats 4000000 in
set_option maxRecDepth 100000 in
theorem s_X12_measure (l : Launch) (dC : Nat → ClassId) (dI : Nat → Nat → Nat) (sz : Nat) (h0 : Nat) (p1 : Int32) (p2 : Int32) (p3 : Int32) (p4 : Int32) (h0_0 : Value) (h0_1 : Value) (mx : Int32) (ml : Int32) (h0_4 : Value) (h0_5 : Value) (h0_6 : Value) (h0_7 : Value) (h0_8 : Value) (h0_9 : Value) (h0_10 : Value) (h0_11 : Value) (h0_12 : Value) (h0_13 : Value) (h0_14 : Value) (h0_15 : Value) (h0_16 : Value) (h0_17 : Value) (h0_18 : Value) (h0_19 : Value) (h0_20 : Value) (h0_21 : Value) (h0_22 : Value) (h0_23 : Value) (h0_24 : Value) (h0_25 : Value) (h0_26 : Value) (h0_27 : Value) (h0_28 : Value) (h0_29 : Value) (h0_30 : Value) (h0_31 : Value) (h0_32 : Value) (h0_33 : Value) (h0_34 : Value) (h0_35 : Value) (h0_36 : Value) (h0_37 : Value) (h0_38 : Value) (h0_39 : Value) (ms : Int32) (h1 : Nat) (h2 : Nat) (h0_43 : Value) (h0_44 : Value) (h0_45 : Value) (h0_46 : Value) (h0_47 : Value) (h0_48 : Value) (h0_49 : Value) (h0_50 : Value) (h0_51 : Value) (h0_52 : Value) (h0_53 : Value) (h0_54 : Value) (h0_55 : Value) (h0_56 : Value) (h0_57 : Value) (h0_58 : Value) (h0_59 : Value) (h0_60 : Value) (h0_61 : Value) (h0_62 : Value) (h0_63 : Value) (h0_64 : Value) (h0_65 : Value) (h0_66 : Value) (h0_67 : Value) (h0_68 : Value) (h0_69 : Value) (ch1 : ClassId) (fh1 : Nat → Int32) (ch2 : ClassId) (fh2 : Nat → Int32) (hB_ml : ((0 : Int) ≤ (ml).toInt ∧ (ml).toInt ≤ (12 : Int))) (hB_ms : ((0 : Int) ≤ (ms).toInt ∧ (ms).toInt ≤ (200 : Int))) (hI_h1 : ∀ j : Nat, ((0 : Int) ≤ (fh1 j).toInt ∧ (fh1 j).toInt ≤ (11 : Int))) : Met l yX12_measure u_s_X12_measure ({ frames := 1, cells := 0, slots := 0, locals := 21 }) (va_Pc [.ref h0, .int p1, .int p2, .int p3, .int p4] (z_C (dC, dI) vwCl [(h0, .inr (12, [h0_0, h0_1, .int mx, .int ml, h0_4, h0_5, h0_6, h0_7, h0_8, h0_9, h0_10, h0_11, h0_12, h0_13, h0_14, h0_15, h0_16, h0_17, h0_18, h0_19, h0_20, h0_21, h0_22, h0_23, h0_24, h0_25, h0_26, h0_27, h0_28, h0_29, h0_30, h0_31, h0_32, h0_33, h0_34, h0_35, h0_36, h0_37, h0_38, h0_39, .int ms, .ref h1, .ref h2, h0_43, h0_44, h0_45, h0_46, h0_47, h0_48, h0_49, h0_50, h0_51, h0_52, h0_53, h0_54, h0_55, h0_56, h0_57, h0_58, h0_59, h0_60, h0_61, h0_62, h0_63, h0_64, h0_65, h0_66, h0_67, h0_68, h0_69])), (h1, .inl (ch1, 200, .inl fh1)), (h2, .inl (ch2, 600, .inl fh2))] [(ch1, .int), (ch2, .int)] sz)) (va_Qi (fun (r : Int32) (_ : Unit) => True) (fun (_ : Unit) (t : State) => ∃ (n_h0_thrown : Int32), ∃ (n_h0_shells : Int32), ∃ (g_h1 : Nat → Int32), ∃ (g_h2 : Nat → Int32), ((0 : Int) ≤ (n_h0_shells).toInt ∧ (n_h0_shells).toInt ≤ (200 : Int)) ∧ (∀ j : Nat, ((0 : Int) ≤ (g_h1 j).toInt ∧ (g_h1 j).toInt ≤ (11 : Int))) ∧ va_P (dC, dI) vwCl [(h0, .inr (12, [h0_0, h0_1, .int n_h0_thrown, .int ml, h0_4, h0_5, h0_6, h0_7, h0_8, h0_9, h0_10, h0_11, h0_12, h0_13, h0_14, h0_15, h0_16, h0_17, h0_18, h0_19, h0_20, h0_21, h0_22, h0_23, h0_24, h0_25, h0_26, h0_27, h0_28, h0_29, h0_30, h0_31, h0_32, h0_33, h0_34, h0_35, h0_36, h0_37, h0_38, h0_39, .int n_h0_shells, .ref h1, .ref h2, h0_43, h0_44, h0_45, h0_46, h0_47, h0_48, h0_49, h0_50, h0_51, h0_52, h0_53, h0_54, h0_55, h0_56, h0_57, h0_58, h0_59, h0_60, h0_61, h0_62, h0_63, h0_64, h0_65, h0_66, h0_67, h0_68, h0_69])), (h1, .inl (ch1, 200, .inl g_h1)), (h2, .inl (ch2, 600, .inl g_h2))] t.heap ∧ va_K (dC, dI) vwCl [] t ∧ va_D (va_A [(h0, .inr (12, [h0_0, h0_1, .int mx, .int ml, h0_4, h0_5, h0_6, h0_7, h0_8, h0_9, h0_10, h0_11, h0_12, h0_13, h0_14, h0_15, h0_16, h0_17, h0_18, h0_19, h0_20, h0_21, h0_22, h0_23, h0_24, h0_25, h0_26, h0_27, h0_28, h0_29, h0_30, h0_31, h0_32, h0_33, h0_34, h0_35, h0_36, h0_37, h0_38, h0_39, .int ms, .ref h1, .ref h2, h0_43, h0_44, h0_45, h0_46, h0_47, h0_48, h0_49, h0_50, h0_51, h0_52, h0_53, h0_54, h0_55, h0_56, h0_57, h0_58, h0_59, h0_60, h0_61, h0_62, h0_63, h0_64, h0_65, h0_66, h0_67, h0_68, h0_69])), (h1, .inl (ch1, 200, .inl fh1)), (h2, .inl (ch2, 600, .inl fh2))] sz) [(h0, .inr (12, [h0_0, h0_1, .int n_h0_thrown, .int ml, h0_4, h0_5, h0_6, h0_7, h0_8, h0_9, h0_10, h0_11, h0_12, h0_13, h0_14, h0_15, h0_16, h0_17, h0_18, h0_19, h0_20, h0_21, h0_22, h0_23, h0_24, h0_25, h0_26, h0_27, h0_28, h0_29, h0_30, h0_31, h0_32, h0_33, h0_34, h0_35, h0_36, h0_37, h0_38, h0_39, .int n_h0_shells, .ref h1, .ref h2, h0_43, h0_44, h0_45, h0_46, h0_47, h0_48, h0_49, h0_50, h0_51, h0_52, h0_53, h0_54, h0_55, h0_56, h0_57, h0_58, h0_59, h0_60, h0_61, h0_62, h0_63, h0_64, h0_65, h0_66, h0_67, h0_68, h0_69])), (h1, .inl (ch1, 200, .inl g_h1)), (h2, .inl (ch2, 600, .inl g_h2))]) (va_A [(h0, .inr (12, [h0_0, h0_1, .int mx, .int ml, h0_4, h0_5, h0_6, h0_7, h0_8, h0_9, h0_10, h0_11, h0_12, h0_13, h0_14, h0_15, h0_16, h0_17, h0_18, h0_19, h0_20, h0_21, h0_22, h0_23, h0_24, h0_25, h0_26, h0_27, h0_28, h0_29, h0_30, h0_31, h0_32, h0_33, h0_34, h0_35, h0_36, h0_37, h0_38, h0_39, .int ms, .ref h1, .ref h2, h0_43, h0_44, h0_45, h0_46, h0_47, h0_48, h0_49, h0_50, h0_51, h0_52, h0_53, h0_54, h0_55, h0_56, h0_57, h0_58, h0_59, h0_60, h0_61, h0_62, h0_63, h0_64, h0_65, h0_66, h0_67, h0_68, h0_69])), (h1, .inl (ch1, 200, .inl fh1)), (h2, .inl (ch2, 600, .inl fh2))] sz)) 0 0 (va_A [(h0, .inr (12, [h0_0, h0_1, .int mx, .int ml, h0_4, h0_5, h0_6, h0_7, h0_8, h0_9, h0_10, h0_11, h0_12, h0_13, h0_14, h0_15, h0_16, h0_17, h0_18, h0_19, h0_20, h0_21, h0_22, h0_23, h0_24, h0_25, h0_26, h0_27, h0_28, h0_29, h0_30, h0_31, h0_32, h0_33, h0_34, h0_35, h0_36, h0_37, h0_38, h0_39, .int ms, .ref h1, .ref h2, h0_43, h0_44, h0_45, h0_46, h0_47, h0_48, h0_49, h0_50, h0_51, h0_52, h0_53, h0_54, h0_55, h0_56, h0_57, h0_58, h0_59, h0_60, h0_61, h0_62, h0_63, h0_64, h0_65, h0_66, h0_67, h0_68, h0_69])), (h1, .inl (ch1, 200, .inl fh1)), (h2, .inl (ch2, 600, .inl fh2))] sz) := by
  refine Met.ofW (cc := cX12_measure) (maxL := 5) (ret := (some .int)) (by decide) rfl ?_
  intro p e s m args below meth c s₁ B hml hv
  obtain ⟨rfl, hsz, hP, hK, hD0⟩ := hv
  have hx := B.exec
  have hb := B.bytes
  have hr := B.returns
  have hts := atoms_spec (ws := u_s_X12_measure) B.pre
  have hown : s.vm.findClass RX12 = some m.cls := findClass_of_methodNamed B.named
  have hlocks := B.notSynchronized
  subst hsz
  have hD := hD0.self (sz := s.heap.size)
  generalize hAe : va_A [(h0, .inr (12, [h0_0, h0_1, .int mx, .int ml, h0_4, h0_5, h0_6, h0_7, h0_8, h0_9, h0_10, h0_11, h0_12, h0_13, h0_14, h0_15, h0_16, h0_17, h0_18, h0_19, h0_20, h0_21, h0_22, h0_23, h0_24, h0_25, h0_26, h0_27, h0_28, h0_29, h0_30, h0_31, h0_32, h0_33, h0_34, h0_35, h0_36, h0_37, h0_38, h0_39, .int ms, .ref h1, .ref h2, h0_43, h0_44, h0_45, h0_46, h0_47, h0_48, h0_49, h0_50, h0_51, h0_52, h0_53, h0_54, h0_55, h0_56, h0_57, h0_58, h0_59, h0_60, h0_61, h0_62, h0_63, h0_64, h0_65, h0_66, h0_67, h0_68, h0_69])), (h1, .inl (ch1, 200, .inl fh1)), (h2, .inl (ch2, 600, .inl fh2))] s.heap.size = A at hD ⊢
  have hA : ∀ q : Nat, s.heap.size ≤ q → A q := fun q h => by rw [← hAe]; exact Or.inr h
  have hS : va_S A s.heap s.heap [] := va_S.rf
  have hP : va_P (dC, dI) vwCl [(h0, .inr (12, [h0_0, h0_1, .int mx, .int ml, h0_4, h0_5, h0_6, h0_7, h0_8, h0_9, h0_10, h0_11, h0_12, h0_13, h0_14, h0_15, h0_16, h0_17, h0_18, h0_19, h0_20, h0_21, h0_22, h0_23, h0_24, h0_25, h0_26, h0_27, h0_28, h0_29, h0_30, h0_31, h0_32, h0_33, h0_34, h0_35, h0_36, h0_37, h0_38, h0_39, .int ms, .ref h1, .ref h2, h0_43, h0_44, h0_45, h0_46, h0_47, h0_48, h0_49, h0_50, h0_51, h0_52, h0_53, h0_54, h0_55, h0_56, h0_57, h0_58, h0_59, h0_60, h0_61, h0_62, h0_63, h0_64, h0_65, h0_66, h0_67, h0_68, h0_69])), (h1, .inl (ch1, 200, .inl fh1)), (h2, .inl (ch2, 600, .inl fh2))] s.heap := hP
  have w__fieldLink_RX12_145_ShellHeapModel_thrown_I_ := hts (.fieldLink RX12 145 "ShellHeapModel" "thrown" "I") (z_mc (z_ml z_m0))
  have hiX12 := show ∀ w ∈ u_ws RX12 TX12 70, w ∈ u_s_X12_measure from fun w h => z_mc (z_mr (z_ml h))
  have w__fieldLink_RX12_311_ShellHeapModel_shells_I_ := hts (.fieldLink RX12 311 "ShellHeapModel" "shells" "I") (z_mc (z_ml z_m5))
  have w__fieldLink_RX12_90_ShellHeapModel_shellOf_I_ := hts (.fieldLink RX12 90 "ShellHeapModel" "shellOf" "[I") (z_mc (z_ml z_m6))
  have w__fieldLink_RX12_93_ShellHeapModel_shell_I_ := hts (.fieldLink RX12 93 "ShellHeapModel" "shell" "[I") (z_mc (z_ml z_m7))
  have krr_p1 := z_rng p1
  have krr_p2 := z_rng p2
  have krr_p3 := z_rng p3
  have krr_p4 := z_rng p4
  have hl := lv_entry ([.ref h0, .int p1, .int p2, .int p3, .int p4]) (n := 5) (Nat.le_of_ble_eq_true rfl)
  rw [lg_entry_eq]
  generalize (lg_sl ([.ref h0, .int p1, .int p2, .int p3, .int p4]) ++ List.replicate (5 - (lg_sl ([.ref h0, .int p1, .int p2, .int p3, .int p4])).length) Slot.unset).toArray = ls at hl ⊢
  have hl : lv_has ls 5 [(0, .ref h0), (1, .int p1), (2, .int p2), (3, .int p3), (4, .int p4)] := hl
  refine lv_aload_n hx hb dX12_measure_0 rfl (lv_at hl 0 rfl) ?_
  refine lv_iconst (v := 0) hx hb dX12_measure_1 (by decide) ?_
  refine va_put (D := (dC, dI)) (ci := 12) (v := .int 0) (ty := .int) (C := RX12) (T := TX12) (N := 70) hx hb hts hiX12 tyX12 tyX12_ok nmX12 hown hK hP hD hS 0 rfl rfl 2 (by decide) w__fieldLink_RX12_145_ShellHeapModel_thrown_I_ (fun _ h9 => h9) rfl (by decide +kernel) rfl rfl (Nat.le_of_ble_eq_true rfl) dX12_measure_2 (fun H_1 locs hP hD hS => ?_)
  obtain ⟨hP, hD⟩ := z_s_0_2 hP hD
  refine lv_aload_n hx hb dX12_measure_5 rfl (lv_at hl 0 rfl) ?_
  refine lv_iload_n hx hb dX12_measure_6 rfl (lv_at hl 1 rfl) ?_
  obtain ⟨hPc, hDc⟩ := z_sub2 (ws' := [(h0, .inr (12, [h0_0, h0_1, .int 0, .int ml, h0_4, h0_5, h0_6, h0_7, h0_8, h0_9, h0_10, h0_11, h0_12, h0_13, h0_14, h0_15, h0_16, h0_17, h0_18, h0_19, h0_20, h0_21, h0_22, h0_23, h0_24, h0_25, h0_26, h0_27, h0_28, h0_29, h0_30, h0_31, h0_32, h0_33, h0_34, h0_35, h0_36, h0_37, h0_38, h0_39, .int ms, .ref h1, .ref h2, h0_43, h0_44, h0_45, h0_46, h0_47, h0_48, h0_49, h0_50, h0_51, h0_52, h0_53, h0_54, h0_55, h0_56, h0_57, h0_58, h0_59, h0_60, h0_61, h0_62, h0_63, h0_64, h0_65, h0_66, h0_67, h0_68, h0_69]))]) hP hD [0] (by decide) rfl
  have hKc := hK.sub (tys' := []) [] rfl
  have hFc := va_free (ws := []) (wc := []) (z_D0 _) hS hA [] rfl
  refine va_calli (va_runV (As := [.int p1]) (rest := []) ⟨hx, hb, hml, hown, hts⟩ (s_X12_isLayer l dC dI H_1.size h0 p1 h0_0 h0_1 (.int 0) ml h0_4 h0_5 h0_6 h0_7 h0_8 h0_9 h0_10 h0_11 h0_12 h0_13 h0_14 h0_15 h0_16 h0_17 h0_18 h0_19 h0_20 h0_21 h0_22 h0_23 h0_24 h0_25 h0_26 h0_27 h0_28 h0_29 h0_30 h0_31 h0_32 h0_33 h0_34 h0_35 h0_36 h0_37 h0_38 h0_39 (.int ms) (.ref h1) (.ref h2) h0_43 h0_44 h0_45 h0_46 h0_47 h0_48 h0_49 h0_50 h0_51 h0_52 h0_53 h0_54 h0_55 h0_56 h0_57 h0_58 h0_59 h0_60 h0_61 h0_62 h0_63 h0_64 h0_65 h0_66 h0_67 h0_68 h0_69 hB_ml) (cwV 1 hts gw_s_X12_measure_s_X12_isLayer_157 rfl rfl rfl (by decide +kernel) ⟨Nat.le_of_ble_eq_true rfl, Nat.le_of_ble_eq_true rfl⟩) ⟨z_blind, va_recv hKc hPc (ci := 12) (q0 := 0) rfl rfl, z_pre hPc hKc hDc⟩ rfl rfl hl.1 rfl (lv_room (Nat.le_of_ble_eq_true rfl)) dX12_measure_7 ⟨Nat.le_of_ble_eq_true rfl, Nat.le_of_ble_eq_true rfl⟩) hS (fun q _ h => hFc q h) hFc (fun r_3 u t H_2 locs ht hvm hw_4 hB hz1 hk1 hS => ?_)
  replace hP := z_pure hP hk1
  clear hPc hDc hKc
  rcases hw_4 with ⟨rfl, hw_4⟩ | ⟨rfl, hw_4⟩
  · have hw_4 : (0 ≤ p1.toInt ∧ p1.toInt < ml.toInt) := hw_4
    refine lv_if_eq (tgt := 55) hx hb dX12_measure_10 (by decide) (fun c_5 => absurd c_5 (by decide)) (fun _ => ?_)
    refine lv_aload_n hx hb dX12_measure_13 rfl (lv_at hl 0 rfl) ?_
    refine va_get (D := (dC, dI)) (ci := 12) (v := .int ms) (C := RX12) (T := TX12) (N := 70) hx hb hts hiX12 hown hK hP 0 rfl rfl 40 (by decide) w__fieldLink_RX12_311_ShellHeapModel_shells_I_ (fun _ h9 => h9) rfl dX12_measure_14 ?_
    refine lv_sipush (v := 200) hx hb dX12_measure_17 (by decide) ?_
    refine lv_icmp_eq (tgt := 55) hx hb dX12_measure_20 (by decide) (fun c_6 => ?_) (fun c_6 => ?_)
    · have k_7 : (ms).toInt = (200 : Int) := z_eq c_6
      obtain rfl : ms = 200 := z_eq' (show (ms).toInt = (200 : Int) by omega)
      refine lv_iconst (v := (-1)) hx hb dX12_measure_55 (by decide) ?_
      have hP9 := hP
      have hD9 := hD
      have hK9 := hK.sub (tys' := []) [] rfl
      refine W.widen (k := 0) (n := 0) (Nat.le_of_ble_eq_true rfl) (Nat.le_of_ble_eq_true rfl) ?_
      exact W.iret (v := (-1)) hx hb hr (fun t ht hW => ⟨⟨(-1), (), rfl, trivial, ⟨0, 200, fh1, fh2, (by decide), hI_h1, by rw [ht]; exact hP9, va_K.moved hW.alike hK9, hD9⟩⟩, hS.F ht⟩) hS.2.2 dX12_measure_56
    · have k_9 : (ms).toInt ≠ (200 : Int) := z_ne c_6
      refine lv_iload_n hx hb dX12_measure_23 rfl (lv_at hl 2 rfl) ?_
      refine lv_if_lt (tgt := 55) hx hb dX12_measure_24 (by decide) (fun c_10 => ?_) (fun c_10 => ?_)
      · have k_11 : (p2).toInt < (0 : Int) := z_lt c_10
        refine lv_iconst (v := (-1)) hx hb dX12_measure_55 (by decide) ?_
        have hP9 := hP
        have hD9 := hD
        have hK9 := hK.sub (tys' := []) [] rfl
        refine W.widen (k := 0) (n := 0) (Nat.le_of_ble_eq_true rfl) (Nat.le_of_ble_eq_true rfl) ?_
        exact W.iret (v := (-1)) hx hb hr (fun t ht hW => ⟨⟨(-1), (), rfl, trivial, ⟨0, ms, fh1, fh2, hB_ms, hI_h1, by rw [ht]; exact hP9, va_K.moved hW.alike hK9, hD9⟩⟩, hS.F ht⟩) hS.2.2 dX12_measure_56
      · have k_12 : (p2).toInt ≥ (0 : Int) := z_nlt c_10
        refine lv_iload_n hx hb dX12_measure_27 rfl (lv_at hl 2 rfl) ?_
        refine lv_bipush (v := 99) hx hb dX12_measure_28 (by decide) ?_
        refine lv_icmp_gt (tgt := 55) hx hb dX12_measure_30 (by decide) (fun c_13 => ?_) (fun c_13 => ?_)
        · have k_14 : (99 : Int) < (p2).toInt := z_lt c_13
          refine lv_iconst (v := (-1)) hx hb dX12_measure_55 (by decide) ?_
          have hP9 := hP
          have hD9 := hD
          have hK9 := hK.sub (tys' := []) [] rfl
          refine W.widen (k := 0) (n := 0) (Nat.le_of_ble_eq_true rfl) (Nat.le_of_ble_eq_true rfl) ?_
          exact W.iret (v := (-1)) hx hb hr (fun t ht hW => ⟨⟨(-1), (), rfl, trivial, ⟨0, ms, fh1, fh2, hB_ms, hI_h1, by rw [ht]; exact hP9, va_K.moved hW.alike hK9, hD9⟩⟩, hS.F ht⟩) hS.2.2 dX12_measure_56
        · have k_15 : (99 : Int) ≥ (p2).toInt := z_nlt c_13
          refine lv_iload_n hx hb dX12_measure_33 rfl (lv_at hl 3 rfl) ?_
          refine lv_if_lt (tgt := 55) hx hb dX12_measure_34 (by decide) (fun c_16 => ?_) (fun c_16 => ?_)
          · have k_17 : (p3).toInt < (0 : Int) := z_lt c_16
            refine lv_iconst (v := (-1)) hx hb dX12_measure_55 (by decide) ?_
            have hP9 := hP
            have hD9 := hD
            have hK9 := hK.sub (tys' := []) [] rfl
            refine W.widen (k := 0) (n := 0) (Nat.le_of_ble_eq_true rfl) (Nat.le_of_ble_eq_true rfl) ?_
            exact W.iret (v := (-1)) hx hb hr (fun t ht hW => ⟨⟨(-1), (), rfl, trivial, ⟨0, ms, fh1, fh2, hB_ms, hI_h1, by rw [ht]; exact hP9, va_K.moved hW.alike hK9, hD9⟩⟩, hS.F ht⟩) hS.2.2 dX12_measure_56
          · have k_18 : (p3).toInt ≥ (0 : Int) := z_nlt c_16
            refine lv_iload_n hx hb dX12_measure_37 rfl (lv_at hl 3 rfl) ?_
            refine lv_bipush (v := 30) hx hb dX12_measure_38 (by decide) ?_
            refine lv_icmp_gt (tgt := 55) hx hb dX12_measure_40 (by decide) (fun c_19 => ?_) (fun c_19 => ?_)
            · have k_20 : (30 : Int) < (p3).toInt := z_lt c_19
              refine lv_iconst (v := (-1)) hx hb dX12_measure_55 (by decide) ?_
              have hP9 := hP
              have hD9 := hD
              have hK9 := hK.sub (tys' := []) [] rfl
              refine W.widen (k := 0) (n := 0) (Nat.le_of_ble_eq_true rfl) (Nat.le_of_ble_eq_true rfl) ?_
              exact W.iret (v := (-1)) hx hb hr (fun t ht hW => ⟨⟨(-1), (), rfl, trivial, ⟨0, ms, fh1, fh2, hB_ms, hI_h1, by rw [ht]; exact hP9, va_K.moved hW.alike hK9, hD9⟩⟩, hS.F ht⟩) hS.2.2 dX12_measure_56
            · have k_21 : (30 : Int) ≥ (p3).toInt := z_nlt c_19
              refine lv_iload hx hb dX12_measure_43 (lv_at hl 4 rfl) ?_
              refine lv_if_lt (tgt := 55) hx hb dX12_measure_45 (by decide) (fun c_22 => ?_) (fun c_22 => ?_)
              · have k_23 : (p4).toInt < (0 : Int) := z_lt c_22
                refine lv_iconst (v := (-1)) hx hb dX12_measure_55 (by decide) ?_
                have hP9 := hP
                have hD9 := hD
                have hK9 := hK.sub (tys' := []) [] rfl
                refine W.widen (k := 0) (n := 0) (Nat.le_of_ble_eq_true rfl) (Nat.le_of_ble_eq_true rfl) ?_
                exact W.iret (v := (-1)) hx hb hr (fun t ht hW => ⟨⟨(-1), (), rfl, trivial, ⟨0, ms, fh1, fh2, hB_ms, hI_h1, by rw [ht]; exact hP9, va_K.moved hW.alike hK9, hD9⟩⟩, hS.F ht⟩) hS.2.2 dX12_measure_56
              · have k_24 : (p4).toInt ≥ (0 : Int) := z_nlt c_22
                refine lv_iload hx hb dX12_measure_48 (lv_at hl 4 rfl) ?_
                refine lv_bipush (v := 99) hx hb dX12_measure_50 (by decide) ?_
                refine lv_icmp_le (tgt := 57) hx hb dX12_measure_52 (by decide) (fun c_25 => ?_) (fun c_25 => ?_)
                · have k_26 : (p4).toInt ≤ (99 : Int) := z_le c_25
                  refine lv_aload_n hx hb dX12_measure_57 rfl (lv_at hl 0 rfl) ?_
                  refine va_get (D := (dC, dI)) (ci := 12) (v := .ref h1) (C := RX12) (T := TX12) (N := 70) hx hb hts hiX12 hown hK hP 0 rfl rfl 41 (by decide) w__fieldLink_RX12_90_ShellHeapModel_shellOf_I_ (fun _ h9 => h9) rfl dX12_measure_58 ?_
                  refine lv_aload_n hx hb dX12_measure_61 rfl (lv_at hl 0 rfl) ?_
                  refine va_get (D := (dC, dI)) (ci := 12) (v := .int ms) (C := RX12) (T := TX12) (N := 70) hx hb hts hiX12 hown hK hP 0 rfl rfl 40 (by decide) w__fieldLink_RX12_311_ShellHeapModel_shells_I_ (fun _ h9 => h9) rfl dX12_measure_62 ?_
                  refine lv_iload_n hx hb dX12_measure_65 rfl (lv_at hl 1 rfl) ?_
                  refine va_iast hx hb hK hP hD hS 1 0 rfl rfl (z_vpin (by omega) (by omega)) dX12_measure_66 (fun H_27 locs hP hD hS => ?_)
                  obtain ⟨hP, hD⟩ := z_s_1 hP hD
                  have hI_f_28 : ∀ j : Nat, ((0 : Int) ≤ ((upd fh1 (ms : Int32).toNatClampNeg p1) j).toInt ∧ ((upd fh1 (ms : Int32).toNatClampNeg p1) j).toInt ≤ (11 : Int)) := z_updP (P := fun v => ((0 : Int) ≤ (v).toInt ∧ (v).toInt ≤ (11 : Int))) hI_h1 (show ((0 : Int) ≤ (p1).toInt ∧ (p1).toInt ≤ (11 : Int)) from by first | omega | decide)
                  generalize (upd fh1 (ms : Int32).toNatClampNeg p1) = f_28 at hP hD hI_f_28
                  refine lv_aload_n hx hb dX12_measure_67 rfl (lv_at hl 0 rfl) ?_
                  refine va_get (D := (dC, dI)) (ci := 12) (v := .ref h2) (C := RX12) (T := TX12) (N := 70) hx hb hts hiX12 hown hK hP 0 rfl rfl 42 (by decide) w__fieldLink_RX12_93_ShellHeapModel_shell_I_ (fun _ h9 => h9) rfl dX12_measure_68 ?_
                  refine lv_iconst (v := 3) hx hb dX12_measure_71 (by decide) ?_
                  refine lv_aload_n hx hb dX12_measure_72 rfl (lv_at hl 0 rfl) ?_
                  refine va_get (D := (dC, dI)) (ci := 12) (v := .int ms) (C := RX12) (T := TX12) (N := 70) hx hb hts hiX12 hown hK hP 0 rfl rfl 40 (by decide) w__fieldLink_RX12_311_ShellHeapModel_shells_I_ (fun _ h9 => h9) rfl dX12_measure_73 ?_
                  refine lv_imul hx hb dX12_measure_76 ?_
                  refine lv_topi (fun z_29 ez_29 => ?_)
                  have kz_29 : (z_29).toInt = (3 : Int) * (ms).toInt := by rw [ez_29]; exact z_mul (a := (3 : Int)) (b := (ms).toInt) rfl rfl (by omega) (by omega)
                  refine lv_iload_n hx hb dX12_measure_77 rfl (lv_at hl 2 rfl) ?_
                  refine va_iast hx hb hK hP hD hS 2 1 rfl rfl (z_vpin (by omega) (by omega)) dX12_measure_78 (fun H_30 locs hP hD hS => ?_)
                  obtain ⟨hP, hD⟩ := z_s_2 hP hD
                  generalize (upd fh2 (z_29 : Int32).toNatClampNeg p2) = f_31 at hP hD
                  refine lv_aload_n hx hb dX12_measure_79 rfl (lv_at hl 0 rfl) ?_
                  refine va_get (D := (dC, dI)) (ci := 12) (v := .ref h2) (C := RX12) (T := TX12) (N := 70) hx hb hts hiX12 hown hK hP 0 rfl rfl 42 (by decide) w__fieldLink_RX12_93_ShellHeapModel_shell_I_ (fun _ h9 => h9) rfl dX12_measure_80 ?_
                  refine lv_iconst (v := 3) hx hb dX12_measure_83 (by decide) ?_
                  refine lv_aload_n hx hb dX12_measure_84 rfl (lv_at hl 0 rfl) ?_
                  refine va_get (D := (dC, dI)) (ci := 12) (v := .int ms) (C := RX12) (T := TX12) (N := 70) hx hb hts hiX12 hown hK hP 0 rfl rfl 40 (by decide) w__fieldLink_RX12_311_ShellHeapModel_shells_I_ (fun _ h9 => h9) rfl dX12_measure_85 ?_
                  refine lv_imul hx hb dX12_measure_88 ?_
                  refine lv_topi (fun z_32 ez_32 => ?_)
                  have kz_32 : (z_32).toInt = (3 : Int) * (ms).toInt := by rw [ez_32]; exact z_mul (a := (3 : Int)) (b := (ms).toInt) rfl rfl (by omega) (by omega)
                  refine lv_iconst (v := 1) hx hb dX12_measure_89 (by decide) ?_
                  refine lv_iadd hx hb dX12_measure_90 ?_
                  refine lv_topi (fun z_33 ez_33 => ?_)
                  have kz_33 : (z_33).toInt = (z_32).toInt + (1 : Int) := by rw [ez_33]; exact z_add (a := (z_32).toInt) (b := (1 : Int)) rfl rfl (by omega) (by omega)
                  refine lv_iload_n hx hb dX12_measure_91 rfl (lv_at hl 3 rfl) ?_
                  refine va_iast hx hb hK hP hD hS 2 1 rfl rfl (z_vpin (by omega) (by omega)) dX12_measure_92 (fun H_34 locs hP hD hS => ?_)
                  obtain ⟨hP, hD⟩ := z_s_2 hP hD
                  generalize (upd f_31 (z_33 : Int32).toNatClampNeg p3) = f_35 at hP hD
                  refine lv_aload_n hx hb dX12_measure_93 rfl (lv_at hl 0 rfl) ?_
                  refine va_get (D := (dC, dI)) (ci := 12) (v := .ref h2) (C := RX12) (T := TX12) (N := 70) hx hb hts hiX12 hown hK hP 0 rfl rfl 42 (by decide) w__fieldLink_RX12_93_ShellHeapModel_shell_I_ (fun _ h9 => h9) rfl dX12_measure_94 ?_
                  refine lv_iconst (v := 3) hx hb dX12_measure_97 (by decide) ?_
                  refine lv_aload_n hx hb dX12_measure_98 rfl (lv_at hl 0 rfl) ?_
                  refine va_get (D := (dC, dI)) (ci := 12) (v := .int ms) (C := RX12) (T := TX12) (N := 70) hx hb hts hiX12 hown hK hP 0 rfl rfl 40 (by decide) w__fieldLink_RX12_311_ShellHeapModel_shells_I_ (fun _ h9 => h9) rfl dX12_measure_99 ?_
                  refine lv_imul hx hb dX12_measure_102 ?_
                  refine lv_topi (fun z_36 ez_36 => ?_)
                  have kz_36 : (z_36).toInt = (3 : Int) * (ms).toInt := by rw [ez_36]; exact z_mul (a := (3 : Int)) (b := (ms).toInt) rfl rfl (by omega) (by omega)
                  refine lv_iconst (v := 2) hx hb dX12_measure_103 (by decide) ?_
                  refine lv_iadd hx hb dX12_measure_104 ?_
                  refine lv_topi (fun z_37 ez_37 => ?_)
                  have kz_37 : (z_37).toInt = (z_36).toInt + (2 : Int) := by rw [ez_37]; exact z_add (a := (z_36).toInt) (b := (2 : Int)) rfl rfl (by omega) (by omega)
                  refine lv_iload hx hb dX12_measure_105 (lv_at hl 4 rfl) ?_
                  refine va_iast hx hb hK hP hD hS 2 1 rfl rfl (z_vpin (by omega) (by omega)) dX12_measure_107 (fun H_38 locs hP hD hS => ?_)
                  obtain ⟨hP, hD⟩ := z_s_2 hP hD
                  generalize (upd f_35 (z_37 : Int32).toNatClampNeg p4) = f_39 at hP hD
                  refine lv_aload_n hx hb dX12_measure_108 rfl (lv_at hl 0 rfl) ?_
                  refine lv_dup hx hb dX12_measure_109 rfl ?_
                  refine va_get (D := (dC, dI)) (ci := 12) (v := .int ms) (C := RX12) (T := TX12) (N := 70) hx hb hts hiX12 hown hK hP 0 rfl rfl 40 (by decide) w__fieldLink_RX12_311_ShellHeapModel_shells_I_ (fun _ h9 => h9) rfl dX12_measure_110 ?_
                  refine lv_iconst (v := 1) hx hb dX12_measure_113 (by decide) ?_
                  refine lv_iadd hx hb dX12_measure_114 ?_
                  refine lv_topi (fun z_40 ez_40 => ?_)
                  have kz_40 : (z_40).toInt = (ms).toInt + (1 : Int) := by rw [ez_40]; exact z_add (a := (ms).toInt) (b := (1 : Int)) rfl rfl (z_al hB_ms.1 (by decide)) (z_ah hB_ms.2 (by decide))
                  refine va_put (D := (dC, dI)) (ci := 12) (v := .int z_40) (ty := .int) (C := RX12) (T := TX12) (N := 70) hx hb hts hiX12 tyX12 tyX12_ok nmX12 hown hK hP hD hS 0 rfl rfl 40 (by decide) w__fieldLink_RX12_311_ShellHeapModel_shells_I_ (fun _ h9 => h9) rfl (by decide +kernel) rfl rfl (Nat.le_of_ble_eq_true rfl) dX12_measure_115 (fun H_41 locs hP hD hS => ?_)
                  obtain ⟨hP, hD⟩ := z_s_0_40 hP hD
                  refine lv_aload_n hx hb dX12_measure_118 rfl (lv_at hl 0 rfl) ?_
                  refine va_get (D := (dC, dI)) (ci := 12) (v := .int z_40) (C := RX12) (T := TX12) (N := 70) hx hb hts hiX12 hown hK hP 0 rfl rfl 40 (by decide) w__fieldLink_RX12_311_ShellHeapModel_shells_I_ (fun _ h9 => h9) rfl dX12_measure_119 ?_
                  have hP9 := hP
                  have hD9 := hD
                  have hK9 := hK.sub (tys' := []) [] rfl
                  refine W.widen (k := 0) (n := 0) (Nat.le_of_ble_eq_true rfl) (Nat.le_of_ble_eq_true rfl) ?_
                  exact W.iret (v := z_40) hx hb hr (fun t ht hW => ⟨⟨z_40, (), rfl, trivial, ⟨0, z_40, f_28, f_39, (by first | omega | decide), hI_f_28, by rw [ht]; exact hP9, va_K.moved hW.alike hK9, hD9⟩⟩, hS.F ht⟩) hS.2.2 dX12_measure_122
                · have k_42 : (p4).toInt > (99 : Int) := z_nle c_25
                  refine lv_iconst (v := (-1)) hx hb dX12_measure_55 (by decide) ?_
                  have hP9 := hP
                  have hD9 := hD
                  have hK9 := hK.sub (tys' := []) [] rfl
                  refine W.widen (k := 0) (n := 0) (Nat.le_of_ble_eq_true rfl) (Nat.le_of_ble_eq_true rfl) ?_
                  exact W.iret (v := (-1)) hx hb hr (fun t ht hW => ⟨⟨(-1), (), rfl, trivial, ⟨0, ms, fh1, fh2, hB_ms, hI_h1, by rw [ht]; exact hP9, va_K.moved hW.alike hK9, hD9⟩⟩, hS.F ht⟩) hS.2.2 dX12_measure_56
  · have hw_4 : True := hw_4
    refine lv_if_eq (tgt := 55) hx hb dX12_measure_10 (by decide) (fun _ => ?_) (fun c_43 => absurd (by decide) c_43)
    refine lv_iconst (v := (-1)) hx hb dX12_measure_55 (by decide) ?_
    have hP9 := hP
    have hD9 := hD
    have hK9 := hK.sub (tys' := []) [] rfl
    refine W.widen (k := 0) (n := 0) (Nat.le_of_ble_eq_true rfl) (Nat.le_of_ble_eq_true rfl) ?_
    exact W.iret (v := (-1)) hx hb hr (fun t ht hW => ⟨⟨(-1), (), rfl, trivial, ⟨0, ms, fh1, fh2, hB_ms, hI_h1, by rw [ht]; exact hP9, va_K.moved hW.alike hK9, hD9⟩⟩, hS.F ht⟩) hS.2.2 dX12_measure_56
def u_s_X12_reads : List Cond := .code yX12_reads cX12_reads 8 (some .boolean) :: ([.fieldLink RX12 145 "ShellHeapModel" "thrown" "I", .methodLink RX12 288 yX12_isReader, .static yX12_isReader, .initialized RX12, .fieldLink RX12 78 "ShellHeapModel" "reads" "[I"] ++ (wsX120 ++ (u_s_X12_isReader ++ [])))
set_option maxRecDepth 20000 in
theorem gw_s_X12_reads_s_X12_isReader_288 : GoodIn u_s_X12_reads (va_wsS RX12 288 yX12_isReader u_s_X12_isReader) := z_gS (z_gr _ [2, 3, 4] rfl (by decide +kernel)) (fun w h => ⟨z_mc (z_mr (z_mr (z_ml h))), gd_s_X12_isReader w h⟩)
set_option maxHeartbeats 4000000 in
set_option maxRecDepth 100000 in
theorem s_X12_reads (l : Launch) (dC : Nat → ClassId) (dI : Nat → Nat → Nat) (sz : Nat) (h0 : Nat) (p1 : Int32) (p2 : Int32) (p3 : Int32) (p4 : Int32) (p5 : Int32) (p6 : Int32) (h0_0 : Value) (h0_1 : Value) (mx : Int32) (h0_3 : Value) (h0_4 : Value) (h0_5 : Value) (h0_6 : Value) (h0_7 : Value) (h0_8 : Value) (h0_9 : Value) (h0_10 : Value) (h0_11 : Value) (h0_12 : Value) (h0_13 : Value) (h0_14 : Value) (h0_15 : Value) (h0_16 : Value) (h0_17 : Value) (h0_18 : Value) (h0_19 : Value) (h0_20 : Value) (h0_21 : Value) (h0_22 : Value) (h0_23 : Value) (h0_24 : Value) (h0_25 : Value) (h0_26 : Value) (h0_27 : Value) (h0_28 : Value) (h0_29 : Value) (h0_30 : Value) (h0_31 : Value) (h0_32 : Value) (h0_33 : Value) (h0_34 : Value) (h1 : Nat) (h0_36 : Value) (h0_37 : Value) (h0_38 : Value) (h0_39 : Value) (h0_40 : Value) (h0_41 : Value) (h0_42 : Value) (h0_43 : Value) (h0_44 : Value) (h0_45 : Value) (h0_46 : Value) (h0_47 : Value) (h0_48 : Value) (h0_49 : Value) (h0_50 : Value) (h0_51 : Value) (h0_52 : Value) (h0_53 : Value) (h0_54 : Value) (h0_55 : Value) (h0_56 : Value) (h0_57 : Value) (h0_58 : Value) (h0_59 : Value) (h0_60 : Value) (h0_61 : Value) (h0_62 : Value) (h0_63 : Value) (h0_64 : Value) (h0_65 : Value) (h0_66 : Value) (h0_67 : Value) (h0_68 : Value) (h0_69 : Value) (ch1 : ClassId) (fh1 : Nat → Int32) : Met l yX12_reads u_s_X12_reads ({ frames := 1, cells := 0, slots := 0, locals := 20 }) (va_Pc [.ref h0, .int p1, .int p2, .int p3, .int p4, .int p5, .int p6] (z_C (dC, dI) vwCl [(h0, .inr (12, [h0_0, h0_1, .int mx, h0_3, h0_4, h0_5, h0_6, h0_7, h0_8, h0_9, h0_10, h0_11, h0_12, h0_13, h0_14, h0_15, h0_16, h0_17, h0_18, h0_19, h0_20, h0_21, h0_22, h0_23, h0_24, h0_25, h0_26, h0_27, h0_28, h0_29, h0_30, h0_31, h0_32, h0_33, h0_34, .ref h1, h0_36, h0_37, h0_38, h0_39, h0_40, h0_41, h0_42, h0_43, h0_44, h0_45, h0_46, h0_47, h0_48, h0_49, h0_50, h0_51, h0_52, h0_53, h0_54, h0_55, h0_56, h0_57, h0_58, h0_59, h0_60, h0_61, h0_62, h0_63, h0_64, h0_65, h0_66, h0_67, h0_68, h0_69])), (h1, .inl (ch1, 48, .inl fh1))] [(ch1, .int)] sz)) (va_Qi (fun (r : Int32) (_ : Unit) => ((0 : Int) ≤ (r).toInt ∧ (r).toInt ≤ (1 : Int))) (fun (_ : Unit) (t : State) => ∃ (n_h0_thrown : Int32), ∃ (g_h1 : Nat → Int32), va_P (dC, dI) vwCl [(h0, .inr (12, [h0_0, h0_1, .int n_h0_thrown, h0_3, h0_4, h0_5, h0_6, h0_7, h0_8, h0_9, h0_10, h0_11, h0_12, h0_13, h0_14, h0_15, h0_16, h0_17, h0_18, h0_19, h0_20, h0_21, h0_22, h0_23, h0_24, h0_25, h0_26, h0_27, h0_28, h0_29, h0_30, h0_31, h0_32, h0_33, h0_34, .ref h1, h0_36, h0_37, h0_38, h0_39, h0_40, h0_41, h0_42, h0_43, h0_44, h0_45, h0_46, h0_47, h0_48, h0_49, h0_50, h0_51, h0_52, h0_53, h0_54, h0_55, h0_56, h0_57, h0_58, h0_59, h0_60, h0_61, h0_62, h0_63, h0_64, h0_65, h0_66, h0_67, h0_68, h0_69])), (h1, .inl (ch1, 48, .inl g_h1))] t.heap ∧ va_K (dC, dI) vwCl [] t ∧ va_D (va_A [(h0, .inr (12, [h0_0, h0_1, .int mx, h0_3, h0_4, h0_5, h0_6, h0_7, h0_8, h0_9, h0_10, h0_11, h0_12, h0_13, h0_14, h0_15, h0_16, h0_17, h0_18, h0_19, h0_20, h0_21, h0_22, h0_23, h0_24, h0_25, h0_26, h0_27, h0_28, h0_29, h0_30, h0_31, h0_32, h0_33, h0_34, .ref h1, h0_36, h0_37, h0_38, h0_39, h0_40, h0_41, h0_42, h0_43, h0_44, h0_45, h0_46, h0_47, h0_48, h0_49, h0_50, h0_51, h0_52, h0_53, h0_54, h0_55, h0_56, h0_57, h0_58, h0_59, h0_60, h0_61, h0_62, h0_63, h0_64, h0_65, h0_66, h0_67, h0_68, h0_69])), (h1, .inl (ch1, 48, .inl fh1))] sz) [(h0, .inr (12, [h0_0, h0_1, .int n_h0_thrown, h0_3, h0_4, h0_5, h0_6, h0_7, h0_8, h0_9, h0_10, h0_11, h0_12, h0_13, h0_14, h0_15, h0_16, h0_17, h0_18, h0_19, h0_20, h0_21, h0_22, h0_23, h0_24, h0_25, h0_26, h0_27, h0_28, h0_29, h0_30, h0_31, h0_32, h0_33, h0_34, .ref h1, h0_36, h0_37, h0_38, h0_39, h0_40, h0_41, h0_42, h0_43, h0_44, h0_45, h0_46, h0_47, h0_48, h0_49, h0_50, h0_51, h0_52, h0_53, h0_54, h0_55, h0_56, h0_57, h0_58, h0_59, h0_60, h0_61, h0_62, h0_63, h0_64, h0_65, h0_66, h0_67, h0_68, h0_69])), (h1, .inl (ch1, 48, .inl g_h1))]) (va_A [(h0, .inr (12, [h0_0, h0_1, .int mx, h0_3, h0_4, h0_5, h0_6, h0_7, h0_8, h0_9, h0_10, h0_11, h0_12, h0_13, h0_14, h0_15, h0_16, h0_17, h0_18, h0_19, h0_20, h0_21, h0_22, h0_23, h0_24, h0_25, h0_26, h0_27, h0_28, h0_29, h0_30, h0_31, h0_32, h0_33, h0_34, .ref h1, h0_36, h0_37, h0_38, h0_39, h0_40, h0_41, h0_42, h0_43, h0_44, h0_45, h0_46, h0_47, h0_48, h0_49, h0_50, h0_51, h0_52, h0_53, h0_54, h0_55, h0_56, h0_57, h0_58, h0_59, h0_60, h0_61, h0_62, h0_63, h0_64, h0_65, h0_66, h0_67, h0_68, h0_69])), (h1, .inl (ch1, 48, .inl fh1))] sz)) 0 0 (va_A [(h0, .inr (12, [h0_0, h0_1, .int mx, h0_3, h0_4, h0_5, h0_6, h0_7, h0_8, h0_9, h0_10, h0_11, h0_12, h0_13, h0_14, h0_15, h0_16, h0_17, h0_18, h0_19, h0_20, h0_21, h0_22, h0_23, h0_24, h0_25, h0_26, h0_27, h0_28, h0_29, h0_30, h0_31, h0_32, h0_33, h0_34, .ref h1, h0_36, h0_37, h0_38, h0_39, h0_40, h0_41, h0_42, h0_43, h0_44, h0_45, h0_46, h0_47, h0_48, h0_49, h0_50, h0_51, h0_52, h0_53, h0_54, h0_55, h0_56, h0_57, h0_58, h0_59, h0_60, h0_61, h0_62, h0_63, h0_64, h0_65, h0_66, h0_67, h0_68, h0_69])), (h1, .inl (ch1, 48, .inl fh1))] sz) := by
  refine Met.ofW (cc := cX12_reads) (maxL := 8) (ret := (some .boolean)) (by decide) rfl ?_
  intro p e s m args below meth c s₁ B hml hv
  obtain ⟨rfl, hsz, hP, hK, hD0⟩ := hv
  have hx := B.exec
  have hb := B.bytes
  have hr := B.returns
  have hts := atoms_spec (ws := u_s_X12_reads) B.pre
  have hown : s.vm.findClass RX12 = some m.cls := findClass_of_methodNamed B.named
  have hlocks := B.notSynchronized
  subst hsz
  have hD := hD0.self (sz := s.heap.size)
  generalize hAe : va_A [(h0, .inr (12, [h0_0, h0_1, .int mx, h0_3, h0_4, h0_5, h0_6, h0_7, h0_8, h0_9, h0_10, h0_11, h0_12, h0_13, h0_14, h0_15, h0_16, h0_17, h0_18, h0_19, h0_20, h0_21, h0_22, h0_23, h0_24, h0_25, h0_26, h0_27, h0_28, h0_29, h0_30, h0_31, h0_32, h0_33, h0_34, .ref h1, h0_36, h0_37, h0_38, h0_39, h0_40, h0_41, h0_42, h0_43, h0_44, h0_45, h0_46, h0_47, h0_48, h0_49, h0_50, h0_51, h0_52, h0_53, h0_54, h0_55, h0_56, h0_57, h0_58, h0_59, h0_60, h0_61, h0_62, h0_63, h0_64, h0_65, h0_66, h0_67, h0_68, h0_69])), (h1, .inl (ch1, 48, .inl fh1))] s.heap.size = A at hD ⊢
  have hA : ∀ q : Nat, s.heap.size ≤ q → A q := fun q h => by rw [← hAe]; exact Or.inr h
  have hS : va_S A s.heap s.heap [] := va_S.rf
  have hP : va_P (dC, dI) vwCl [(h0, .inr (12, [h0_0, h0_1, .int mx, h0_3, h0_4, h0_5, h0_6, h0_7, h0_8, h0_9, h0_10, h0_11, h0_12, h0_13, h0_14, h0_15, h0_16, h0_17, h0_18, h0_19, h0_20, h0_21, h0_22, h0_23, h0_24, h0_25, h0_26, h0_27, h0_28, h0_29, h0_30, h0_31, h0_32, h0_33, h0_34, .ref h1, h0_36, h0_37, h0_38, h0_39, h0_40, h0_41, h0_42, h0_43, h0_44, h0_45, h0_46, h0_47, h0_48, h0_49, h0_50, h0_51, h0_52, h0_53, h0_54, h0_55, h0_56, h0_57, h0_58, h0_59, h0_60, h0_61, h0_62, h0_63, h0_64, h0_65, h0_66, h0_67, h0_68, h0_69])), (h1, .inl (ch1, 48, .inl fh1))] s.heap := hP
  have w__fieldLink_RX12_145_ShellHeapModel_thrown_I_ := hts (.fieldLink RX12 145 "ShellHeapModel" "thrown" "I") (z_mc (z_ml z_m0))
  have hiX12 := show ∀ w ∈ u_ws RX12 TX12 70, w ∈ u_s_X12_reads from fun w h => z_mc (z_mr (z_ml h))
  have w__fieldLink_RX12_78_ShellHeapModel_reads_I_ := hts (.fieldLink RX12 78 "ShellHeapModel" "reads" "[I") (z_mc (z_ml z_m4))
  have krr_p1 := z_rng p1
  have krr_p2 := z_rng p2
  have krr_p3 := z_rng p3
  have krr_p4 := z_rng p4
  have krr_p5 := z_rng p5
  have krr_p6 := z_rng p6
  have hl := lv_entry ([.ref h0, .int p1, .int p2, .int p3, .int p4, .int p5, .int p6]) (n := 8) (Nat.le_of_ble_eq_true rfl)
  rw [lg_entry_eq]
  generalize (lg_sl ([.ref h0, .int p1, .int p2, .int p3, .int p4, .int p5, .int p6]) ++ List.replicate (8 - (lg_sl ([.ref h0, .int p1, .int p2, .int p3, .int p4, .int p5, .int p6])).length) Slot.unset).toArray = ls at hl ⊢
  have hl : lv_has ls 8 [(0, .ref h0), (1, .int p1), (2, .int p2), (3, .int p3), (4, .int p4), (5, .int p5), (6, .int p6)] := hl
  refine lv_aload_n hx hb dX12_reads_0 rfl (lv_at hl 0 rfl) ?_
  refine lv_iconst (v := 0) hx hb dX12_reads_1 (by decide) ?_
  refine va_put (D := (dC, dI)) (ci := 12) (v := .int 0) (ty := .int) (C := RX12) (T := TX12) (N := 70) hx hb hts hiX12 tyX12 tyX12_ok nmX12 hown hK hP hD hS 0 rfl rfl 2 (by decide) w__fieldLink_RX12_145_ShellHeapModel_thrown_I_ (fun _ h9 => h9) rfl (by decide +kernel) rfl rfl (Nat.le_of_ble_eq_true rfl) dX12_reads_2 (fun H_1 locs hP hD hS => ?_)
  obtain ⟨hP, hD⟩ := z_s_0_2 hP hD
  refine lv_iload_n hx hb dX12_reads_5 rfl (lv_at hl 1 rfl) ?_
  obtain ⟨hPc, hDc⟩ := z_sub2 (ws' := []) hP hD [] (by decide) rfl
  have hKc := hK.sub (tys' := []) [] rfl
  have hFc := va_free (ws := []) (wc := []) (z_D0 _) hS hA [] rfl
  refine va_calli (va_runS (As := [.int p1]) (rest := []) ⟨hx, hb, hml, hown, hts⟩ (s_X12_isReader l dC dI H_1.size p1) (va_cwS 1 hts gw_s_X12_reads_s_X12_isReader_288 rfl rfl rfl (by decide +kernel) ⟨Nat.le_of_ble_eq_true rfl, Nat.le_of_ble_eq_true rfl⟩) ⟨z_blind, z_pre hPc hKc hDc⟩ rfl rfl hl.1 rfl (lv_room (Nat.le_of_ble_eq_true rfl)) dX12_reads_6 ⟨Nat.le_of_ble_eq_true rfl, Nat.le_of_ble_eq_true rfl⟩) hS (fun q _ h => hFc q h) hFc (fun r_3 u t H_2 locs ht hvm hw_4 hB hz1 hk1 hS => ?_)
  replace hP := z_pure hP hk1
  clear hPc hDc hKc
  rcases hw_4 with ⟨rfl, hw_4⟩ | ⟨rfl, hw_4⟩
  · have hw_4 : (0 ≤ p1.toInt ∧ p1.toInt < 3) := hw_4
    refine lv_if_eq (tgt := 82) hx hb dX12_reads_9 (by decide) (fun c_5 => absurd c_5 (by decide)) (fun _ => ?_)
    refine lv_iload_n hx hb dX12_reads_12 rfl (lv_at hl 2 rfl) ?_
    refine lv_if_lt (tgt := 82) hx hb dX12_reads_13 (by decide) (fun c_6 => ?_) (fun c_6 => ?_)
    · have k_7 : (p2).toInt < (0 : Int) := z_lt c_6
      refine lv_iconst (v := 0) hx hb dX12_reads_82 (by decide) ?_
      have hP9 := hP
      have hD9 := hD
      have hK9 := hK.sub (tys' := []) [] rfl
      refine W.widen (k := 0) (n := 0) (Nat.le_of_ble_eq_true rfl) (Nat.le_of_ble_eq_true rfl) ?_
      exact W.zret (v := 0) hx hb hr (by rfl) (fun t ht hW => ⟨⟨0, (), rfl, (show ((0 : Int) ≤ (0 : Int) ∧ (0 : Int) ≤ (1 : Int)) by decide), ⟨0, fh1, by rw [ht]; exact hP9, va_K.moved hW.alike hK9, hD9⟩⟩, hS.F ht⟩) hS.2.2 dX12_reads_83
    · have k_8 : (p2).toInt ≥ (0 : Int) := z_nlt c_6
      refine lv_iload_n hx hb dX12_reads_16 rfl (lv_at hl 2 rfl) ?_
      refine lv_iconst (v := 3) hx hb dX12_reads_17 (by decide) ?_
      refine lv_icmp_gt (tgt := 82) hx hb dX12_reads_18 (by decide) (fun c_9 => ?_) (fun c_9 => ?_)
      · have k_10 : (3 : Int) < (p2).toInt := z_lt c_9
        refine lv_iconst (v := 0) hx hb dX12_reads_82 (by decide) ?_
        have hP9 := hP
        have hD9 := hD
        have hK9 := hK.sub (tys' := []) [] rfl
        refine W.widen (k := 0) (n := 0) (Nat.le_of_ble_eq_true rfl) (Nat.le_of_ble_eq_true rfl) ?_
        exact W.zret (v := 0) hx hb hr (by rfl) (fun t ht hW => ⟨⟨0, (), rfl, (show ((0 : Int) ≤ (0 : Int) ∧ (0 : Int) ≤ (1 : Int)) by decide), ⟨0, fh1, by rw [ht]; exact hP9, va_K.moved hW.alike hK9, hD9⟩⟩, hS.F ht⟩) hS.2.2 dX12_reads_83
      · have k_11 : (3 : Int) ≥ (p2).toInt := z_nlt c_9
        refine lv_iload_n hx hb dX12_reads_21 rfl (lv_at hl 3 rfl) ?_
        refine lv_if_lt (tgt := 82) hx hb dX12_reads_22 (by decide) (fun c_12 => ?_) (fun c_12 => ?_)
        · have k_13 : (p3).toInt < (0 : Int) := z_lt c_12
          refine lv_iconst (v := 0) hx hb dX12_reads_82 (by decide) ?_
          have hP9 := hP
          have hD9 := hD
          have hK9 := hK.sub (tys' := []) [] rfl
          refine W.widen (k := 0) (n := 0) (Nat.le_of_ble_eq_true rfl) (Nat.le_of_ble_eq_true rfl) ?_
          exact W.zret (v := 0) hx hb hr (by rfl) (fun t ht hW => ⟨⟨0, (), rfl, (show ((0 : Int) ≤ (0 : Int) ∧ (0 : Int) ≤ (1 : Int)) by decide), ⟨0, fh1, by rw [ht]; exact hP9, va_K.moved hW.alike hK9, hD9⟩⟩, hS.F ht⟩) hS.2.2 dX12_reads_83
        · have k_14 : (p3).toInt ≥ (0 : Int) := z_nlt c_12
          refine lv_iload hx hb dX12_reads_25 (lv_at hl 4 rfl) ?_
          refine lv_if_lt (tgt := 82) hx hb dX12_reads_27 (by decide) (fun c_15 => ?_) (fun c_15 => ?_)
          · have k_16 : (p4).toInt < (0 : Int) := z_lt c_15
            refine lv_iconst (v := 0) hx hb dX12_reads_82 (by decide) ?_
            have hP9 := hP
            have hD9 := hD
            have hK9 := hK.sub (tys' := []) [] rfl
            refine W.widen (k := 0) (n := 0) (Nat.le_of_ble_eq_true rfl) (Nat.le_of_ble_eq_true rfl) ?_
            exact W.zret (v := 0) hx hb hr (by rfl) (fun t ht hW => ⟨⟨0, (), rfl, (show ((0 : Int) ≤ (0 : Int) ∧ (0 : Int) ≤ (1 : Int)) by decide), ⟨0, fh1, by rw [ht]; exact hP9, va_K.moved hW.alike hK9, hD9⟩⟩, hS.F ht⟩) hS.2.2 dX12_reads_83
          · have k_17 : (p4).toInt ≥ (0 : Int) := z_nlt c_15
            refine lv_iload hx hb dX12_reads_30 (lv_at hl 5 rfl) ?_
            refine lv_if_lt (tgt := 82) hx hb dX12_reads_32 (by decide) (fun c_18 => ?_) (fun c_18 => ?_)
            · have k_19 : (p5).toInt < (0 : Int) := z_lt c_18
              refine lv_iconst (v := 0) hx hb dX12_reads_82 (by decide) ?_
              have hP9 := hP
              have hD9 := hD
              have hK9 := hK.sub (tys' := []) [] rfl
              refine W.widen (k := 0) (n := 0) (Nat.le_of_ble_eq_true rfl) (Nat.le_of_ble_eq_true rfl) ?_
              exact W.zret (v := 0) hx hb hr (by rfl) (fun t ht hW => ⟨⟨0, (), rfl, (show ((0 : Int) ≤ (0 : Int) ∧ (0 : Int) ≤ (1 : Int)) by decide), ⟨0, fh1, by rw [ht]; exact hP9, va_K.moved hW.alike hK9, hD9⟩⟩, hS.F ht⟩) hS.2.2 dX12_reads_83
            · have k_20 : (p5).toInt ≥ (0 : Int) := z_nlt c_18
              refine lv_iload hx hb dX12_reads_35 (lv_at hl 6 rfl) ?_
              refine lv_if_lt (tgt := 82) hx hb dX12_reads_37 (by decide) (fun c_21 => ?_) (fun c_21 => ?_)
              · have k_22 : (p6).toInt < (0 : Int) := z_lt c_21
                refine lv_iconst (v := 0) hx hb dX12_reads_82 (by decide) ?_
                have hP9 := hP
                have hD9 := hD
                have hK9 := hK.sub (tys' := []) [] rfl
                refine W.widen (k := 0) (n := 0) (Nat.le_of_ble_eq_true rfl) (Nat.le_of_ble_eq_true rfl) ?_
                exact W.zret (v := 0) hx hb hr (by rfl) (fun t ht hW => ⟨⟨0, (), rfl, (show ((0 : Int) ≤ (0 : Int) ∧ (0 : Int) ≤ (1 : Int)) by decide), ⟨0, fh1, by rw [ht]; exact hP9, va_K.moved hW.alike hK9, hD9⟩⟩, hS.F ht⟩) hS.2.2 dX12_reads_83
              · have k_23 : (p6).toInt ≥ (0 : Int) := z_nlt c_21
                refine lv_iload_n hx hb dX12_reads_40 rfl (lv_at hl 3 rfl) ?_
                refine lv_bipush (v := 16) hx hb dX12_reads_41 (by decide) ?_
                refine lv_icmp_gt (tgt := 82) hx hb dX12_reads_43 (by decide) (fun c_24 => ?_) (fun c_24 => ?_)
                · have k_25 : (16 : Int) < (p3).toInt := z_lt c_24
                  refine lv_iconst (v := 0) hx hb dX12_reads_82 (by decide) ?_
                  have hP9 := hP
                  have hD9 := hD
                  have hK9 := hK.sub (tys' := []) [] rfl
                  refine W.widen (k := 0) (n := 0) (Nat.le_of_ble_eq_true rfl) (Nat.le_of_ble_eq_true rfl) ?_
                  exact W.zret (v := 0) hx hb hr (by rfl) (fun t ht hW => ⟨⟨0, (), rfl, (show ((0 : Int) ≤ (0 : Int) ∧ (0 : Int) ≤ (1 : Int)) by decide), ⟨0, fh1, by rw [ht]; exact hP9, va_K.moved hW.alike hK9, hD9⟩⟩, hS.F ht⟩) hS.2.2 dX12_reads_83
                · have k_26 : (16 : Int) ≥ (p3).toInt := z_nlt c_24
                  refine lv_iload hx hb dX12_reads_46 (lv_at hl 4 rfl) ?_
                  refine lv_bipush (v := 16) hx hb dX12_reads_48 (by decide) ?_
                  refine lv_icmp_gt (tgt := 82) hx hb dX12_reads_50 (by decide) (fun c_27 => ?_) (fun c_27 => ?_)
                  · have k_28 : (16 : Int) < (p4).toInt := z_lt c_27
                    refine lv_iconst (v := 0) hx hb dX12_reads_82 (by decide) ?_
                    have hP9 := hP
                    have hD9 := hD
                    have hK9 := hK.sub (tys' := []) [] rfl
                    refine W.widen (k := 0) (n := 0) (Nat.le_of_ble_eq_true rfl) (Nat.le_of_ble_eq_true rfl) ?_
                    exact W.zret (v := 0) hx hb hr (by rfl) (fun t ht hW => ⟨⟨0, (), rfl, (show ((0 : Int) ≤ (0 : Int) ∧ (0 : Int) ≤ (1 : Int)) by decide), ⟨0, fh1, by rw [ht]; exact hP9, va_K.moved hW.alike hK9, hD9⟩⟩, hS.F ht⟩) hS.2.2 dX12_reads_83
                  · have k_29 : (16 : Int) ≥ (p4).toInt := z_nlt c_27
                    refine lv_iload hx hb dX12_reads_53 (lv_at hl 5 rfl) ?_
                    refine lv_bipush (v := 16) hx hb dX12_reads_55 (by decide) ?_
                    refine lv_icmp_gt (tgt := 82) hx hb dX12_reads_57 (by decide) (fun c_30 => ?_) (fun c_30 => ?_)
                    · have k_31 : (16 : Int) < (p5).toInt := z_lt c_30
                      refine lv_iconst (v := 0) hx hb dX12_reads_82 (by decide) ?_
                      have hP9 := hP
                      have hD9 := hD
                      have hK9 := hK.sub (tys' := []) [] rfl
                      refine W.widen (k := 0) (n := 0) (Nat.le_of_ble_eq_true rfl) (Nat.le_of_ble_eq_true rfl) ?_
                      exact W.zret (v := 0) hx hb hr (by rfl) (fun t ht hW => ⟨⟨0, (), rfl, (show ((0 : Int) ≤ (0 : Int) ∧ (0 : Int) ≤ (1 : Int)) by decide), ⟨0, fh1, by rw [ht]; exact hP9, va_K.moved hW.alike hK9, hD9⟩⟩, hS.F ht⟩) hS.2.2 dX12_reads_83
                    · have k_32 : (16 : Int) ≥ (p5).toInt := z_nlt c_30
                      refine lv_iload hx hb dX12_reads_60 (lv_at hl 6 rfl) ?_
                      refine lv_bipush (v := 16) hx hb dX12_reads_62 (by decide) ?_
                      refine lv_icmp_gt (tgt := 82) hx hb dX12_reads_64 (by decide) (fun c_33 => ?_) (fun c_33 => ?_)
                      · have k_34 : (16 : Int) < (p6).toInt := z_lt c_33
                        refine lv_iconst (v := 0) hx hb dX12_reads_82 (by decide) ?_
                        have hP9 := hP
                        have hD9 := hD
                        have hK9 := hK.sub (tys' := []) [] rfl
                        refine W.widen (k := 0) (n := 0) (Nat.le_of_ble_eq_true rfl) (Nat.le_of_ble_eq_true rfl) ?_
                        exact W.zret (v := 0) hx hb hr (by rfl) (fun t ht hW => ⟨⟨0, (), rfl, (show ((0 : Int) ≤ (0 : Int) ∧ (0 : Int) ≤ (1 : Int)) by decide), ⟨0, fh1, by rw [ht]; exact hP9, va_K.moved hW.alike hK9, hD9⟩⟩, hS.F ht⟩) hS.2.2 dX12_reads_83
                      · have k_35 : (16 : Int) ≥ (p6).toInt := z_nlt c_33
                        refine lv_iload_n hx hb dX12_reads_67 rfl (lv_at hl 3 rfl) ?_
                        refine lv_iload hx hb dX12_reads_68 (lv_at hl 4 rfl) ?_
                        refine lv_iadd hx hb dX12_reads_70 ?_
                        refine lv_topi (fun z_36 ez_36 => ?_)
                        have kz_36 : (z_36).toInt = (p3).toInt + (p4).toInt := by rw [ez_36]; exact z_add (a := (p3).toInt) (b := (p4).toInt) rfl rfl (by omega) (by omega)
                        refine lv_iload hx hb dX12_reads_71 (lv_at hl 5 rfl) ?_
                        refine lv_iadd hx hb dX12_reads_73 ?_
                        refine lv_topi (fun z_37 ez_37 => ?_)
                        have kz_37 : (z_37).toInt = (z_36).toInt + (p5).toInt := by rw [ez_37]; exact z_add (a := (z_36).toInt) (b := (p5).toInt) rfl rfl (by omega) (by omega)
                        refine lv_iload hx hb dX12_reads_74 (lv_at hl 6 rfl) ?_
                        refine lv_iadd hx hb dX12_reads_76 ?_
                        refine lv_topi (fun z_38 ez_38 => ?_)
                        have kz_38 : (z_38).toInt = (z_37).toInt + (p6).toInt := by rw [ez_38]; exact z_add (a := (z_37).toInt) (b := (p6).toInt) rfl rfl (by omega) (by omega)
                        refine lv_bipush (v := 16) hx hb dX12_reads_77 (by decide) ?_
                        refine lv_icmp_eq (tgt := 84) hx hb dX12_reads_79 (by decide) (fun c_39 => ?_) (fun c_39 => ?_)
                        · have k_40 : (z_38).toInt = (16 : Int) := z_eq c_39
                          obtain rfl : z_38 = 16 := z_eq' (show (z_38).toInt = (16 : Int) by omega)
                          refine lv_bipush (v := 16) hx hb dX12_reads_84 (by decide) ?_
                          refine lv_iload_n hx hb dX12_reads_86 rfl (lv_at hl 1 rfl) ?_
                          refine lv_imul hx hb dX12_reads_87 ?_
                          refine lv_topi (fun z_42 ez_42 => ?_)
                          have kz_42 : (z_42).toInt = (16 : Int) * (p1).toInt := by rw [ez_42]; exact z_mul (a := (16 : Int)) (b := (p1).toInt) rfl rfl (by omega) (by omega)
                          refine lv_iconst (v := 4) hx hb dX12_reads_88 (by decide) ?_
                          refine lv_iload_n hx hb dX12_reads_89 rfl (lv_at hl 2 rfl) ?_
                          refine lv_imul hx hb dX12_reads_90 ?_
                          refine lv_topi (fun z_43 ez_43 => ?_)
                          have kz_43 : (z_43).toInt = (4 : Int) * (p2).toInt := by rw [ez_43]; exact z_mul (a := (4 : Int)) (b := (p2).toInt) rfl rfl (by omega) (by omega)
                          refine lv_iadd hx hb dX12_reads_91 ?_
                          refine lv_topi (fun z_44 ez_44 => ?_)
                          have kz_44 : (z_44).toInt = (z_42).toInt + (z_43).toInt := by rw [ez_44]; exact z_add (a := (z_42).toInt) (b := (z_43).toInt) rfl rfl (by omega) (by omega)
                          refine lv_istore (lv' := [(7, .int z_44), (0, .ref h0), (1, .int p1), (2, .int p2), (3, .int p3), (4, .int p4), (5, .int p5), (6, .int p6)]) hx hb dX12_reads_92 hl (by decide) rfl (fun ls hl => ?_)
                          refine lv_aload_n hx hb dX12_reads_94 rfl (lv_at hl 1 rfl) ?_
                          refine va_get (D := (dC, dI)) (ci := 12) (v := .ref h1) (C := RX12) (T := TX12) (N := 70) hx hb hts hiX12 hown hK hP 0 rfl rfl 35 (by decide) w__fieldLink_RX12_78_ShellHeapModel_reads_I_ (fun _ h9 => h9) rfl dX12_reads_95 ?_
                          refine lv_iload hx hb dX12_reads_98 (lv_at hl 0 rfl) ?_
                          refine lv_iload_n hx hb dX12_reads_100 rfl (lv_at hl 4 rfl) ?_
                          refine va_iast hx hb hK hP hD hS 1 0 rfl rfl (z_vpin (by omega) (by omega)) dX12_reads_101 (fun H_45 locs hP hD hS => ?_)
                          obtain ⟨hP, hD⟩ := z_s_1 hP hD
                          generalize (upd fh1 (z_44 : Int32).toNatClampNeg p3) = f_46 at hP hD
                          refine lv_aload_n hx hb dX12_reads_102 rfl (lv_at hl 1 rfl) ?_
                          refine va_get (D := (dC, dI)) (ci := 12) (v := .ref h1) (C := RX12) (T := TX12) (N := 70) hx hb hts hiX12 hown hK hP 0 rfl rfl 35 (by decide) w__fieldLink_RX12_78_ShellHeapModel_reads_I_ (fun _ h9 => h9) rfl dX12_reads_103 ?_
                          refine lv_iload hx hb dX12_reads_106 (lv_at hl 0 rfl) ?_
                          refine lv_iconst (v := 1) hx hb dX12_reads_108 (by decide) ?_
                          refine lv_iadd hx hb dX12_reads_109 ?_
                          refine lv_topi (fun z_47 ez_47 => ?_)
                          have kz_47 : (z_47).toInt = (z_44).toInt + (1 : Int) := by rw [ez_47]; exact z_add (a := (z_44).toInt) (b := (1 : Int)) rfl rfl (by omega) (by omega)
                          refine lv_iload hx hb dX12_reads_110 (lv_at hl 5 rfl) ?_
                          refine va_iast hx hb hK hP hD hS 1 0 rfl rfl (z_vpin (by omega) (by omega)) dX12_reads_112 (fun H_48 locs hP hD hS => ?_)
                          obtain ⟨hP, hD⟩ := z_s_1 hP hD
                          generalize (upd f_46 (z_47 : Int32).toNatClampNeg p4) = f_49 at hP hD
                          refine lv_aload_n hx hb dX12_reads_113 rfl (lv_at hl 1 rfl) ?_
                          refine va_get (D := (dC, dI)) (ci := 12) (v := .ref h1) (C := RX12) (T := TX12) (N := 70) hx hb hts hiX12 hown hK hP 0 rfl rfl 35 (by decide) w__fieldLink_RX12_78_ShellHeapModel_reads_I_ (fun _ h9 => h9) rfl dX12_reads_114 ?_
                          refine lv_iload hx hb dX12_reads_117 (lv_at hl 0 rfl) ?_
                          refine lv_iconst (v := 2) hx hb dX12_reads_119 (by decide) ?_
                          refine lv_iadd hx hb dX12_reads_120 ?_
                          refine lv_topi (fun z_50 ez_50 => ?_)
                          have kz_50 : (z_50).toInt = (z_44).toInt + (2 : Int) := by rw [ez_50]; exact z_add (a := (z_44).toInt) (b := (2 : Int)) rfl rfl (by omega) (by omega)
                          refine lv_iload hx hb dX12_reads_121 (lv_at hl 6 rfl) ?_
                          refine va_iast hx hb hK hP hD hS 1 0 rfl rfl (z_vpin (by omega) (by omega)) dX12_reads_123 (fun H_51 locs hP hD hS => ?_)
                          obtain ⟨hP, hD⟩ := z_s_1 hP hD
                          generalize (upd f_49 (z_50 : Int32).toNatClampNeg p5) = f_52 at hP hD
                          refine lv_aload_n hx hb dX12_reads_124 rfl (lv_at hl 1 rfl) ?_
                          refine va_get (D := (dC, dI)) (ci := 12) (v := .ref h1) (C := RX12) (T := TX12) (N := 70) hx hb hts hiX12 hown hK hP 0 rfl rfl 35 (by decide) w__fieldLink_RX12_78_ShellHeapModel_reads_I_ (fun _ h9 => h9) rfl dX12_reads_125 ?_
                          refine lv_iload hx hb dX12_reads_128 (lv_at hl 0 rfl) ?_
                          refine lv_iconst (v := 3) hx hb dX12_reads_130 (by decide) ?_
                          refine lv_iadd hx hb dX12_reads_131 ?_
                          refine lv_topi (fun z_53 ez_53 => ?_)
                          have kz_53 : (z_53).toInt = (z_44).toInt + (3 : Int) := by rw [ez_53]; exact z_add (a := (z_44).toInt) (b := (3 : Int)) rfl rfl (by omega) (by omega)
                          refine lv_iload hx hb dX12_reads_132 (lv_at hl 7 rfl) ?_
                          refine va_iast hx hb hK hP hD hS 1 0 rfl rfl (z_vpin (by omega) (by omega)) dX12_reads_134 (fun H_54 locs hP hD hS => ?_)
                          obtain ⟨hP, hD⟩ := z_s_1 hP hD
                          generalize (upd f_52 (z_53 : Int32).toNatClampNeg p6) = f_55 at hP hD
                          refine lv_iconst (v := 1) hx hb dX12_reads_135 (by decide) ?_
                          have hP9 := hP
                          have hD9 := hD
                          have hK9 := hK.sub (tys' := []) [] rfl
                          refine W.widen (k := 0) (n := 0) (Nat.le_of_ble_eq_true rfl) (Nat.le_of_ble_eq_true rfl) ?_
                          exact W.zret (v := 1) hx hb hr (by rfl) (fun t ht hW => ⟨⟨1, (), rfl, (show ((0 : Int) ≤ (1 : Int) ∧ (1 : Int) ≤ (1 : Int)) by decide), ⟨0, f_55, by rw [ht]; exact hP9, va_K.moved hW.alike hK9, hD9⟩⟩, hS.F ht⟩) hS.2.2 dX12_reads_136
                        · have k_56 : (z_38).toInt ≠ (16 : Int) := z_ne c_39
                          refine lv_iconst (v := 0) hx hb dX12_reads_82 (by decide) ?_
                          have hP9 := hP
                          have hD9 := hD
                          have hK9 := hK.sub (tys' := []) [] rfl
                          refine W.widen (k := 0) (n := 0) (Nat.le_of_ble_eq_true rfl) (Nat.le_of_ble_eq_true rfl) ?_
                          exact W.zret (v := 0) hx hb hr (by rfl) (fun t ht hW => ⟨⟨0, (), rfl, (show ((0 : Int) ≤ (0 : Int) ∧ (0 : Int) ≤ (1 : Int)) by decide), ⟨0, fh1, by rw [ht]; exact hP9, va_K.moved hW.alike hK9, hD9⟩⟩, hS.F ht⟩) hS.2.2 dX12_reads_83
  · have hw_4 : True := hw_4
    refine lv_if_eq (tgt := 82) hx hb dX12_reads_9 (by decide) (fun _ => ?_) (fun c_57 => absurd (by decide) c_57)
    refine lv_iconst (v := 0) hx hb dX12_reads_82 (by decide) ?_
    have hP9 := hP
    have hD9 := hD
    have hK9 := hK.sub (tys' := []) [] rfl
    refine W.widen (k := 0) (n := 0) (Nat.le_of_ble_eq_true rfl) (Nat.le_of_ble_eq_true rfl) ?_
    exact W.zret (v := 0) hx hb hr (by rfl) (fun t ht hW => ⟨⟨0, (), rfl, (show ((0 : Int) ≤ (0 : Int) ∧ (0 : Int) ≤ (1 : Int)) by decide), ⟨0, fh1, by rw [ht]; exact hP9, va_K.moved hW.alike hK9, hD9⟩⟩, hS.F ht⟩) hS.2.2 dX12_reads_83
def u_s_X12_far : List Cond := .code yX12_far cX12_far 4 (some .int) :: ([.fieldLink RX12 54 "ShellHeapModel" "columnX" "[I", .fieldLink RX12 57 "ShellHeapModel" "columnY" "[I"] ++ (wsX120 ++ []))
theorem gd_s_X12_far : z_gd u_s_X12_far := z_gdc (by decide +kernel) (z_gda gdX12 (z_gd0))
set_option maxHeartbeats 4000000 in
set_option maxRecDepth 100000 in
theorem s_X12_far (l : Launch) (dC : Nat → ClassId) (dI : Nat → Nat → Nat) (sz : Nat) (h0 : Nat) (p1 : Int32) (p2 : Int32) (p3 : Int32) (h0_0 : Value) (h0_1 : Value) (h0_2 : Value) (h0_3 : Value) (h0_4 : Value) (h0_5 : Value) (h0_6 : Value) (h0_7 : Value) (h0_8 : Value) (h0_9 : Value) (h0_10 : Value) (h0_11 : Value) (h0_12 : Value) (h0_13 : Value) (h0_14 : Value) (h0_15 : Value) (h0_16 : Value) (h0_17 : Value) (h0_18 : Value) (h0_19 : Value) (h1 : Nat) (h2 : Nat) (h0_22 : Value) (h0_23 : Value) (h0_24 : Value) (h0_25 : Value) (h0_26 : Value) (h0_27 : Value) (h0_28 : Value) (h0_29 : Value) (h0_30 : Value) (h0_31 : Value) (h0_32 : Value) (h0_33 : Value) (h0_34 : Value) (h0_35 : Value) (h0_36 : Value) (h0_37 : Value) (h0_38 : Value) (h0_39 : Value) (h0_40 : Value) (h0_41 : Value) (h0_42 : Value) (h0_43 : Value) (h0_44 : Value) (h0_45 : Value) (h0_46 : Value) (h0_47 : Value) (h0_48 : Value) (h0_49 : Value) (h0_50 : Value) (h0_51 : Value) (h0_52 : Value) (h0_53 : Value) (h0_54 : Value) (h0_55 : Value) (h0_56 : Value) (h0_57 : Value) (h0_58 : Value) (h0_59 : Value) (h0_60 : Value) (h0_61 : Value) (h0_62 : Value) (h0_63 : Value) (h0_64 : Value) (h0_65 : Value) (h0_66 : Value) (h0_67 : Value) (h0_68 : Value) (h0_69 : Value) (ch1 : ClassId) (fh1 : Nat → Int32) (ch2 : ClassId) (fh2 : Nat → Int32) (hB_p1 : ((0 : Int) ≤ (p1).toInt ∧ (p1).toInt ≤ (9 : Int))) : Met l yX12_far u_s_X12_far ({ frames := 0, cells := 0, slots := 0, locals := 0 }) (va_Pc [.ref h0, .int p1, .int p2, .int p3] (z_C (dC, dI) vwCl [(h0, .inr (12, [h0_0, h0_1, h0_2, h0_3, h0_4, h0_5, h0_6, h0_7, h0_8, h0_9, h0_10, h0_11, h0_12, h0_13, h0_14, h0_15, h0_16, h0_17, h0_18, h0_19, .ref h1, .ref h2, h0_22, h0_23, h0_24, h0_25, h0_26, h0_27, h0_28, h0_29, h0_30, h0_31, h0_32, h0_33, h0_34, h0_35, h0_36, h0_37, h0_38, h0_39, h0_40, h0_41, h0_42, h0_43, h0_44, h0_45, h0_46, h0_47, h0_48, h0_49, h0_50, h0_51, h0_52, h0_53, h0_54, h0_55, h0_56, h0_57, h0_58, h0_59, h0_60, h0_61, h0_62, h0_63, h0_64, h0_65, h0_66, h0_67, h0_68, h0_69])), (h1, .inl (ch1, 10, .inl fh1)), (h2, .inl (ch2, 10, .inl fh2))] [(ch1, .int), (ch2, .int)] sz)) (va_Qi (fun (r : Int32) (_ : Unit) => True) (fun (_ : Unit) (_ : State) => True) (va_A [] sz)) 0 0 (va_A [] sz) := by
  refine Met.ofW (cc := cX12_far) (maxL := 4) (ret := (some .int)) (by decide) rfl ?_
  intro p e s m args below meth c s₁ B hml hv
  obtain ⟨rfl, hsz, hP, hK, hD0⟩ := hv
  have hx := B.exec
  have hb := B.bytes
  have hr := B.returns
  have hts := atoms_spec (ws := u_s_X12_far) B.pre
  have hown : s.vm.findClass RX12 = some m.cls := findClass_of_methodNamed B.named
  have hlocks := B.notSynchronized
  subst hsz
  have hD := hD0
  generalize hAe : va_A [] s.heap.size = A
  have hA : ∀ q : Nat, s.heap.size ≤ q → A q := fun q h => by rw [← hAe]; exact Or.inr h
  have hS : va_S A s.heap s.heap [] := va_S.rf
  have hP : va_P (dC, dI) vwCl [(h0, .inr (12, [h0_0, h0_1, h0_2, h0_3, h0_4, h0_5, h0_6, h0_7, h0_8, h0_9, h0_10, h0_11, h0_12, h0_13, h0_14, h0_15, h0_16, h0_17, h0_18, h0_19, .ref h1, .ref h2, h0_22, h0_23, h0_24, h0_25, h0_26, h0_27, h0_28, h0_29, h0_30, h0_31, h0_32, h0_33, h0_34, h0_35, h0_36, h0_37, h0_38, h0_39, h0_40, h0_41, h0_42, h0_43, h0_44, h0_45, h0_46, h0_47, h0_48, h0_49, h0_50, h0_51, h0_52, h0_53, h0_54, h0_55, h0_56, h0_57, h0_58, h0_59, h0_60, h0_61, h0_62, h0_63, h0_64, h0_65, h0_66, h0_67, h0_68, h0_69])), (h1, .inl (ch1, 10, .inl fh1)), (h2, .inl (ch2, 10, .inl fh2))] s.heap := hP
  have w__fieldLink_RX12_54_ShellHeapModel_columnX_I_ := hts (.fieldLink RX12 54 "ShellHeapModel" "columnX" "[I") (z_mc (z_ml z_m0))
  have hiX12 := show ∀ w ∈ u_ws RX12 TX12 70, w ∈ u_s_X12_far from fun w h => z_mc (z_mr (z_ml h))
  have w__fieldLink_RX12_57_ShellHeapModel_columnY_I_ := hts (.fieldLink RX12 57 "ShellHeapModel" "columnY" "[I") (z_mc (z_ml z_m1))
  have krr_p2 := z_rng p2
  have krr_p3 := z_rng p3
  have hl := lv_entry ([.ref h0, .int p1, .int p2, .int p3]) (n := 4) (Nat.le_of_ble_eq_true rfl)
  rw [lg_entry_eq]
  generalize (lg_sl ([.ref h0, .int p1, .int p2, .int p3]) ++ List.replicate (4 - (lg_sl ([.ref h0, .int p1, .int p2, .int p3])).length) Slot.unset).toArray = ls at hl ⊢
  have hl : lv_has ls 4 [(0, .ref h0), (1, .int p1), (2, .int p2), (3, .int p3)] := hl
  refine lv_aload_n hx hb dX12_far_0 rfl (lv_at hl 0 rfl) ?_
  refine va_get (D := (dC, dI)) (ci := 12) (v := .ref h1) (C := RX12) (T := TX12) (N := 70) hx hb hts hiX12 hown hK hP 0 rfl rfl 20 (by decide) w__fieldLink_RX12_54_ShellHeapModel_columnX_I_ (fun _ h9 => h9) rfl dX12_far_1 ?_
  refine lv_iload_n hx hb dX12_far_4 rfl (lv_at hl 1 rfl) ?_
  refine va_iald hx hb hK hP 1 0 rfl rfl (z_vpinB hB_p1 (by decide) (by decide)) dX12_far_5 ?_
  refine lv_topi (fun z_1 ez_1 => ?_)
  refine lv_iload_n hx hb dX12_far_6 rfl (lv_at hl 2 rfl) ?_
  refine lv_isub hx hb dX12_far_7 ?_
  refine lv_topi (fun z_2 ez_2 => ?_)
  refine lv_aload_n hx hb dX12_far_8 rfl (lv_at hl 0 rfl) ?_
  refine va_get (D := (dC, dI)) (ci := 12) (v := .ref h1) (C := RX12) (T := TX12) (N := 70) hx hb hts hiX12 hown hK hP 0 rfl rfl 20 (by decide) w__fieldLink_RX12_54_ShellHeapModel_columnX_I_ (fun _ h9 => h9) rfl dX12_far_9 ?_
  refine lv_iload_n hx hb dX12_far_12 rfl (lv_at hl 1 rfl) ?_
  refine va_iald hx hb hK hP 1 0 rfl rfl (z_vpinB hB_p1 (by decide) (by decide)) dX12_far_13 ?_
  refine lv_topi (fun z_3 ez_3 => ?_)
  refine lv_iload_n hx hb dX12_far_14 rfl (lv_at hl 2 rfl) ?_
  refine lv_isub hx hb dX12_far_15 ?_
  refine lv_topi (fun z_4 ez_4 => ?_)
  refine lv_imul hx hb dX12_far_16 ?_
  refine lv_topi (fun z_5 ez_5 => ?_)
  refine lv_aload_n hx hb dX12_far_17 rfl (lv_at hl 0 rfl) ?_
  refine va_get (D := (dC, dI)) (ci := 12) (v := .ref h2) (C := RX12) (T := TX12) (N := 70) hx hb hts hiX12 hown hK hP 0 rfl rfl 21 (by decide) w__fieldLink_RX12_57_ShellHeapModel_columnY_I_ (fun _ h9 => h9) rfl dX12_far_18 ?_
  refine lv_iload_n hx hb dX12_far_21 rfl (lv_at hl 1 rfl) ?_
  refine va_iald hx hb hK hP 2 1 rfl rfl (z_vpinB hB_p1 (by decide) (by decide)) dX12_far_22 ?_
  refine lv_topi (fun z_6 ez_6 => ?_)
  refine lv_iload_n hx hb dX12_far_23 rfl (lv_at hl 3 rfl) ?_
  refine lv_isub hx hb dX12_far_24 ?_
  refine lv_topi (fun z_7 ez_7 => ?_)
  refine lv_aload_n hx hb dX12_far_25 rfl (lv_at hl 0 rfl) ?_
  refine va_get (D := (dC, dI)) (ci := 12) (v := .ref h2) (C := RX12) (T := TX12) (N := 70) hx hb hts hiX12 hown hK hP 0 rfl rfl 21 (by decide) w__fieldLink_RX12_57_ShellHeapModel_columnY_I_ (fun _ h9 => h9) rfl dX12_far_26 ?_
  refine lv_iload_n hx hb dX12_far_29 rfl (lv_at hl 1 rfl) ?_
  refine va_iald hx hb hK hP 2 1 rfl rfl (z_vpinB hB_p1 (by decide) (by decide)) dX12_far_30 ?_
  refine lv_topi (fun z_8 ez_8 => ?_)
  refine lv_iload_n hx hb dX12_far_31 rfl (lv_at hl 3 rfl) ?_
  refine lv_isub hx hb dX12_far_32 ?_
  refine lv_topi (fun z_9 ez_9 => ?_)
  refine lv_imul hx hb dX12_far_33 ?_
  refine lv_topi (fun z_10 ez_10 => ?_)
  refine lv_iadd hx hb dX12_far_34 ?_
  refine lv_topi (fun z_11 ez_11 => ?_)
  refine W.widen (k := 0) (n := 0) (Nat.le_of_ble_eq_true rfl) (Nat.le_of_ble_eq_true rfl) ?_
  exact W.iret (v := z_11) hx hb hr (fun t ht hW => ⟨⟨z_11, (), rfl, trivial, trivial⟩, hS.F ht⟩) hS.2.2 dX12_far_35
def u_s_X12_aheadOf : List Cond := .code yX12_aheadOf cX12_aheadOf 4 (some .int) :: ([.fieldLink RX12 167 "ShellHeapModel" "quarrelNow" "I", .fieldLink RX12 35 "ShellHeapModel" "later" "[Z", .fieldLink RX12 38 "ShellHeapModel" "rank" "[I"] ++ (wsX120 ++ []))
theorem gd_s_X12_aheadOf : z_gd u_s_X12_aheadOf := z_gdc (by decide +kernel) (z_gda gdX12 (z_gd0))
set_option maxHeartbeats 4000000 in
set_option maxRecDepth 100000 in
theorem s_X12_aheadOf (l : Launch) (dC : Nat → ClassId) (dI : Nat → Nat → Nat) (sz : Nat) (h0 : Nat) (p1 : Int32) (h0_0 : Value) (h0_1 : Value) (h0_2 : Value) (h0_3 : Value) (h0_4 : Value) (h0_5 : Value) (h0_6 : Value) (h0_7 : Value) (h0_8 : Value) (h0_9 : Value) (h0_10 : Value) (h0_11 : Value) (h1 : Nat) (h2 : Nat) (h0_14 : Value) (h0_15 : Value) (mq : Int32) (h0_17 : Value) (h0_18 : Value) (h0_19 : Value) (h0_20 : Value) (h0_21 : Value) (h0_22 : Value) (h0_23 : Value) (h0_24 : Value) (h0_25 : Value) (h0_26 : Value) (h0_27 : Value) (h0_28 : Value) (h0_29 : Value) (h0_30 : Value) (h0_31 : Value) (h0_32 : Value) (h0_33 : Value) (h0_34 : Value) (h0_35 : Value) (h0_36 : Value) (h0_37 : Value) (h0_38 : Value) (h0_39 : Value) (h0_40 : Value) (h0_41 : Value) (h0_42 : Value) (h0_43 : Value) (h0_44 : Value) (h0_45 : Value) (h0_46 : Value) (h0_47 : Value) (h0_48 : Value) (h0_49 : Value) (h0_50 : Value) (h0_51 : Value) (h0_52 : Value) (h0_53 : Value) (h0_54 : Value) (h0_55 : Value) (h0_56 : Value) (h0_57 : Value) (h0_58 : Value) (h0_59 : Value) (h0_60 : Value) (h0_61 : Value) (h0_62 : Value) (h0_63 : Value) (h0_64 : Value) (h0_65 : Value) (h0_66 : Value) (h0_67 : Value) (h0_68 : Value) (h0_69 : Value) (ch1 : ClassId) (fh1 : Nat → Int32) (ch2 : ClassId) (fh2 : Nat → Int32) (hB_p1 : ((0 : Int) ≤ (p1).toInt ∧ (p1).toInt ≤ (11 : Int))) : Met l yX12_aheadOf u_s_X12_aheadOf ({ frames := 0, cells := 0, slots := 0, locals := 0 }) (va_Pc [.ref h0, .int p1] (z_C (dC, dI) vwCl [(h0, .inr (12, [h0_0, h0_1, h0_2, h0_3, h0_4, h0_5, h0_6, h0_7, h0_8, h0_9, h0_10, h0_11, .ref h1, .ref h2, h0_14, h0_15, .int mq, h0_17, h0_18, h0_19, h0_20, h0_21, h0_22, h0_23, h0_24, h0_25, h0_26, h0_27, h0_28, h0_29, h0_30, h0_31, h0_32, h0_33, h0_34, h0_35, h0_36, h0_37, h0_38, h0_39, h0_40, h0_41, h0_42, h0_43, h0_44, h0_45, h0_46, h0_47, h0_48, h0_49, h0_50, h0_51, h0_52, h0_53, h0_54, h0_55, h0_56, h0_57, h0_58, h0_59, h0_60, h0_61, h0_62, h0_63, h0_64, h0_65, h0_66, h0_67, h0_68, h0_69])), (h1, .inl (ch1, 144, .inl fh1)), (h2, .inl (ch2, 12, .inl fh2))] [(ch1, .boolean), (ch2, .int)] sz)) (va_Qi (fun (r : Int32) (_ : Unit) => ((-1 : Int) ≤ (r).toInt ∧ (r).toInt ≤ (11 : Int))) (fun (_ : Unit) (_ : State) => True) (va_A [] sz)) 0 0 (va_A [] sz) := by
  refine Met.ofW (cc := cX12_aheadOf) (maxL := 4) (ret := (some .int)) (by decide) rfl ?_
  intro p e s m args below meth c s₁ B hml hv
  obtain ⟨rfl, hsz, hP, hK, hD0⟩ := hv
  have hx := B.exec
  have hb := B.bytes
  have hr := B.returns
  have hts := atoms_spec (ws := u_s_X12_aheadOf) B.pre
  have hown : s.vm.findClass RX12 = some m.cls := findClass_of_methodNamed B.named
  have hlocks := B.notSynchronized
  subst hsz
  have hD := hD0
  generalize hAe : va_A [] s.heap.size = A
  have hA : ∀ q : Nat, s.heap.size ≤ q → A q := fun q h => by rw [← hAe]; exact Or.inr h
  have hS : va_S A s.heap s.heap [] := va_S.rf
  have hP : va_P (dC, dI) vwCl [(h0, .inr (12, [h0_0, h0_1, h0_2, h0_3, h0_4, h0_5, h0_6, h0_7, h0_8, h0_9, h0_10, h0_11, .ref h1, .ref h2, h0_14, h0_15, .int mq, h0_17, h0_18, h0_19, h0_20, h0_21, h0_22, h0_23, h0_24, h0_25, h0_26, h0_27, h0_28, h0_29, h0_30, h0_31, h0_32, h0_33, h0_34, h0_35, h0_36, h0_37, h0_38, h0_39, h0_40, h0_41, h0_42, h0_43, h0_44, h0_45, h0_46, h0_47, h0_48, h0_49, h0_50, h0_51, h0_52, h0_53, h0_54, h0_55, h0_56, h0_57, h0_58, h0_59, h0_60, h0_61, h0_62, h0_63, h0_64, h0_65, h0_66, h0_67, h0_68, h0_69])), (h1, .inl (ch1, 144, .inl fh1)), (h2, .inl (ch2, 12, .inl fh2))] s.heap := hP
  have w__fieldLink_RX12_167_ShellHeapModel_quarrelNow_I_ := hts (.fieldLink RX12 167 "ShellHeapModel" "quarrelNow" "I") (z_mc (z_ml z_m0))
  have hiX12 := show ∀ w ∈ u_ws RX12 TX12 70, w ∈ u_s_X12_aheadOf from fun w h => z_mc (z_mr (z_ml h))
  have w__fieldLink_RX12_35_ShellHeapModel_later_Z_ := hts (.fieldLink RX12 35 "ShellHeapModel" "later" "[Z") (z_mc (z_ml z_m1))
  have w__fieldLink_RX12_38_ShellHeapModel_rank_I_ := hts (.fieldLink RX12 38 "ShellHeapModel" "rank" "[I") (z_mc (z_ml z_m2))
  have hl := lv_entry ([.ref h0, .int p1]) (n := 4) (Nat.le_of_ble_eq_true rfl)
  rw [lg_entry_eq]
  generalize (lg_sl ([.ref h0, .int p1]) ++ List.replicate (4 - (lg_sl ([.ref h0, .int p1])).length) Slot.unset).toArray = ls at hl ⊢
  have hl : lv_has ls 4 [(0, .ref h0), (1, .int p1)] := hl
  refine z_nameQ (fun QQ hQQ => ?_)
  refine lv_aload_n hx hb dX12_aheadOf_0 rfl (lv_at hl 0 rfl) ?_
  refine va_get (D := (dC, dI)) (ci := 12) (v := .int mq) (C := RX12) (T := TX12) (N := 70) hx hb hts hiX12 hown hK hP 0 rfl rfl 16 (by decide) w__fieldLink_RX12_167_ShellHeapModel_quarrelNow_I_ (fun _ h9 => h9) rfl dX12_aheadOf_1 ?_
  refine lv_iconst (v := 1) hx hb dX12_aheadOf_4 (by decide) ?_
  refine lv_icmp_ne (tgt := 10) hx hb dX12_aheadOf_5 (by decide) (fun c_1 => ?_) (fun c_1 => ?_)
  · have k_2 : (mq).toInt ≠ (1 : Int) := z_ne c_1
    refine lv_iconst (v := (-1)) hx hb dX12_aheadOf_10 (by decide) ?_
    refine lv_istore_n (lv' := [(2, .int (-1)), (0, .ref h0), (1, .int p1)]) hx hb dX12_aheadOf_11 rfl hl (by decide) rfl (fun ls hl => ?_)
    refine lv_iconst (v := 0) hx hb dX12_aheadOf_12 (by decide) ?_
    refine lv_istore_n (lv' := [(3, .int 0), (2, .int (-1)), (0, .ref h0), (1, .int p1)]) hx hb dX12_aheadOf_13 rfl hl (by decide) rfl (fun ls hl => ?_)
    have loop_3 : ∀ (n_4 : Nat) (i_6 : Int32) (a_7 : Int32) (H : Heap) (locs : List Loc) (ls : Array Slot), (13 - (i_6).toInt).toNat < n_4 → (((0 : Int) ≤ (i_6).toInt ∧ (i_6).toInt ≤ (12 : Int))) → (((-1 : Int) ≤ (a_7).toInt ∧ (a_7).toInt ≤ (11 : Int))) → va_P (dC, dI) vwCl [(h0, .inr (12, [h0_0, h0_1, h0_2, h0_3, h0_4, h0_5, h0_6, h0_7, h0_8, h0_9, h0_10, h0_11, .ref h1, .ref h2, h0_14, h0_15, .int mq, h0_17, h0_18, h0_19, h0_20, h0_21, h0_22, h0_23, h0_24, h0_25, h0_26, h0_27, h0_28, h0_29, h0_30, h0_31, h0_32, h0_33, h0_34, h0_35, h0_36, h0_37, h0_38, h0_39, h0_40, h0_41, h0_42, h0_43, h0_44, h0_45, h0_46, h0_47, h0_48, h0_49, h0_50, h0_51, h0_52, h0_53, h0_54, h0_55, h0_56, h0_57, h0_58, h0_59, h0_60, h0_61, h0_62, h0_63, h0_64, h0_65, h0_66, h0_67, h0_68, h0_69])), (h1, .inl (ch1, 144, .inl fh1)), (h2, .inl (ch2, 12, .inl fh2))] H → va_D (fun _ => True) [(h0, .inr (12, [h0_0, h0_1, h0_2, h0_3, h0_4, h0_5, h0_6, h0_7, h0_8, h0_9, h0_10, h0_11, .ref h1, .ref h2, h0_14, h0_15, .int mq, h0_17, h0_18, h0_19, h0_20, h0_21, h0_22, h0_23, h0_24, h0_25, h0_26, h0_27, h0_28, h0_29, h0_30, h0_31, h0_32, h0_33, h0_34, h0_35, h0_36, h0_37, h0_38, h0_39, h0_40, h0_41, h0_42, h0_43, h0_44, h0_45, h0_46, h0_47, h0_48, h0_49, h0_50, h0_51, h0_52, h0_53, h0_54, h0_55, h0_56, h0_57, h0_58, h0_59, h0_60, h0_61, h0_62, h0_63, h0_64, h0_65, h0_66, h0_67, h0_68, h0_69])), (h1, .inl (ch1, 144, .inl fh1)), (h2, .inl (ch2, 12, .inl fh2))] → va_S A s.heap H locs → lv_has ls 4 [(3, .int i_6), (2, .int a_7), (0, .ref h0), (1, .int p1)] → W p l e ({ frames := 0, cells := 0, slots := 0, locals := 0 } : Room) s m ([.ref h0, .int p1] : List Value).toArray below meth c H locs 0 0 QQ (F0 m 14 ls []) := by
      intro n_4
      induction n_4 with
      | zero => intro i_6 a_7 H locs ls hm; exact absurd hm (Nat.not_lt_zero _)
      | succ n_4 ih_5 =>
        intro i_6 a_7 H locs ls hm hF_8 hF_9 hP hD hS hl
        refine lv_iload_n hx hb dX12_aheadOf_14 rfl (lv_at hl 0 rfl) ?_
        refine lv_bipush (v := 12) hx hb dX12_aheadOf_15 (by decide) ?_
        refine lv_icmp_ge (tgt := 61) hx hb dX12_aheadOf_17 (by decide) (fun c_10 => ?_) (fun c_10 => ?_)
        · have k_11 : (12 : Int) ≤ (i_6).toInt := z_le c_10
          obtain rfl : i_6 = 12 := z_eq' (show (i_6).toInt = (12 : Int) by omega)
          refine lv_iload_n hx hb dX12_aheadOf_61 rfl (lv_at hl 1 rfl) ?_
          refine z_backQ hQQ ?_
          refine W.widen (k := 0) (n := 0) (Nat.le_of_ble_eq_true rfl) (Nat.le_of_ble_eq_true rfl) ?_
          exact W.iret (v := a_7) hx hb hr (fun t ht hW => ⟨⟨a_7, (), rfl, (show ((-1 : Int) ≤ (a_7).toInt ∧ (a_7).toInt ≤ (11 : Int)) from hF_9), trivial⟩, hS.F ht⟩) hS.2.2 dX12_aheadOf_62
        · have k_13 : (12 : Int) > (i_6).toInt := z_nle c_10
          refine lv_aload_n hx hb dX12_aheadOf_20 rfl (lv_at hl 2 rfl) ?_
          refine va_get (D := (dC, dI)) (ci := 12) (v := .ref h1) (C := RX12) (T := TX12) (N := 70) hx hb hts hiX12 hown hK hP 0 rfl rfl 12 (by decide) w__fieldLink_RX12_35_ShellHeapModel_later_Z_ (fun _ h9 => h9) rfl dX12_aheadOf_21 ?_
          refine lv_bipush (v := 12) hx hb dX12_aheadOf_24 (by decide) ?_
          refine lv_iload_n hx hb dX12_aheadOf_26 rfl (lv_at hl 3 rfl) ?_
          refine lv_imul hx hb dX12_aheadOf_27 ?_
          refine lv_topi (fun z_14 ez_14 => ?_)
          have kz_14 : (z_14).toInt = (12 : Int) * (p1).toInt := by rw [ez_14]; exact z_mul (a := (12 : Int)) (b := (p1).toInt) rfl rfl (by omega) (by omega)
          refine lv_iload_n hx hb dX12_aheadOf_28 rfl (lv_at hl 0 rfl) ?_
          refine lv_iadd hx hb dX12_aheadOf_29 ?_
          refine lv_topi (fun z_15 ez_15 => ?_)
          have kz_15 : (z_15).toInt = (z_14).toInt + (i_6).toInt := by rw [ez_15]; exact z_add (a := (z_14).toInt) (b := (i_6).toInt) rfl rfl (by omega) (by omega)
          refine va_zald hx hb hK hP 1 0 rfl rfl (z_vpin (by omega) (by omega)) dX12_aheadOf_30 ?_
          refine lv_topi (fun z_16 ez_16 => ?_)
          refine lv_if_eq (tgt := 55) hx hb dX12_aheadOf_31 (by decide) (fun c_17 => ?_) (fun c_17 => ?_)
          · have k_18 : (z_16).toInt = (0 : Int) := z_eq c_17
            obtain rfl : z_16 = 0 := z_eq' (show (z_16).toInt = (0 : Int) by omega)
            obtain ⟨z_20, ez_20⟩ : ∃ y : Int32, y = i_6 + 1 := ⟨_, rfl⟩
            have kz_20 : (z_20).toInt = (i_6).toInt + (1 : Int) := by rw [ez_20]; exact z_add (b := 1) rfl rfl (z_al hF_8.1 (by decide)) (z_ah hF_8.2 (by decide))
            refine lv_iinc (v := z_20) (lv' := [(3, .int z_20), (2, .int a_7), (0, .ref h0), (1, .int p1)]) hx hb dX12_aheadOf_55 hl (k := 0) rfl (by rw [ez_20]; rfl) (by decide) rfl (fun ls hl => ?_)
            refine lv_goto (tgt := 14) hx hb dX12_aheadOf_58 (by decide) ?_
            exact ih_5 z_20 a_7 _ _ _ (show (13 - (z_20).toInt).toNat < n_4 by omega) (show ((0 : Int) ≤ (z_20).toInt ∧ (z_20).toInt ≤ (12 : Int)) by omega) (show ((-1 : Int) ≤ (a_7).toInt ∧ (a_7).toInt ≤ (11 : Int)) by omega) hP hD hS (lv_sub hl [0, 1, 2, 3] rfl)
          · have k_21 : (z_16).toInt ≠ (0 : Int) := z_ne c_17
            refine lv_iload_n hx hb dX12_aheadOf_34 rfl (lv_at hl 1 rfl) ?_
            refine lv_if_lt (tgt := 53) hx hb dX12_aheadOf_35 (by decide) (fun c_22 => ?_) (fun c_22 => ?_)
            · have k_23 : (a_7).toInt < (0 : Int) := z_lt c_22
              obtain rfl : a_7 = (-1) := z_eq' (show (a_7).toInt = (-1 : Int) by omega)
              refine lv_iload_n hx hb dX12_aheadOf_53 rfl (lv_at hl 0 rfl) ?_
              refine lv_istore_n (lv' := [(2, .int i_6), (3, .int i_6), (0, .ref h0), (1, .int p1)]) hx hb dX12_aheadOf_54 rfl hl (by decide) rfl (fun ls hl => ?_)
              obtain ⟨z_25, ez_25⟩ : ∃ y : Int32, y = i_6 + 1 := ⟨_, rfl⟩
              have kz_25 : (z_25).toInt = (i_6).toInt + (1 : Int) := by rw [ez_25]; exact z_add (b := 1) rfl rfl (z_al hF_8.1 (by decide)) (z_ah hF_8.2 (by decide))
              refine lv_iinc (v := z_25) (lv' := [(3, .int z_25), (2, .int i_6), (0, .ref h0), (1, .int p1)]) hx hb dX12_aheadOf_55 hl (k := 1) rfl (by rw [ez_25]; rfl) (by decide) rfl (fun ls hl => ?_)
              refine lv_goto (tgt := 14) hx hb dX12_aheadOf_58 (by decide) ?_
              exact ih_5 z_25 i_6 _ _ _ (show (13 - (z_25).toInt).toNat < n_4 by omega) (show ((0 : Int) ≤ (z_25).toInt ∧ (z_25).toInt ≤ (12 : Int)) by omega) (show ((-1 : Int) ≤ (i_6).toInt ∧ (i_6).toInt ≤ (11 : Int)) by omega) hP hD hS (lv_sub hl [0, 1, 2, 3] rfl)
            · have k_26 : (a_7).toInt ≥ (0 : Int) := z_nlt c_22
              refine lv_aload_n hx hb dX12_aheadOf_38 rfl (lv_at hl 2 rfl) ?_
              refine va_get (D := (dC, dI)) (ci := 12) (v := .ref h2) (C := RX12) (T := TX12) (N := 70) hx hb hts hiX12 hown hK hP 0 rfl rfl 13 (by decide) w__fieldLink_RX12_38_ShellHeapModel_rank_I_ (fun _ h9 => h9) rfl dX12_aheadOf_39 ?_
              refine lv_iload_n hx hb dX12_aheadOf_42 rfl (lv_at hl 0 rfl) ?_
              refine va_iald hx hb hK hP 2 1 rfl rfl (z_vpin (by omega) (by omega)) dX12_aheadOf_43 ?_
              refine lv_topi (fun z_27 ez_27 => ?_)
              refine lv_aload_n hx hb dX12_aheadOf_44 rfl (lv_at hl 2 rfl) ?_
              refine va_get (D := (dC, dI)) (ci := 12) (v := .ref h2) (C := RX12) (T := TX12) (N := 70) hx hb hts hiX12 hown hK hP 0 rfl rfl 13 (by decide) w__fieldLink_RX12_38_ShellHeapModel_rank_I_ (fun _ h9 => h9) rfl dX12_aheadOf_45 ?_
              refine lv_iload_n hx hb dX12_aheadOf_48 rfl (lv_at hl 1 rfl) ?_
              refine va_iald hx hb hK hP 2 1 rfl rfl (z_vpin (by omega) (by omega)) dX12_aheadOf_49 ?_
              refine lv_topi (fun z_28 ez_28 => ?_)
              refine lv_icmp_le (tgt := 55) hx hb dX12_aheadOf_50 (by decide) (fun c_29 => ?_) (fun c_29 => ?_)
              · have k_30 : (z_27).toInt ≤ (z_28).toInt := z_le c_29
                obtain ⟨z_31, ez_31⟩ : ∃ y : Int32, y = i_6 + 1 := ⟨_, rfl⟩
                have kz_31 : (z_31).toInt = (i_6).toInt + (1 : Int) := by rw [ez_31]; exact z_add (b := 1) rfl rfl (z_al hF_8.1 (by decide)) (z_ah hF_8.2 (by decide))
                refine lv_iinc (v := z_31) (lv' := [(3, .int z_31), (2, .int a_7), (0, .ref h0), (1, .int p1)]) hx hb dX12_aheadOf_55 hl (k := 0) rfl (by rw [ez_31]; rfl) (by decide) rfl (fun ls hl => ?_)
                refine lv_goto (tgt := 14) hx hb dX12_aheadOf_58 (by decide) ?_
                exact ih_5 z_31 a_7 _ _ _ (show (13 - (z_31).toInt).toNat < n_4 by omega) (show ((0 : Int) ≤ (z_31).toInt ∧ (z_31).toInt ≤ (12 : Int)) by omega) (show ((-1 : Int) ≤ (a_7).toInt ∧ (a_7).toInt ≤ (11 : Int)) by omega) hP hD hS (lv_sub hl [0, 1, 2, 3] rfl)
              · have k_32 : (z_27).toInt > (z_28).toInt := z_nle c_29
                refine lv_iload_n hx hb dX12_aheadOf_53 rfl (lv_at hl 0 rfl) ?_
                refine lv_istore_n (lv' := [(2, .int i_6), (3, .int i_6), (0, .ref h0), (1, .int p1)]) hx hb dX12_aheadOf_54 rfl hl (by decide) rfl (fun ls hl => ?_)
                obtain ⟨z_33, ez_33⟩ : ∃ y : Int32, y = i_6 + 1 := ⟨_, rfl⟩
                have kz_33 : (z_33).toInt = (i_6).toInt + (1 : Int) := by rw [ez_33]; exact z_add (b := 1) rfl rfl (z_al hF_8.1 (by decide)) (z_ah hF_8.2 (by decide))
                refine lv_iinc (v := z_33) (lv' := [(3, .int z_33), (2, .int i_6), (0, .ref h0), (1, .int p1)]) hx hb dX12_aheadOf_55 hl (k := 1) rfl (by rw [ez_33]; rfl) (by decide) rfl (fun ls hl => ?_)
                refine lv_goto (tgt := 14) hx hb dX12_aheadOf_58 (by decide) ?_
                exact ih_5 z_33 i_6 _ _ _ (show (13 - (z_33).toInt).toNat < n_4 by omega) (show ((0 : Int) ≤ (z_33).toInt ∧ (z_33).toInt ≤ (12 : Int)) by omega) (show ((-1 : Int) ≤ (i_6).toInt ∧ (i_6).toInt ≤ (11 : Int)) by omega) hP hD hS (lv_sub hl [0, 1, 2, 3] rfl)
    exact loop_3 _ 0 (-1) _ _ _ (Nat.lt_succ_self _) (show ((0 : Int) ≤ (0 : Int) ∧ (0 : Int) ≤ (12 : Int)) by omega) (show ((-1 : Int) ≤ (-1 : Int) ∧ (-1 : Int) ≤ (11 : Int)) by omega) hP hD hS hl
  · have k_34 : (mq).toInt = (1 : Int) := z_eq c_1
    obtain rfl : mq = 1 := z_eq' (show (mq).toInt = (1 : Int) by omega)
    refine lv_iconst (v := (-1)) hx hb dX12_aheadOf_8 (by decide) ?_
    refine z_backQ hQQ ?_
    refine W.widen (k := 0) (n := 0) (Nat.le_of_ble_eq_true rfl) (Nat.le_of_ble_eq_true rfl) ?_
    exact W.iret (v := (-1)) hx hb hr (fun t ht hW => ⟨⟨(-1), (), rfl, (show ((-1 : Int) ≤ (-1 : Int) ∧ (-1 : Int) ≤ (11 : Int)) by decide), trivial⟩, hS.F ht⟩) hS.2.2 dX12_aheadOf_9
def u_s_X12_orNone : List Cond := .code yX12_orNone cX12_orNone 1 (some .long) :: ([.constantLong RX12 396 (-9223372036854775808)] ++ [])
theorem gd_s_X12_orNone : z_gd u_s_X12_orNone := z_gdc (by decide +kernel) (z_gd0)
set_option maxHeartbeats 4000000 in
set_option maxRecDepth 100000 in
theorem s_X12_orNone (l : Launch) (dC : Nat → ClassId) (dI : Nat → Nat → Nat) (sz : Nat) (p0 : Int32) : Met l yX12_orNone u_s_X12_orNone ({ frames := 0, cells := 0, slots := 0, locals := 0 }) (va_Pc [.int p0] (z_C (dC, dI) vwCl [] [] sz)) (va_Ql (fun (r : Int64) (_ : Unit) => True) (fun (_ : Unit) (_ : State) => True) (va_A [] sz)) 0 0 (va_A [] sz) := by
  refine Met.ofW (cc := cX12_orNone) (maxL := 1) (ret := (some .long)) (by decide) rfl ?_
  intro p e s m args below meth c s₁ B hml hv
  obtain ⟨rfl, hsz, hP, hK, hD0⟩ := hv
  have hx := B.exec
  have hb := B.bytes
  have hr := B.returns
  have hts := atoms_spec (ws := u_s_X12_orNone) B.pre
  have hown : s.vm.findClass RX12 = some m.cls := findClass_of_methodNamed B.named
  have hlocks := B.notSynchronized
  subst hsz
  have hD := hD0
  generalize hAe : va_A [] s.heap.size = A
  have hA : ∀ q : Nat, s.heap.size ≤ q → A q := fun q h => by rw [← hAe]; exact Or.inr h
  have hS : va_S A s.heap s.heap [] := va_S.rf
  have hP : va_P (dC, dI) vwCl [] s.heap := hP
  have w__constantLong_RX12_396_9223372036854775808_ := hts (.constantLong RX12 396 (-9223372036854775808)) (z_mc (z_ml z_m0))
  have krr_p0 := z_rng p0
  have hl := lv_entry ([.int p0]) (n := 1) (Nat.le_of_ble_eq_true rfl)
  rw [lg_entry_eq]
  generalize (lg_sl ([.int p0]) ++ List.replicate (1 - (lg_sl ([.int p0])).length) Slot.unset).toArray = ls at hl ⊢
  have hl : lv_has ls 1 [(0, .int p0)] := hl
  refine lv_iload_n hx hb dX12_orNone_0 rfl (lv_at hl 0 rfl) ?_
  refine lv_if_ge (tgt := 10) hx hb dX12_orNone_1 (by decide) (fun c_1 => ?_) (fun c_1 => ?_)
  · have k_2 : (0 : Int) ≤ (p0).toInt := z_le c_1
    refine lv_iload_n hx hb dX12_orNone_10 rfl (lv_at hl 0 rfl) ?_
    refine lv_i2l hx hb dX12_orNone_11 rfl ?_
    refine lv_topl (fun z_3 ez_3 => ?_)
    have kz_3 : (z_3).toInt = (p0).toInt := by rw [ez_3]; exact z_i2l _
    refine W.widen (k := 0) (n := 0) (Nat.le_of_ble_eq_true rfl) (Nat.le_of_ble_eq_true rfl) ?_
    exact W.lret (v := z_3) hx hb hr (fun t ht hW => ⟨⟨z_3, (), rfl, trivial, trivial⟩, hS.F ht⟩) hS.2.2 dX12_orNone_12
  · have k_4 : (0 : Int) > (p0).toInt := z_nle c_1
    refine lv_ldc2 (v := (-9223372036854775808)) hx hb hown w__constantLong_RX12_396_9223372036854775808_ dX12_orNone_4 ?_
    refine lv_goto (tgt := 12) hx hb dX12_orNone_7 (by decide) ?_
    refine W.widen (k := 0) (n := 0) (Nat.le_of_ble_eq_true rfl) (Nat.le_of_ble_eq_true rfl) ?_
    exact W.lret (v := (-9223372036854775808)) hx hb hr (fun t ht hW => ⟨⟨(-9223372036854775808), (), rfl, trivial, trivial⟩, hS.F ht⟩) hS.2.2 dX12_orNone_12
def u_s_X12_truth : List Cond := .code yX12_truth cX12_truth 1 (some .long) :: ([] ++ [])
theorem gd_s_X12_truth : z_gd u_s_X12_truth := z_gdc (by decide +kernel) (z_gd0)
set_option maxHeartbeats 4000000 in
set_option maxRecDepth 100000 in
theorem s_X12_truth (l : Launch) (dC : Nat → ClassId) (dI : Nat → Nat → Nat) (sz : Nat) (p0 : Int32) : Met l yX12_truth u_s_X12_truth ({ frames := 0, cells := 0, slots := 0, locals := 0 }) (va_Pc [.int p0] (z_C (dC, dI) vwCl [] [] sz)) (va_Ql (fun (r : Int64) (_ : Unit) => True) (fun (_ : Unit) (_ : State) => True) (va_A [] sz)) 0 0 (va_A [] sz) := by
  refine Met.ofW (cc := cX12_truth) (maxL := 1) (ret := (some .long)) (by decide) rfl ?_
  intro p e s m args below meth c s₁ B hml hv
  obtain ⟨rfl, hsz, hP, hK, hD0⟩ := hv
  have hx := B.exec
  have hb := B.bytes
  have hr := B.returns
  have hts := atoms_spec (ws := u_s_X12_truth) B.pre
  have hown : s.vm.findClass RX12 = some m.cls := findClass_of_methodNamed B.named
  have hlocks := B.notSynchronized
  subst hsz
  have hD := hD0
  generalize hAe : va_A [] s.heap.size = A
  have hA : ∀ q : Nat, s.heap.size ≤ q → A q := fun q h => by rw [← hAe]; exact Or.inr h
  have hS : va_S A s.heap s.heap [] := va_S.rf
  have hP : va_P (dC, dI) vwCl [] s.heap := hP
  have krr_p0 := z_rng p0
  have hl := lv_entry ([.int p0]) (n := 1) (Nat.le_of_ble_eq_true rfl)
  rw [lg_entry_eq]
  generalize (lg_sl ([.int p0]) ++ List.replicate (1 - (lg_sl ([.int p0])).length) Slot.unset).toArray = ls at hl ⊢
  have hl : lv_has ls 1 [(0, .int p0)] := hl
  refine lv_iload_n hx hb dX12_truth_0 rfl (lv_at hl 0 rfl) ?_
  refine lv_if_eq (tgt := 8) hx hb dX12_truth_1 (by decide) (fun c_1 => ?_) (fun c_1 => ?_)
  · have k_2 : (p0).toInt = (0 : Int) := z_eq c_1
    obtain rfl : p0 = 0 := z_eq' (show (p0).toInt = (0 : Int) by omega)
    refine lv_lconst (v := 0) hx hb dX12_truth_8 (by decide) ?_
    refine W.widen (k := 0) (n := 0) (Nat.le_of_ble_eq_true rfl) (Nat.le_of_ble_eq_true rfl) ?_
    exact W.lret (v := 0) hx hb hr (fun t ht hW => ⟨⟨0, (), rfl, trivial, trivial⟩, hS.F ht⟩) hS.2.2 dX12_truth_9
  · have k_4 : (p0).toInt ≠ (0 : Int) := z_ne c_1
    refine lv_lconst (v := 1) hx hb dX12_truth_4 (by decide) ?_
    refine lv_goto (tgt := 9) hx hb dX12_truth_5 (by decide) ?_
    refine W.widen (k := 0) (n := 0) (Nat.le_of_ble_eq_true rfl) (Nat.le_of_ble_eq_true rfl) ?_
    exact W.lret (v := 1) hx hb hr (fun t ht hW => ⟨⟨1, (), rfl, trivial, trivial⟩, hS.F ht⟩) hS.2.2 dX12_truth_9
def u_s_X12_fails : List Cond := .code yX12_fails cX12_fails 2 (some .int) :: ([.fieldLink RX12 145 "ShellHeapModel" "thrown" "I"] ++ (wsX120 ++ []))
theorem gd_s_X12_fails : z_gd u_s_X12_fails := z_gdc (by decide +kernel) (z_gda gdX12 (z_gd0))
set_option maxHeartbeats 4000000 in
set_option maxRecDepth 100000 in
theorem s_X12_fails (l : Launch) (dC : Nat → ClassId) (dI : Nat → Nat → Nat) (sz : Nat) (h0 : Nat) (p1 : Int32) (h0_0 : Value) (h0_1 : Value) (mx : Int32) (h0_3 : Value) (h0_4 : Value) (h0_5 : Value) (h0_6 : Value) (h0_7 : Value) (h0_8 : Value) (h0_9 : Value) (h0_10 : Value) (h0_11 : Value) (h0_12 : Value) (h0_13 : Value) (h0_14 : Value) (h0_15 : Value) (h0_16 : Value) (h0_17 : Value) (h0_18 : Value) (h0_19 : Value) (h0_20 : Value) (h0_21 : Value) (h0_22 : Value) (h0_23 : Value) (h0_24 : Value) (h0_25 : Value) (h0_26 : Value) (h0_27 : Value) (h0_28 : Value) (h0_29 : Value) (h0_30 : Value) (h0_31 : Value) (h0_32 : Value) (h0_33 : Value) (h0_34 : Value) (h0_35 : Value) (h0_36 : Value) (h0_37 : Value) (h0_38 : Value) (h0_39 : Value) (h0_40 : Value) (h0_41 : Value) (h0_42 : Value) (h0_43 : Value) (h0_44 : Value) (h0_45 : Value) (h0_46 : Value) (h0_47 : Value) (h0_48 : Value) (h0_49 : Value) (h0_50 : Value) (h0_51 : Value) (h0_52 : Value) (h0_53 : Value) (h0_54 : Value) (h0_55 : Value) (h0_56 : Value) (h0_57 : Value) (h0_58 : Value) (h0_59 : Value) (h0_60 : Value) (h0_61 : Value) (h0_62 : Value) (h0_63 : Value) (h0_64 : Value) (h0_65 : Value) (h0_66 : Value) (h0_67 : Value) (h0_68 : Value) (h0_69 : Value) : Met l yX12_fails u_s_X12_fails ({ frames := 0, cells := 0, slots := 0, locals := 0 }) (va_Pc [.ref h0, .int p1] (z_C (dC, dI) vwCl [(h0, .inr (12, [h0_0, h0_1, .int mx, h0_3, h0_4, h0_5, h0_6, h0_7, h0_8, h0_9, h0_10, h0_11, h0_12, h0_13, h0_14, h0_15, h0_16, h0_17, h0_18, h0_19, h0_20, h0_21, h0_22, h0_23, h0_24, h0_25, h0_26, h0_27, h0_28, h0_29, h0_30, h0_31, h0_32, h0_33, h0_34, h0_35, h0_36, h0_37, h0_38, h0_39, h0_40, h0_41, h0_42, h0_43, h0_44, h0_45, h0_46, h0_47, h0_48, h0_49, h0_50, h0_51, h0_52, h0_53, h0_54, h0_55, h0_56, h0_57, h0_58, h0_59, h0_60, h0_61, h0_62, h0_63, h0_64, h0_65, h0_66, h0_67, h0_68, h0_69]))] [] sz)) (va_Qi (fun (r : Int32) (_ : Unit) => True) (fun (_ : Unit) (t : State) => ∃ (n_h0_thrown : Int32), va_P (dC, dI) vwCl [(h0, .inr (12, [h0_0, h0_1, .int n_h0_thrown, h0_3, h0_4, h0_5, h0_6, h0_7, h0_8, h0_9, h0_10, h0_11, h0_12, h0_13, h0_14, h0_15, h0_16, h0_17, h0_18, h0_19, h0_20, h0_21, h0_22, h0_23, h0_24, h0_25, h0_26, h0_27, h0_28, h0_29, h0_30, h0_31, h0_32, h0_33, h0_34, h0_35, h0_36, h0_37, h0_38, h0_39, h0_40, h0_41, h0_42, h0_43, h0_44, h0_45, h0_46, h0_47, h0_48, h0_49, h0_50, h0_51, h0_52, h0_53, h0_54, h0_55, h0_56, h0_57, h0_58, h0_59, h0_60, h0_61, h0_62, h0_63, h0_64, h0_65, h0_66, h0_67, h0_68, h0_69]))] t.heap ∧ va_K (dC, dI) vwCl [] t ∧ va_D (va_A [(h0, .inr (12, [h0_0, h0_1, .int mx, h0_3, h0_4, h0_5, h0_6, h0_7, h0_8, h0_9, h0_10, h0_11, h0_12, h0_13, h0_14, h0_15, h0_16, h0_17, h0_18, h0_19, h0_20, h0_21, h0_22, h0_23, h0_24, h0_25, h0_26, h0_27, h0_28, h0_29, h0_30, h0_31, h0_32, h0_33, h0_34, h0_35, h0_36, h0_37, h0_38, h0_39, h0_40, h0_41, h0_42, h0_43, h0_44, h0_45, h0_46, h0_47, h0_48, h0_49, h0_50, h0_51, h0_52, h0_53, h0_54, h0_55, h0_56, h0_57, h0_58, h0_59, h0_60, h0_61, h0_62, h0_63, h0_64, h0_65, h0_66, h0_67, h0_68, h0_69]))] sz) [(h0, .inr (12, [h0_0, h0_1, .int n_h0_thrown, h0_3, h0_4, h0_5, h0_6, h0_7, h0_8, h0_9, h0_10, h0_11, h0_12, h0_13, h0_14, h0_15, h0_16, h0_17, h0_18, h0_19, h0_20, h0_21, h0_22, h0_23, h0_24, h0_25, h0_26, h0_27, h0_28, h0_29, h0_30, h0_31, h0_32, h0_33, h0_34, h0_35, h0_36, h0_37, h0_38, h0_39, h0_40, h0_41, h0_42, h0_43, h0_44, h0_45, h0_46, h0_47, h0_48, h0_49, h0_50, h0_51, h0_52, h0_53, h0_54, h0_55, h0_56, h0_57, h0_58, h0_59, h0_60, h0_61, h0_62, h0_63, h0_64, h0_65, h0_66, h0_67, h0_68, h0_69]))]) (va_A [(h0, .inr (12, [h0_0, h0_1, .int mx, h0_3, h0_4, h0_5, h0_6, h0_7, h0_8, h0_9, h0_10, h0_11, h0_12, h0_13, h0_14, h0_15, h0_16, h0_17, h0_18, h0_19, h0_20, h0_21, h0_22, h0_23, h0_24, h0_25, h0_26, h0_27, h0_28, h0_29, h0_30, h0_31, h0_32, h0_33, h0_34, h0_35, h0_36, h0_37, h0_38, h0_39, h0_40, h0_41, h0_42, h0_43, h0_44, h0_45, h0_46, h0_47, h0_48, h0_49, h0_50, h0_51, h0_52, h0_53, h0_54, h0_55, h0_56, h0_57, h0_58, h0_59, h0_60, h0_61, h0_62, h0_63, h0_64, h0_65, h0_66, h0_67, h0_68, h0_69]))] sz)) 0 0 (va_A [(h0, .inr (12, [h0_0, h0_1, .int mx, h0_3, h0_4, h0_5, h0_6, h0_7, h0_8, h0_9, h0_10, h0_11, h0_12, h0_13, h0_14, h0_15, h0_16, h0_17, h0_18, h0_19, h0_20, h0_21, h0_22, h0_23, h0_24, h0_25, h0_26, h0_27, h0_28, h0_29, h0_30, h0_31, h0_32, h0_33, h0_34, h0_35, h0_36, h0_37, h0_38, h0_39, h0_40, h0_41, h0_42, h0_43, h0_44, h0_45, h0_46, h0_47, h0_48, h0_49, h0_50, h0_51, h0_52, h0_53, h0_54, h0_55, h0_56, h0_57, h0_58, h0_59, h0_60, h0_61, h0_62, h0_63, h0_64, h0_65, h0_66, h0_67, h0_68, h0_69]))] sz) := by
  refine Met.ofW (cc := cX12_fails) (maxL := 2) (ret := (some .int)) (by decide) rfl ?_
  intro p e s m args below meth c s₁ B hml hv
  obtain ⟨rfl, hsz, hP, hK, hD0⟩ := hv
  have hx := B.exec
  have hb := B.bytes
  have hr := B.returns
  have hts := atoms_spec (ws := u_s_X12_fails) B.pre
  have hown : s.vm.findClass RX12 = some m.cls := findClass_of_methodNamed B.named
  have hlocks := B.notSynchronized
  subst hsz
  have hD := hD0.self (sz := s.heap.size)
  generalize hAe : va_A [(h0, .inr (12, [h0_0, h0_1, .int mx, h0_3, h0_4, h0_5, h0_6, h0_7, h0_8, h0_9, h0_10, h0_11, h0_12, h0_13, h0_14, h0_15, h0_16, h0_17, h0_18, h0_19, h0_20, h0_21, h0_22, h0_23, h0_24, h0_25, h0_26, h0_27, h0_28, h0_29, h0_30, h0_31, h0_32, h0_33, h0_34, h0_35, h0_36, h0_37, h0_38, h0_39, h0_40, h0_41, h0_42, h0_43, h0_44, h0_45, h0_46, h0_47, h0_48, h0_49, h0_50, h0_51, h0_52, h0_53, h0_54, h0_55, h0_56, h0_57, h0_58, h0_59, h0_60, h0_61, h0_62, h0_63, h0_64, h0_65, h0_66, h0_67, h0_68, h0_69]))] s.heap.size = A at hD ⊢
  have hA : ∀ q : Nat, s.heap.size ≤ q → A q := fun q h => by rw [← hAe]; exact Or.inr h
  have hS : va_S A s.heap s.heap [] := va_S.rf
  have hP : va_P (dC, dI) vwCl [(h0, .inr (12, [h0_0, h0_1, .int mx, h0_3, h0_4, h0_5, h0_6, h0_7, h0_8, h0_9, h0_10, h0_11, h0_12, h0_13, h0_14, h0_15, h0_16, h0_17, h0_18, h0_19, h0_20, h0_21, h0_22, h0_23, h0_24, h0_25, h0_26, h0_27, h0_28, h0_29, h0_30, h0_31, h0_32, h0_33, h0_34, h0_35, h0_36, h0_37, h0_38, h0_39, h0_40, h0_41, h0_42, h0_43, h0_44, h0_45, h0_46, h0_47, h0_48, h0_49, h0_50, h0_51, h0_52, h0_53, h0_54, h0_55, h0_56, h0_57, h0_58, h0_59, h0_60, h0_61, h0_62, h0_63, h0_64, h0_65, h0_66, h0_67, h0_68, h0_69]))] s.heap := hP
  have w__fieldLink_RX12_145_ShellHeapModel_thrown_I_ := hts (.fieldLink RX12 145 "ShellHeapModel" "thrown" "I") (z_mc (z_ml z_m0))
  have hiX12 := show ∀ w ∈ u_ws RX12 TX12 70, w ∈ u_s_X12_fails from fun w h => z_mc (z_mr (z_ml h))
  have krr_p1 := z_rng p1
  have hl := lv_entry ([.ref h0, .int p1]) (n := 2) (Nat.le_of_ble_eq_true rfl)
  rw [lg_entry_eq]
  generalize (lg_sl ([.ref h0, .int p1]) ++ List.replicate (2 - (lg_sl ([.ref h0, .int p1])).length) Slot.unset).toArray = ls at hl ⊢
  have hl : lv_has ls 2 [(0, .ref h0), (1, .int p1)] := hl
  refine lv_aload_n hx hb dX12_fails_0 rfl (lv_at hl 0 rfl) ?_
  refine lv_iload_n hx hb dX12_fails_1 rfl (lv_at hl 1 rfl) ?_
  refine va_put (D := (dC, dI)) (ci := 12) (v := .int p1) (ty := .int) (C := RX12) (T := TX12) (N := 70) hx hb hts hiX12 tyX12 tyX12_ok nmX12 hown hK hP hD hS 0 rfl rfl 2 (by decide) w__fieldLink_RX12_145_ShellHeapModel_thrown_I_ (fun _ h9 => h9) rfl (by decide +kernel) rfl rfl (Nat.le_of_ble_eq_true rfl) dX12_fails_2 (fun H_1 locs hP hD hS => ?_)
  obtain ⟨hP, hD⟩ := z_s_0_2 hP hD
  refine lv_iconst (v := 0) hx hb dX12_fails_5 (by decide) ?_
  have hP9 := hP
  have hD9 := hD
  have hK9 := hK.sub (tys' := []) [] rfl
  refine W.widen (k := 0) (n := 0) (Nat.le_of_ble_eq_true rfl) (Nat.le_of_ble_eq_true rfl) ?_
  exact W.iret (v := 0) hx hb hr (fun t ht hW => ⟨⟨0, (), rfl, trivial, ⟨p1, by rw [ht]; exact hP9, va_K.moved hW.alike hK9, hD9⟩⟩, hS.F ht⟩) hS.2.2 dX12_fails_6
def u_s_X12_gather : List Cond := .code yX12_gather cX12_gather 6 (some .int) :: ([.fieldLink RX12 151 "ShellHeapModel" "layers" "I", .fieldLink RX12 32 "ShellHeapModel" "bedOf" "[I", .fieldLink RX12 84 "ShellHeapModel" "told" "[I", .fieldLink RX12 81 "ShellHeapModel" "readings" "[I"] ++ (wsX120 ++ []))
theorem gd_s_X12_gather : z_gd u_s_X12_gather := z_gdc (by decide +kernel) (z_gda gdX12 (z_gd0))
set_option maxHeartbeats 4000000 in
set_option maxRecDepth 100000 in
theorem s_X12_gather (l : Launch) (dC : Nat → ClassId) (dI : Nat → Nat → Nat) (sz : Nat) (h0 : Nat) (p1 : Int32) (p2 : Int32) (h0_0 : Value) (h0_1 : Value) (h0_2 : Value) (ml : Int32) (h0_4 : Value) (h0_5 : Value) (h0_6 : Value) (h0_7 : Value) (h0_8 : Value) (h0_9 : Value) (h0_10 : Value) (h1 : Nat) (h0_12 : Value) (h0_13 : Value) (h0_14 : Value) (h0_15 : Value) (h0_16 : Value) (h0_17 : Value) (h0_18 : Value) (h0_19 : Value) (h0_20 : Value) (h0_21 : Value) (h0_22 : Value) (h0_23 : Value) (h0_24 : Value) (h0_25 : Value) (h0_26 : Value) (h0_27 : Value) (h0_28 : Value) (h0_29 : Value) (h0_30 : Value) (h0_31 : Value) (h0_32 : Value) (h0_33 : Value) (h0_34 : Value) (h0_35 : Value) (h3 : Nat) (h2 : Nat) (h0_38 : Value) (h0_39 : Value) (h0_40 : Value) (h0_41 : Value) (h0_42 : Value) (h0_43 : Value) (h0_44 : Value) (h0_45 : Value) (h0_46 : Value) (h0_47 : Value) (h0_48 : Value) (h0_49 : Value) (h0_50 : Value) (h0_51 : Value) (h0_52 : Value) (h0_53 : Value) (h0_54 : Value) (h0_55 : Value) (h0_56 : Value) (h0_57 : Value) (h0_58 : Value) (h0_59 : Value) (h0_60 : Value) (h0_61 : Value) (h0_62 : Value) (h0_63 : Value) (h0_64 : Value) (h0_65 : Value) (h0_66 : Value) (h0_67 : Value) (h0_68 : Value) (h0_69 : Value) (ch1 : ClassId) (fh1 : Nat → Int32) (ch2 : ClassId) (fh2 : Nat → Int32) (ch3 : ClassId) (fh3 : Nat → Int32) (hB_p2 : ((0 : Int) ≤ (p2).toInt ∧ (p2).toInt ≤ (2 : Int))) (hB_ml : ((0 : Int) ≤ (ml).toInt ∧ (ml).toInt ≤ (12 : Int))) (hI_h1 : ∀ j : Nat, ((0 : Int) ≤ (fh1 j).toInt ∧ (fh1 j).toInt ≤ (11 : Int))) : Met l yX12_gather u_s_X12_gather ({ frames := 0, cells := 0, slots := 0, locals := 0 }) (va_Pc [.ref h0, .int p1, .int p2] (z_C (dC, dI) vwCl [(h0, .inr (12, [h0_0, h0_1, h0_2, .int ml, h0_4, h0_5, h0_6, h0_7, h0_8, h0_9, h0_10, .ref h1, h0_12, h0_13, h0_14, h0_15, h0_16, h0_17, h0_18, h0_19, h0_20, h0_21, h0_22, h0_23, h0_24, h0_25, h0_26, h0_27, h0_28, h0_29, h0_30, h0_31, h0_32, h0_33, h0_34, h0_35, .ref h3, .ref h2, h0_38, h0_39, h0_40, h0_41, h0_42, h0_43, h0_44, h0_45, h0_46, h0_47, h0_48, h0_49, h0_50, h0_51, h0_52, h0_53, h0_54, h0_55, h0_56, h0_57, h0_58, h0_59, h0_60, h0_61, h0_62, h0_63, h0_64, h0_65, h0_66, h0_67, h0_68, h0_69])), (h1, .inl (ch1, 12, .inl fh1)), (h2, .inl (ch2, 4, .inl fh2)), (h3, .inl (ch3, 144, .inl fh3))] [(ch1, .int), (ch2, .int), (ch3, .int)] sz)) (va_Qi (fun (r : Int32) (_ : Unit) => True) (fun (_ : Unit) (t : State) => ∃ (g_h2 : Nat → Int32), va_P (dC, dI) vwCl [(h0, .inr (12, [h0_0, h0_1, h0_2, .int ml, h0_4, h0_5, h0_6, h0_7, h0_8, h0_9, h0_10, .ref h1, h0_12, h0_13, h0_14, h0_15, h0_16, h0_17, h0_18, h0_19, h0_20, h0_21, h0_22, h0_23, h0_24, h0_25, h0_26, h0_27, h0_28, h0_29, h0_30, h0_31, h0_32, h0_33, h0_34, h0_35, .ref h3, .ref h2, h0_38, h0_39, h0_40, h0_41, h0_42, h0_43, h0_44, h0_45, h0_46, h0_47, h0_48, h0_49, h0_50, h0_51, h0_52, h0_53, h0_54, h0_55, h0_56, h0_57, h0_58, h0_59, h0_60, h0_61, h0_62, h0_63, h0_64, h0_65, h0_66, h0_67, h0_68, h0_69])), (h1, .inl (ch1, 12, .inl fh1)), (h2, .inl (ch2, 4, .inl g_h2)), (h3, .inl (ch3, 144, .inl fh3))] t.heap ∧ va_K (dC, dI) vwCl [] t ∧ va_D (va_A [(h0, .inr (12, [h0_0, h0_1, h0_2, .int ml, h0_4, h0_5, h0_6, h0_7, h0_8, h0_9, h0_10, .ref h1, h0_12, h0_13, h0_14, h0_15, h0_16, h0_17, h0_18, h0_19, h0_20, h0_21, h0_22, h0_23, h0_24, h0_25, h0_26, h0_27, h0_28, h0_29, h0_30, h0_31, h0_32, h0_33, h0_34, h0_35, .ref h3, .ref h2, h0_38, h0_39, h0_40, h0_41, h0_42, h0_43, h0_44, h0_45, h0_46, h0_47, h0_48, h0_49, h0_50, h0_51, h0_52, h0_53, h0_54, h0_55, h0_56, h0_57, h0_58, h0_59, h0_60, h0_61, h0_62, h0_63, h0_64, h0_65, h0_66, h0_67, h0_68, h0_69])), (h1, .inl (ch1, 12, .inl fh1)), (h2, .inl (ch2, 4, .inl fh2)), (h3, .inl (ch3, 144, .inl fh3))] sz) [(h0, .inr (12, [h0_0, h0_1, h0_2, .int ml, h0_4, h0_5, h0_6, h0_7, h0_8, h0_9, h0_10, .ref h1, h0_12, h0_13, h0_14, h0_15, h0_16, h0_17, h0_18, h0_19, h0_20, h0_21, h0_22, h0_23, h0_24, h0_25, h0_26, h0_27, h0_28, h0_29, h0_30, h0_31, h0_32, h0_33, h0_34, h0_35, .ref h3, .ref h2, h0_38, h0_39, h0_40, h0_41, h0_42, h0_43, h0_44, h0_45, h0_46, h0_47, h0_48, h0_49, h0_50, h0_51, h0_52, h0_53, h0_54, h0_55, h0_56, h0_57, h0_58, h0_59, h0_60, h0_61, h0_62, h0_63, h0_64, h0_65, h0_66, h0_67, h0_68, h0_69])), (h1, .inl (ch1, 12, .inl fh1)), (h2, .inl (ch2, 4, .inl g_h2)), (h3, .inl (ch3, 144, .inl fh3))]) (va_A [(h0, .inr (12, [h0_0, h0_1, h0_2, .int ml, h0_4, h0_5, h0_6, h0_7, h0_8, h0_9, h0_10, .ref h1, h0_12, h0_13, h0_14, h0_15, h0_16, h0_17, h0_18, h0_19, h0_20, h0_21, h0_22, h0_23, h0_24, h0_25, h0_26, h0_27, h0_28, h0_29, h0_30, h0_31, h0_32, h0_33, h0_34, h0_35, .ref h3, .ref h2, h0_38, h0_39, h0_40, h0_41, h0_42, h0_43, h0_44, h0_45, h0_46, h0_47, h0_48, h0_49, h0_50, h0_51, h0_52, h0_53, h0_54, h0_55, h0_56, h0_57, h0_58, h0_59, h0_60, h0_61, h0_62, h0_63, h0_64, h0_65, h0_66, h0_67, h0_68, h0_69])), (h1, .inl (ch1, 12, .inl fh1)), (h2, .inl (ch2, 4, .inl fh2)), (h3, .inl (ch3, 144, .inl fh3))] sz)) 0 0 (va_A [(h0, .inr (12, [h0_0, h0_1, h0_2, .int ml, h0_4, h0_5, h0_6, h0_7, h0_8, h0_9, h0_10, .ref h1, h0_12, h0_13, h0_14, h0_15, h0_16, h0_17, h0_18, h0_19, h0_20, h0_21, h0_22, h0_23, h0_24, h0_25, h0_26, h0_27, h0_28, h0_29, h0_30, h0_31, h0_32, h0_33, h0_34, h0_35, .ref h3, .ref h2, h0_38, h0_39, h0_40, h0_41, h0_42, h0_43, h0_44, h0_45, h0_46, h0_47, h0_48, h0_49, h0_50, h0_51, h0_52, h0_53, h0_54, h0_55, h0_56, h0_57, h0_58, h0_59, h0_60, h0_61, h0_62, h0_63, h0_64, h0_65, h0_66, h0_67, h0_68, h0_69])), (h1, .inl (ch1, 12, .inl fh1)), (h2, .inl (ch2, 4, .inl fh2)), (h3, .inl (ch3, 144, .inl fh3))] sz) := by
  refine Met.ofW (cc := cX12_gather) (maxL := 6) (ret := (some .int)) (by decide) rfl ?_
  intro p e s m args below meth c s₁ B hml hv
  obtain ⟨rfl, hsz, hP, hK, hD0⟩ := hv
  have hx := B.exec
  have hb := B.bytes
  have hr := B.returns
  have hts := atoms_spec (ws := u_s_X12_gather) B.pre
  have hown : s.vm.findClass RX12 = some m.cls := findClass_of_methodNamed B.named
  have hlocks := B.notSynchronized
  subst hsz
  have hD := hD0.self (sz := s.heap.size)
  generalize hAe : va_A [(h0, .inr (12, [h0_0, h0_1, h0_2, .int ml, h0_4, h0_5, h0_6, h0_7, h0_8, h0_9, h0_10, .ref h1, h0_12, h0_13, h0_14, h0_15, h0_16, h0_17, h0_18, h0_19, h0_20, h0_21, h0_22, h0_23, h0_24, h0_25, h0_26, h0_27, h0_28, h0_29, h0_30, h0_31, h0_32, h0_33, h0_34, h0_35, .ref h3, .ref h2, h0_38, h0_39, h0_40, h0_41, h0_42, h0_43, h0_44, h0_45, h0_46, h0_47, h0_48, h0_49, h0_50, h0_51, h0_52, h0_53, h0_54, h0_55, h0_56, h0_57, h0_58, h0_59, h0_60, h0_61, h0_62, h0_63, h0_64, h0_65, h0_66, h0_67, h0_68, h0_69])), (h1, .inl (ch1, 12, .inl fh1)), (h2, .inl (ch2, 4, .inl fh2)), (h3, .inl (ch3, 144, .inl fh3))] s.heap.size = A at hD ⊢
  have hA : ∀ q : Nat, s.heap.size ≤ q → A q := fun q h => by rw [← hAe]; exact Or.inr h
  have hS : va_S A s.heap s.heap [] := va_S.rf
  have hP : va_P (dC, dI) vwCl [(h0, .inr (12, [h0_0, h0_1, h0_2, .int ml, h0_4, h0_5, h0_6, h0_7, h0_8, h0_9, h0_10, .ref h1, h0_12, h0_13, h0_14, h0_15, h0_16, h0_17, h0_18, h0_19, h0_20, h0_21, h0_22, h0_23, h0_24, h0_25, h0_26, h0_27, h0_28, h0_29, h0_30, h0_31, h0_32, h0_33, h0_34, h0_35, .ref h3, .ref h2, h0_38, h0_39, h0_40, h0_41, h0_42, h0_43, h0_44, h0_45, h0_46, h0_47, h0_48, h0_49, h0_50, h0_51, h0_52, h0_53, h0_54, h0_55, h0_56, h0_57, h0_58, h0_59, h0_60, h0_61, h0_62, h0_63, h0_64, h0_65, h0_66, h0_67, h0_68, h0_69])), (h1, .inl (ch1, 12, .inl fh1)), (h2, .inl (ch2, 4, .inl fh2)), (h3, .inl (ch3, 144, .inl fh3))] s.heap := hP
  have w__fieldLink_RX12_151_ShellHeapModel_layers_I_ := hts (.fieldLink RX12 151 "ShellHeapModel" "layers" "I") (z_mc (z_ml z_m0))
  have hiX12 := show ∀ w ∈ u_ws RX12 TX12 70, w ∈ u_s_X12_gather from fun w h => z_mc (z_mr (z_ml h))
  have w__fieldLink_RX12_32_ShellHeapModel_bedOf_I_ := hts (.fieldLink RX12 32 "ShellHeapModel" "bedOf" "[I") (z_mc (z_ml z_m1))
  have w__fieldLink_RX12_84_ShellHeapModel_told_I_ := hts (.fieldLink RX12 84 "ShellHeapModel" "told" "[I") (z_mc (z_ml z_m2))
  have w__fieldLink_RX12_81_ShellHeapModel_readings_I_ := hts (.fieldLink RX12 81 "ShellHeapModel" "readings" "[I") (z_mc (z_ml z_m3))
  have krr_p1 := z_rng p1
  have hl := lv_entry ([.ref h0, .int p1, .int p2]) (n := 6) (Nat.le_of_ble_eq_true rfl)
  rw [lg_entry_eq]
  generalize (lg_sl ([.ref h0, .int p1, .int p2]) ++ List.replicate (6 - (lg_sl ([.ref h0, .int p1, .int p2])).length) Slot.unset).toArray = ls at hl ⊢
  have hl : lv_has ls 6 [(0, .ref h0), (1, .int p1), (2, .int p2)] := hl
  refine z_nameQ (fun QQ hQQ => ?_)
  refine lv_iconst (v := 0) hx hb dX12_gather_0 (by decide) ?_
  refine lv_istore_n (lv' := [(3, .int 0), (0, .ref h0), (1, .int p1), (2, .int p2)]) hx hb dX12_gather_1 rfl hl (by decide) rfl (fun ls hl => ?_)
  refine lv_iconst (v := 0) hx hb dX12_gather_2 (by decide) ?_
  refine lv_istore (lv' := [(4, .int 0), (3, .int 0), (0, .ref h0), (1, .int p1), (2, .int p2)]) hx hb dX12_gather_3 hl (by decide) rfl (fun ls hl => ?_)
  have loop_1 : ∀ (n_2 : Nat) (i_4 : Int32) (f_5 : Nat → Int32) (H : Heap) (locs : List Loc) (ls : Array Slot), (5 - (i_4).toInt).toNat < n_2 → (((0 : Int) ≤ (i_4).toInt ∧ (i_4).toInt ≤ (4 : Int))) → va_P (dC, dI) vwCl [(h0, .inr (12, [h0_0, h0_1, h0_2, .int ml, h0_4, h0_5, h0_6, h0_7, h0_8, h0_9, h0_10, .ref h1, h0_12, h0_13, h0_14, h0_15, h0_16, h0_17, h0_18, h0_19, h0_20, h0_21, h0_22, h0_23, h0_24, h0_25, h0_26, h0_27, h0_28, h0_29, h0_30, h0_31, h0_32, h0_33, h0_34, h0_35, .ref h3, .ref h2, h0_38, h0_39, h0_40, h0_41, h0_42, h0_43, h0_44, h0_45, h0_46, h0_47, h0_48, h0_49, h0_50, h0_51, h0_52, h0_53, h0_54, h0_55, h0_56, h0_57, h0_58, h0_59, h0_60, h0_61, h0_62, h0_63, h0_64, h0_65, h0_66, h0_67, h0_68, h0_69])), (h1, .inl (ch1, 12, .inl fh1)), (h2, .inl (ch2, 4, .inl f_5)), (h3, .inl (ch3, 144, .inl fh3))] H → va_D A [(h0, .inr (12, [h0_0, h0_1, h0_2, .int ml, h0_4, h0_5, h0_6, h0_7, h0_8, h0_9, h0_10, .ref h1, h0_12, h0_13, h0_14, h0_15, h0_16, h0_17, h0_18, h0_19, h0_20, h0_21, h0_22, h0_23, h0_24, h0_25, h0_26, h0_27, h0_28, h0_29, h0_30, h0_31, h0_32, h0_33, h0_34, h0_35, .ref h3, .ref h2, h0_38, h0_39, h0_40, h0_41, h0_42, h0_43, h0_44, h0_45, h0_46, h0_47, h0_48, h0_49, h0_50, h0_51, h0_52, h0_53, h0_54, h0_55, h0_56, h0_57, h0_58, h0_59, h0_60, h0_61, h0_62, h0_63, h0_64, h0_65, h0_66, h0_67, h0_68, h0_69])), (h1, .inl (ch1, 12, .inl fh1)), (h2, .inl (ch2, 4, .inl f_5)), (h3, .inl (ch3, 144, .inl fh3))] → va_S A s.heap H locs → lv_has ls 6 [(4, .int i_4), (3, .int 0), (0, .ref h0), (1, .int p1), (2, .int p2)] → W p l e ({ frames := 0, cells := 0, slots := 0, locals := 0 } : Room) s m ([.ref h0, .int p1, .int p2] : List Value).toArray below meth c H locs 0 0 QQ (F0 m 5 ls []) := by
    intro n_2
    induction n_2 with
    | zero => intro i_4 f_5 H locs ls hm; exact absurd hm (Nat.not_lt_zero _)
    | succ n_2 ih_3 =>
      intro i_4 f_5 H locs ls hm hF_6 hP hD hS hl
      refine lv_iload hx hb dX12_gather_5 (lv_at hl 0 rfl) ?_
      refine lv_iconst (v := 4) hx hb dX12_gather_7 (by decide) ?_
      refine lv_icmp_ge (tgt := 25) hx hb dX12_gather_8 (by decide) (fun c_7 => ?_) (fun c_7 => ?_)
      · have k_8 : (4 : Int) ≤ (i_4).toInt := z_le c_7
        obtain rfl : i_4 = 4 := z_eq' (show (i_4).toInt = (4 : Int) by omega)
        refine lv_iconst (v := 0) hx hb dX12_gather_25 (by decide) ?_
        refine lv_istore (lv' := [(4, .int 0), (3, .int 0), (0, .ref h0), (1, .int p1), (2, .int p2)]) hx hb dX12_gather_26 hl (by decide) rfl (fun ls hl => ?_)
        have loop_10 : ∀ (n_11 : Nat) (i_13 : Int32) (n_14 : Int32) (f_15 : Nat → Int32) (H : Heap) (locs : List Loc) (ls : Array Slot), (13 - (i_13).toInt).toNat < n_11 → (((0 : Int) ≤ (i_13).toInt ∧ (i_13).toInt ≤ (12 : Int))) → va_P (dC, dI) vwCl [(h0, .inr (12, [h0_0, h0_1, h0_2, .int ml, h0_4, h0_5, h0_6, h0_7, h0_8, h0_9, h0_10, .ref h1, h0_12, h0_13, h0_14, h0_15, h0_16, h0_17, h0_18, h0_19, h0_20, h0_21, h0_22, h0_23, h0_24, h0_25, h0_26, h0_27, h0_28, h0_29, h0_30, h0_31, h0_32, h0_33, h0_34, h0_35, .ref h3, .ref h2, h0_38, h0_39, h0_40, h0_41, h0_42, h0_43, h0_44, h0_45, h0_46, h0_47, h0_48, h0_49, h0_50, h0_51, h0_52, h0_53, h0_54, h0_55, h0_56, h0_57, h0_58, h0_59, h0_60, h0_61, h0_62, h0_63, h0_64, h0_65, h0_66, h0_67, h0_68, h0_69])), (h1, .inl (ch1, 12, .inl fh1)), (h2, .inl (ch2, 4, .inl f_15)), (h3, .inl (ch3, 144, .inl fh3))] H → va_D A [(h0, .inr (12, [h0_0, h0_1, h0_2, .int ml, h0_4, h0_5, h0_6, h0_7, h0_8, h0_9, h0_10, .ref h1, h0_12, h0_13, h0_14, h0_15, h0_16, h0_17, h0_18, h0_19, h0_20, h0_21, h0_22, h0_23, h0_24, h0_25, h0_26, h0_27, h0_28, h0_29, h0_30, h0_31, h0_32, h0_33, h0_34, h0_35, .ref h3, .ref h2, h0_38, h0_39, h0_40, h0_41, h0_42, h0_43, h0_44, h0_45, h0_46, h0_47, h0_48, h0_49, h0_50, h0_51, h0_52, h0_53, h0_54, h0_55, h0_56, h0_57, h0_58, h0_59, h0_60, h0_61, h0_62, h0_63, h0_64, h0_65, h0_66, h0_67, h0_68, h0_69])), (h1, .inl (ch1, 12, .inl fh1)), (h2, .inl (ch2, 4, .inl f_15)), (h3, .inl (ch3, 144, .inl fh3))] → va_S A s.heap H locs → lv_has ls 6 [(4, .int i_13), (3, .int n_14), (0, .ref h0), (1, .int p1), (2, .int p2)] → W p l e ({ frames := 0, cells := 0, slots := 0, locals := 0 } : Room) s m ([.ref h0, .int p1, .int p2] : List Value).toArray below meth c H locs 0 0 QQ (F0 m 28 ls []) := by
          intro n_11
          induction n_11 with
          | zero => intro i_13 n_14 f_15 H locs ls hm; exact absurd hm (Nat.not_lt_zero _)
          | succ n_11 ih_12 =>
            intro i_13 n_14 f_15 H locs ls hm hF_16 hP hD hS hl
            refine lv_iload hx hb dX12_gather_28 (lv_at hl 0 rfl) ?_
            refine lv_aload_n hx hb dX12_gather_30 rfl (lv_at hl 2 rfl) ?_
            refine va_get (D := (dC, dI)) (ci := 12) (v := .int ml) (C := RX12) (T := TX12) (N := 70) hx hb hts hiX12 hown hK hP 0 rfl rfl 3 (by decide) w__fieldLink_RX12_151_ShellHeapModel_layers_I_ (fun _ h9 => h9) rfl dX12_gather_31 ?_
            refine lv_icmp_ge (tgt := 116) hx hb dX12_gather_34 (by decide) (fun c_17 => ?_) (fun c_17 => ?_)
            · have k_18 : (ml).toInt ≤ (i_13).toInt := z_le c_17
              refine lv_iload_n hx hb dX12_gather_116 rfl (lv_at hl 1 rfl) ?_
              refine z_backQ hQQ ?_
              have hP9 := hP
              have hD9 := hD
              have hK9 := hK.sub (tys' := []) [] rfl
              refine W.widen (k := 0) (n := 0) (Nat.le_of_ble_eq_true rfl) (Nat.le_of_ble_eq_true rfl) ?_
              exact W.iret (v := n_14) hx hb hr (fun t ht hW => ⟨⟨n_14, (), rfl, trivial, ⟨f_15, by rw [ht]; exact hP9, va_K.moved hW.alike hK9, hD9⟩⟩, hS.F ht⟩) hS.2.2 dX12_gather_117
            · have k_19 : (ml).toInt > (i_13).toInt := z_nle c_17
              refine lv_iconst (v := 0) hx hb dX12_gather_37 (by decide) ?_
              refine lv_istore (lv' := [(5, .int 0), (4, .int i_13), (3, .int n_14), (0, .ref h0), (1, .int p1), (2, .int p2)]) hx hb dX12_gather_38 hl (by decide) rfl (fun ls hl => ?_)
              have loop_20 : ∀ (n_21 : Nat) (i_23 : Int32) (n_24 : Int32) (f_25 : Nat → Int32) (H : Heap) (locs : List Loc) (ls : Array Slot), (5 - (i_23).toInt).toNat < n_21 → (((0 : Int) ≤ (i_23).toInt ∧ (i_23).toInt ≤ (4 : Int))) → va_P (dC, dI) vwCl [(h0, .inr (12, [h0_0, h0_1, h0_2, .int ml, h0_4, h0_5, h0_6, h0_7, h0_8, h0_9, h0_10, .ref h1, h0_12, h0_13, h0_14, h0_15, h0_16, h0_17, h0_18, h0_19, h0_20, h0_21, h0_22, h0_23, h0_24, h0_25, h0_26, h0_27, h0_28, h0_29, h0_30, h0_31, h0_32, h0_33, h0_34, h0_35, .ref h3, .ref h2, h0_38, h0_39, h0_40, h0_41, h0_42, h0_43, h0_44, h0_45, h0_46, h0_47, h0_48, h0_49, h0_50, h0_51, h0_52, h0_53, h0_54, h0_55, h0_56, h0_57, h0_58, h0_59, h0_60, h0_61, h0_62, h0_63, h0_64, h0_65, h0_66, h0_67, h0_68, h0_69])), (h1, .inl (ch1, 12, .inl fh1)), (h2, .inl (ch2, 4, .inl f_25)), (h3, .inl (ch3, 144, .inl fh3))] H → va_D A [(h0, .inr (12, [h0_0, h0_1, h0_2, .int ml, h0_4, h0_5, h0_6, h0_7, h0_8, h0_9, h0_10, .ref h1, h0_12, h0_13, h0_14, h0_15, h0_16, h0_17, h0_18, h0_19, h0_20, h0_21, h0_22, h0_23, h0_24, h0_25, h0_26, h0_27, h0_28, h0_29, h0_30, h0_31, h0_32, h0_33, h0_34, h0_35, .ref h3, .ref h2, h0_38, h0_39, h0_40, h0_41, h0_42, h0_43, h0_44, h0_45, h0_46, h0_47, h0_48, h0_49, h0_50, h0_51, h0_52, h0_53, h0_54, h0_55, h0_56, h0_57, h0_58, h0_59, h0_60, h0_61, h0_62, h0_63, h0_64, h0_65, h0_66, h0_67, h0_68, h0_69])), (h1, .inl (ch1, 12, .inl fh1)), (h2, .inl (ch2, 4, .inl f_25)), (h3, .inl (ch3, 144, .inl fh3))] → va_S A s.heap H locs → lv_has ls 6 [(5, .int i_23), (4, .int i_13), (3, .int n_24), (0, .ref h0), (1, .int p1), (2, .int p2)] → W p l e ({ frames := 0, cells := 0, slots := 0, locals := 0 } : Room) s m ([.ref h0, .int p1, .int p2] : List Value).toArray below meth c H locs 0 0 QQ (F0 m 40 ls []) := by
                intro n_21
                induction n_21 with
                | zero => intro i_23 n_24 f_25 H locs ls hm; exact absurd hm (Nat.not_lt_zero _)
                | succ n_21 ih_22 =>
                  intro i_23 n_24 f_25 H locs ls hm hF_26 hP hD hS hl
                  refine lv_iload hx hb dX12_gather_40 (lv_at hl 0 rfl) ?_
                  refine lv_iconst (v := 4) hx hb dX12_gather_42 (by decide) ?_
                  refine lv_icmp_ge (tgt := 110) hx hb dX12_gather_43 (by decide) (fun c_27 => ?_) (fun c_27 => ?_)
                  · have k_28 : (4 : Int) ≤ (i_23).toInt := z_le c_27
                    obtain rfl : i_23 = 4 := z_eq' (show (i_23).toInt = (4 : Int) by omega)
                    obtain ⟨z_30, ez_30⟩ : ∃ y : Int32, y = i_13 + 1 := ⟨_, rfl⟩
                    have kz_30 : (z_30).toInt = (i_13).toInt + (1 : Int) := by rw [ez_30]; exact z_add (b := 1) rfl rfl (z_al hF_16.1 (by decide)) (z_ah hF_16.2 (by decide))
                    refine lv_iinc (v := z_30) (lv' := [(4, .int z_30), (5, .int 4), (3, .int n_24), (0, .ref h0), (1, .int p1), (2, .int p2)]) hx hb dX12_gather_110 hl (k := 1) rfl (by rw [ez_30]; rfl) (by decide) rfl (fun ls hl => ?_)
                    refine lv_goto (tgt := 28) hx hb dX12_gather_113 (by decide) ?_
                    exact ih_12 z_30 n_24 f_25 _ _ _ (show (13 - (z_30).toInt).toNat < n_11 by omega) (show ((0 : Int) ≤ (z_30).toInt ∧ (z_30).toInt ≤ (12 : Int)) by omega) hP hD hS (lv_sub hl [0, 2, 3, 4, 5] rfl)
                  · have k_31 : (4 : Int) > (i_23).toInt := z_nle c_27
                    refine lv_aload_n hx hb dX12_gather_46 rfl (lv_at hl 3 rfl) ?_
                    refine va_get (D := (dC, dI)) (ci := 12) (v := .ref h1) (C := RX12) (T := TX12) (N := 70) hx hb hts hiX12 hown hK hP 0 rfl rfl 11 (by decide) w__fieldLink_RX12_32_ShellHeapModel_bedOf_I_ (fun _ h9 => h9) rfl dX12_gather_47 ?_
                    refine lv_iload hx hb dX12_gather_50 (lv_at hl 1 rfl) ?_
                    refine va_iald hx hb hK hP 1 0 rfl rfl (z_vpin (by omega) (by omega)) dX12_gather_52 ?_
                    refine lv_topi (fun z_32 ez_32 => ?_)
                    have kz_32 : ((0 : Int) ≤ (z_32).toInt ∧ (z_32).toInt ≤ (11 : Int)) := by rw [ez_32]; exact hI_h1 _
                    refine lv_iload_n hx hb dX12_gather_53 rfl (lv_at hl 4 rfl) ?_
                    refine lv_icmp_ne (tgt := 110) hx hb dX12_gather_54 (by decide) (fun c_33 => ?_) (fun c_33 => ?_)
                    · have k_34 : (z_32).toInt ≠ (p1).toInt := z_ne c_33
                      obtain ⟨z_35, ez_35⟩ : ∃ y : Int32, y = i_13 + 1 := ⟨_, rfl⟩
                      have kz_35 : (z_35).toInt = (i_13).toInt + (1 : Int) := by rw [ez_35]; exact z_add (b := 1) rfl rfl (z_al hF_16.1 (by decide)) (z_ah hF_16.2 (by decide))
                      refine lv_iinc (v := z_35) (lv' := [(4, .int z_35), (5, .int i_23), (3, .int n_24), (0, .ref h0), (1, .int p1), (2, .int p2)]) hx hb dX12_gather_110 hl (k := 1) rfl (by rw [ez_35]; rfl) (by decide) rfl (fun ls hl => ?_)
                      refine lv_goto (tgt := 28) hx hb dX12_gather_113 (by decide) ?_
                      exact ih_12 z_35 n_24 f_25 _ _ _ (show (13 - (z_35).toInt).toNat < n_11 by omega) (show ((0 : Int) ≤ (z_35).toInt ∧ (z_35).toInt ≤ (12 : Int)) by omega) hP hD hS (lv_sub hl [0, 2, 3, 4, 5] rfl)
                    · have k_36 : (z_32).toInt = (p1).toInt := z_eq c_33
                      refine lv_aload_n hx hb dX12_gather_57 rfl (lv_at hl 3 rfl) ?_
                      refine va_get (D := (dC, dI)) (ci := 12) (v := .ref h2) (C := RX12) (T := TX12) (N := 70) hx hb hts hiX12 hown hK hP 0 rfl rfl 37 (by decide) w__fieldLink_RX12_84_ShellHeapModel_told_I_ (fun _ h9 => h9) rfl dX12_gather_58 ?_
                      refine lv_iload hx hb dX12_gather_61 (lv_at hl 0 rfl) ?_
                      refine lv_dup2_11 hx hb dX12_gather_63 rfl rfl ?_
                      refine va_iald hx hb hK hP 2 1 rfl rfl (z_vpin (by omega) (by omega)) dX12_gather_64 ?_
                      refine lv_topi (fun z_37 ez_37 => ?_)
                      refine lv_aload_n hx hb dX12_gather_65 rfl (lv_at hl 3 rfl) ?_
                      refine va_get (D := (dC, dI)) (ci := 12) (v := .ref h3) (C := RX12) (T := TX12) (N := 70) hx hb hts hiX12 hown hK hP 0 rfl rfl 36 (by decide) w__fieldLink_RX12_81_ShellHeapModel_readings_I_ (fun _ h9 => h9) rfl dX12_gather_66 ?_
                      refine lv_bipush (v := 12) hx hb dX12_gather_69 (by decide) ?_
                      refine lv_iload hx hb dX12_gather_71 (lv_at hl 1 rfl) ?_
                      refine lv_imul hx hb dX12_gather_73 ?_
                      refine lv_topi (fun z_38 ez_38 => ?_)
                      have kz_38 : (z_38).toInt = (12 : Int) * (i_13).toInt := by rw [ez_38]; exact z_mul (a := (12 : Int)) (b := (i_13).toInt) rfl rfl (by omega) (by omega)
                      refine lv_iconst (v := 4) hx hb dX12_gather_74 (by decide) ?_
                      refine lv_iload_n hx hb dX12_gather_75 rfl (lv_at hl 5 rfl) ?_
                      refine lv_imul hx hb dX12_gather_76 ?_
                      refine lv_topi (fun z_39 ez_39 => ?_)
                      have kz_39 : (z_39).toInt = (4 : Int) * (p2).toInt := by rw [ez_39]; exact z_mul (a := (4 : Int)) (b := (p2).toInt) rfl rfl (by omega) (by omega)
                      refine lv_iadd hx hb dX12_gather_77 ?_
                      refine lv_topi (fun z_40 ez_40 => ?_)
                      have kz_40 : (z_40).toInt = (z_38).toInt + (z_39).toInt := by rw [ez_40]; exact z_add (a := (z_38).toInt) (b := (z_39).toInt) rfl rfl (by omega) (by omega)
                      refine lv_iload hx hb dX12_gather_78 (lv_at hl 0 rfl) ?_
                      refine lv_iadd hx hb dX12_gather_80 ?_
                      refine lv_topi (fun z_41 ez_41 => ?_)
                      have kz_41 : (z_41).toInt = (z_40).toInt + (i_23).toInt := by rw [ez_41]; exact z_add (a := (z_40).toInt) (b := (i_23).toInt) rfl rfl (by omega) (by omega)
                      refine va_iald hx hb hK hP 3 2 rfl rfl (z_vpin (by omega) (by omega)) dX12_gather_81 ?_
                      refine lv_topi (fun z_42 ez_42 => ?_)
                      refine lv_iadd hx hb dX12_gather_82 ?_
                      refine lv_topi (fun z_43 ez_43 => ?_)
                      refine va_iast hx hb hK hP hD hS 2 1 rfl rfl (z_vpin (by omega) (by omega)) dX12_gather_83 (fun H_44 locs hP hD hS => ?_)
                      obtain ⟨hP, hD⟩ := z_s_2 hP hD
                      generalize (upd f_25 (i_23 : Int32).toNatClampNeg z_43) = f_45 at hP hD
                      refine lv_iload_n hx hb dX12_gather_84 rfl (lv_at hl 2 rfl) ?_
                      refine lv_aload_n hx hb dX12_gather_85 rfl (lv_at hl 3 rfl) ?_
                      refine va_get (D := (dC, dI)) (ci := 12) (v := .ref h3) (C := RX12) (T := TX12) (N := 70) hx hb hts hiX12 hown hK hP 0 rfl rfl 36 (by decide) w__fieldLink_RX12_81_ShellHeapModel_readings_I_ (fun _ h9 => h9) rfl dX12_gather_86 ?_
                      refine lv_bipush (v := 12) hx hb dX12_gather_89 (by decide) ?_
                      refine lv_iload hx hb dX12_gather_91 (lv_at hl 1 rfl) ?_
                      refine lv_imul hx hb dX12_gather_93 ?_
                      refine lv_topi (fun z_46 ez_46 => ?_)
                      have kz_46 : (z_46).toInt = (12 : Int) * (i_13).toInt := by rw [ez_46]; exact z_mul (a := (12 : Int)) (b := (i_13).toInt) rfl rfl (by omega) (by omega)
                      refine lv_iconst (v := 4) hx hb dX12_gather_94 (by decide) ?_
                      refine lv_iload_n hx hb dX12_gather_95 rfl (lv_at hl 5 rfl) ?_
                      refine lv_imul hx hb dX12_gather_96 ?_
                      refine lv_topi (fun z_47 ez_47 => ?_)
                      have kz_47 : (z_47).toInt = (4 : Int) * (p2).toInt := by rw [ez_47]; exact z_mul (a := (4 : Int)) (b := (p2).toInt) rfl rfl (by omega) (by omega)
                      refine lv_iadd hx hb dX12_gather_97 ?_
                      refine lv_topi (fun z_48 ez_48 => ?_)
                      have kz_48 : (z_48).toInt = (z_46).toInt + (z_47).toInt := by rw [ez_48]; exact z_add (a := (z_46).toInt) (b := (z_47).toInt) rfl rfl (by omega) (by omega)
                      refine lv_iload hx hb dX12_gather_98 (lv_at hl 0 rfl) ?_
                      refine lv_iadd hx hb dX12_gather_100 ?_
                      refine lv_topi (fun z_49 ez_49 => ?_)
                      have kz_49 : (z_49).toInt = (z_48).toInt + (i_23).toInt := by rw [ez_49]; exact z_add (a := (z_48).toInt) (b := (i_23).toInt) rfl rfl (by omega) (by omega)
                      refine va_iald hx hb hK hP 3 2 rfl rfl (z_vpin (by omega) (by omega)) dX12_gather_101 ?_
                      refine lv_topi (fun z_50 ez_50 => ?_)
                      refine lv_iadd hx hb dX12_gather_102 ?_
                      refine lv_topi (fun z_51 ez_51 => ?_)
                      refine lv_istore_n (lv' := [(3, .int z_51), (5, .int i_23), (4, .int i_13), (0, .ref h0), (1, .int p1), (2, .int p2)]) hx hb dX12_gather_103 rfl hl (by decide) rfl (fun ls hl => ?_)
                      obtain ⟨z_52, ez_52⟩ : ∃ y : Int32, y = i_23 + 1 := ⟨_, rfl⟩
                      have kz_52 : (z_52).toInt = (i_23).toInt + (1 : Int) := by rw [ez_52]; exact z_add (b := 1) rfl rfl (z_al hF_26.1 (by decide)) (z_ah hF_26.2 (by decide))
                      refine lv_iinc (v := z_52) (lv' := [(5, .int z_52), (3, .int z_51), (4, .int i_13), (0, .ref h0), (1, .int p1), (2, .int p2)]) hx hb dX12_gather_104 hl (k := 1) rfl (by rw [ez_52]; rfl) (by decide) rfl (fun ls hl => ?_)
                      refine lv_goto (tgt := 40) hx hb dX12_gather_107 (by decide) ?_
                      exact ih_22 z_52 z_51 f_45 _ _ _ (show (5 - (z_52).toInt).toNat < n_21 by omega) (show ((0 : Int) ≤ (z_52).toInt ∧ (z_52).toInt ≤ (4 : Int)) by omega) hP hD hS (lv_sub hl [0, 2, 1, 3, 4, 5] rfl)
              exact loop_20 _ 0 n_14 f_15 _ _ _ (Nat.lt_succ_self _) (show ((0 : Int) ≤ (0 : Int) ∧ (0 : Int) ≤ (4 : Int)) by omega) hP hD hS hl
        exact loop_10 _ 0 0 f_5 _ _ _ (Nat.lt_succ_self _) (show ((0 : Int) ≤ (0 : Int) ∧ (0 : Int) ≤ (12 : Int)) by omega) hP hD hS hl
      · have k_53 : (4 : Int) > (i_4).toInt := z_nle c_7
        refine lv_aload_n hx hb dX12_gather_11 rfl (lv_at hl 2 rfl) ?_
        refine va_get (D := (dC, dI)) (ci := 12) (v := .ref h2) (C := RX12) (T := TX12) (N := 70) hx hb hts hiX12 hown hK hP 0 rfl rfl 37 (by decide) w__fieldLink_RX12_84_ShellHeapModel_told_I_ (fun _ h9 => h9) rfl dX12_gather_12 ?_
        refine lv_iload hx hb dX12_gather_15 (lv_at hl 0 rfl) ?_
        refine lv_iconst (v := 0) hx hb dX12_gather_17 (by decide) ?_
        refine va_iast hx hb hK hP hD hS 2 1 rfl rfl (z_vpin (by omega) (by omega)) dX12_gather_18 (fun H_54 locs hP hD hS => ?_)
        obtain ⟨hP, hD⟩ := z_s_2 hP hD
        generalize (upd f_5 (i_4 : Int32).toNatClampNeg 0) = f_55 at hP hD
        obtain ⟨z_56, ez_56⟩ : ∃ y : Int32, y = i_4 + 1 := ⟨_, rfl⟩
        have kz_56 : (z_56).toInt = (i_4).toInt + (1 : Int) := by rw [ez_56]; exact z_add (b := 1) rfl rfl (z_al hF_6.1 (by decide)) (z_ah hF_6.2 (by decide))
        refine lv_iinc (v := z_56) (lv' := [(4, .int z_56), (3, .int 0), (0, .ref h0), (1, .int p1), (2, .int p2)]) hx hb dX12_gather_19 hl (k := 0) rfl (by rw [ez_56]; rfl) (by decide) rfl (fun ls hl => ?_)
        refine lv_goto (tgt := 5) hx hb dX12_gather_22 (by decide) ?_
        exact ih_3 z_56 f_55 _ _ _ (show (5 - (z_56).toInt).toNat < n_2 by omega) (show ((0 : Int) ≤ (z_56).toInt ∧ (z_56).toInt ≤ (4 : Int)) by omega) hP hD hS (lv_sub hl [0, 1, 2, 3, 4] rfl)
  exact loop_1 _ 0 fh2 _ _ _ (Nat.lt_succ_self _) (show ((0 : Int) ≤ (0 : Int) ∧ (0 : Int) ≤ (4 : Int)) by omega) hP hD hS hl
def u_s_X12_missOf : List Cond := .code yX12_missOf cX12_missOf 12 (some .long) :: ([.fieldLink RX12 84 "ShellHeapModel" "told" "[I", .fieldLink RX12 78 "ShellHeapModel" "reads" "[I"] ++ (wsX120 ++ []))
theorem gd_s_X12_missOf : z_gd u_s_X12_missOf := z_gdc (by decide +kernel) (z_gda gdX12 (z_gd0))
set_option maxHeartbeats 4000000 in
set_option maxRecDepth 100000 in
theorem s_X12_missOf (l : Launch) (dC : Nat → ClassId) (dI : Nat → Nat → Nat) (sz : Nat) (h0 : Nat) (p1 : Int32) (p2 : Int32) (p3 : Int32) (p4 : Int32) (p5 : Int32) (h0_0 : Value) (h0_1 : Value) (h0_2 : Value) (h0_3 : Value) (h0_4 : Value) (h0_5 : Value) (h0_6 : Value) (h0_7 : Value) (h0_8 : Value) (h0_9 : Value) (h0_10 : Value) (h0_11 : Value) (h0_12 : Value) (h0_13 : Value) (h0_14 : Value) (h0_15 : Value) (h0_16 : Value) (h0_17 : Value) (h0_18 : Value) (h0_19 : Value) (h0_20 : Value) (h0_21 : Value) (h0_22 : Value) (h0_23 : Value) (h0_24 : Value) (h0_25 : Value) (h0_26 : Value) (h0_27 : Value) (h0_28 : Value) (h0_29 : Value) (h0_30 : Value) (h0_31 : Value) (h0_32 : Value) (h0_33 : Value) (h0_34 : Value) (h2 : Nat) (h0_36 : Value) (h1 : Nat) (h0_38 : Value) (h0_39 : Value) (h0_40 : Value) (h0_41 : Value) (h0_42 : Value) (h0_43 : Value) (h0_44 : Value) (h0_45 : Value) (h0_46 : Value) (h0_47 : Value) (h0_48 : Value) (h0_49 : Value) (h0_50 : Value) (h0_51 : Value) (h0_52 : Value) (h0_53 : Value) (h0_54 : Value) (h0_55 : Value) (h0_56 : Value) (h0_57 : Value) (h0_58 : Value) (h0_59 : Value) (h0_60 : Value) (h0_61 : Value) (h0_62 : Value) (h0_63 : Value) (h0_64 : Value) (h0_65 : Value) (h0_66 : Value) (h0_67 : Value) (h0_68 : Value) (h0_69 : Value) (ch1 : ClassId) (fh1 : Nat → Int32) (ch2 : ClassId) (fh2 : Nat → Int32) (hB_p1 : ((0 : Int) ≤ (p1).toInt ∧ (p1).toInt ≤ (2 : Int))) : Met l yX12_missOf u_s_X12_missOf ({ frames := 0, cells := 0, slots := 0, locals := 0 }) (va_Pc [.ref h0, .int p1, .int p2, .int p3, .int p4, .int p5] (z_C (dC, dI) vwCl [(h0, .inr (12, [h0_0, h0_1, h0_2, h0_3, h0_4, h0_5, h0_6, h0_7, h0_8, h0_9, h0_10, h0_11, h0_12, h0_13, h0_14, h0_15, h0_16, h0_17, h0_18, h0_19, h0_20, h0_21, h0_22, h0_23, h0_24, h0_25, h0_26, h0_27, h0_28, h0_29, h0_30, h0_31, h0_32, h0_33, h0_34, .ref h2, h0_36, .ref h1, h0_38, h0_39, h0_40, h0_41, h0_42, h0_43, h0_44, h0_45, h0_46, h0_47, h0_48, h0_49, h0_50, h0_51, h0_52, h0_53, h0_54, h0_55, h0_56, h0_57, h0_58, h0_59, h0_60, h0_61, h0_62, h0_63, h0_64, h0_65, h0_66, h0_67, h0_68, h0_69])), (h1, .inl (ch1, 4, .inl fh1)), (h2, .inl (ch2, 48, .inl fh2))] [(ch1, .int), (ch2, .int)] sz)) (va_Ql (fun (r : Int64) (_ : Unit) => True) (fun (_ : Unit) (_ : State) => True) (va_A [] sz)) 0 0 (va_A [] sz) := by
  refine Met.ofW (cc := cX12_missOf) (maxL := 12) (ret := (some .long)) (by decide) rfl ?_
  intro p e s m args below meth c s₁ B hml hv
  obtain ⟨rfl, hsz, hP, hK, hD0⟩ := hv
  have hx := B.exec
  have hb := B.bytes
  have hr := B.returns
  have hts := atoms_spec (ws := u_s_X12_missOf) B.pre
  have hown : s.vm.findClass RX12 = some m.cls := findClass_of_methodNamed B.named
  have hlocks := B.notSynchronized
  subst hsz
  have hD := hD0
  generalize hAe : va_A [] s.heap.size = A
  have hA : ∀ q : Nat, s.heap.size ≤ q → A q := fun q h => by rw [← hAe]; exact Or.inr h
  have hS : va_S A s.heap s.heap [] := va_S.rf
  have hP : va_P (dC, dI) vwCl [(h0, .inr (12, [h0_0, h0_1, h0_2, h0_3, h0_4, h0_5, h0_6, h0_7, h0_8, h0_9, h0_10, h0_11, h0_12, h0_13, h0_14, h0_15, h0_16, h0_17, h0_18, h0_19, h0_20, h0_21, h0_22, h0_23, h0_24, h0_25, h0_26, h0_27, h0_28, h0_29, h0_30, h0_31, h0_32, h0_33, h0_34, .ref h2, h0_36, .ref h1, h0_38, h0_39, h0_40, h0_41, h0_42, h0_43, h0_44, h0_45, h0_46, h0_47, h0_48, h0_49, h0_50, h0_51, h0_52, h0_53, h0_54, h0_55, h0_56, h0_57, h0_58, h0_59, h0_60, h0_61, h0_62, h0_63, h0_64, h0_65, h0_66, h0_67, h0_68, h0_69])), (h1, .inl (ch1, 4, .inl fh1)), (h2, .inl (ch2, 48, .inl fh2))] s.heap := hP
  have w__fieldLink_RX12_84_ShellHeapModel_told_I_ := hts (.fieldLink RX12 84 "ShellHeapModel" "told" "[I") (z_mc (z_ml z_m0))
  have hiX12 := show ∀ w ∈ u_ws RX12 TX12 70, w ∈ u_s_X12_missOf from fun w h => z_mc (z_mr (z_ml h))
  have w__fieldLink_RX12_78_ShellHeapModel_reads_I_ := hts (.fieldLink RX12 78 "ShellHeapModel" "reads" "[I") (z_mc (z_ml z_m1))
  have krr_p2 := z_rng p2
  have krr_p3 := z_rng p3
  have krr_p4 := z_rng p4
  have krr_p5 := z_rng p5
  have hl := lv_entry ([.ref h0, .int p1, .int p2, .int p3, .int p4, .int p5]) (n := 12) (Nat.le_of_ble_eq_true rfl)
  rw [lg_entry_eq]
  generalize (lg_sl ([.ref h0, .int p1, .int p2, .int p3, .int p4, .int p5]) ++ List.replicate (12 - (lg_sl ([.ref h0, .int p1, .int p2, .int p3, .int p4, .int p5])).length) Slot.unset).toArray = ls at hl ⊢
  have hl : lv_has ls 12 [(0, .ref h0), (1, .int p1), (2, .int p2), (3, .int p3), (4, .int p4), (5, .int p5)] := hl
  refine z_nameQ (fun QQ hQQ => ?_)
  refine lv_lconst (v := 0) hx hb dX12_missOf_0 (by decide) ?_
  refine lv_lstore (lv' := [(6, .long 0), (0, .ref h0), (1, .int p1), (2, .int p2), (3, .int p3), (4, .int p4), (5, .int p5)]) hx hb dX12_missOf_1 hl (by decide) rfl (fun ls hl => ?_)
  refine lv_iconst (v := 0) hx hb dX12_missOf_3 (by decide) ?_
  refine lv_istore (lv' := [(8, .int 0), (6, .long 0), (0, .ref h0), (1, .int p1), (2, .int p2), (3, .int p3), (4, .int p4), (5, .int p5)]) hx hb dX12_missOf_4 hl (by decide) rfl (fun ls hl => ?_)
  have loop_1 : ∀ (n_2 : Nat) (i_4 : Int32) (n_5 : Int64) (H : Heap) (locs : List Loc) (ls : Array Slot), (5 - (i_4).toInt).toNat < n_2 → (((0 : Int) ≤ (i_4).toInt ∧ (i_4).toInt ≤ (4 : Int))) → va_P (dC, dI) vwCl [(h0, .inr (12, [h0_0, h0_1, h0_2, h0_3, h0_4, h0_5, h0_6, h0_7, h0_8, h0_9, h0_10, h0_11, h0_12, h0_13, h0_14, h0_15, h0_16, h0_17, h0_18, h0_19, h0_20, h0_21, h0_22, h0_23, h0_24, h0_25, h0_26, h0_27, h0_28, h0_29, h0_30, h0_31, h0_32, h0_33, h0_34, .ref h2, h0_36, .ref h1, h0_38, h0_39, h0_40, h0_41, h0_42, h0_43, h0_44, h0_45, h0_46, h0_47, h0_48, h0_49, h0_50, h0_51, h0_52, h0_53, h0_54, h0_55, h0_56, h0_57, h0_58, h0_59, h0_60, h0_61, h0_62, h0_63, h0_64, h0_65, h0_66, h0_67, h0_68, h0_69])), (h1, .inl (ch1, 4, .inl fh1)), (h2, .inl (ch2, 48, .inl fh2))] H → va_D (fun _ => True) [(h0, .inr (12, [h0_0, h0_1, h0_2, h0_3, h0_4, h0_5, h0_6, h0_7, h0_8, h0_9, h0_10, h0_11, h0_12, h0_13, h0_14, h0_15, h0_16, h0_17, h0_18, h0_19, h0_20, h0_21, h0_22, h0_23, h0_24, h0_25, h0_26, h0_27, h0_28, h0_29, h0_30, h0_31, h0_32, h0_33, h0_34, .ref h2, h0_36, .ref h1, h0_38, h0_39, h0_40, h0_41, h0_42, h0_43, h0_44, h0_45, h0_46, h0_47, h0_48, h0_49, h0_50, h0_51, h0_52, h0_53, h0_54, h0_55, h0_56, h0_57, h0_58, h0_59, h0_60, h0_61, h0_62, h0_63, h0_64, h0_65, h0_66, h0_67, h0_68, h0_69])), (h1, .inl (ch1, 4, .inl fh1)), (h2, .inl (ch2, 48, .inl fh2))] → va_S A s.heap H locs → lv_has ls 12 [(8, .int i_4), (6, .long n_5), (0, .ref h0), (1, .int p1), (2, .int p2), (3, .int p3), (4, .int p4), (5, .int p5)] → W p l e ({ frames := 0, cells := 0, slots := 0, locals := 0 } : Room) s m ([.ref h0, .int p1, .int p2, .int p3, .int p4, .int p5] : List Value).toArray below meth c H locs 0 0 QQ (F0 m 6 ls []) := by
    intro n_2
    induction n_2 with
    | zero => intro i_4 n_5 H locs ls hm; exact absurd hm (Nat.not_lt_zero _)
    | succ n_2 ih_3 =>
      intro i_4 n_5 H locs ls hm hF_6 hP hD hS hl
      refine lv_iload hx hb dX12_missOf_6 (lv_at hl 0 rfl) ?_
      refine lv_iconst (v := 4) hx hb dX12_missOf_8 (by decide) ?_
      refine lv_icmp_ge (tgt := 100) hx hb dX12_missOf_9 (by decide) (fun c_7 => ?_) (fun c_7 => ?_)
      · have k_8 : (4 : Int) ≤ (i_4).toInt := z_le c_7
        obtain rfl : i_4 = 4 := z_eq' (show (i_4).toInt = (4 : Int) by omega)
        refine lv_lload hx hb dX12_missOf_100 (lv_at hl 1 rfl) ?_
        refine z_backQ hQQ ?_
        refine W.widen (k := 0) (n := 0) (Nat.le_of_ble_eq_true rfl) (Nat.le_of_ble_eq_true rfl) ?_
        exact W.lret (v := n_5) hx hb hr (fun t ht hW => ⟨⟨n_5, (), rfl, trivial, trivial⟩, hS.F ht⟩) hS.2.2 dX12_missOf_102
      · have k_10 : (4 : Int) > (i_4).toInt := z_nle c_7
        refine lv_bipush (v := 16) hx hb dX12_missOf_12 (by decide) ?_
        refine lv_iload_n hx hb dX12_missOf_14 rfl (lv_at hl 3 rfl) ?_
        refine lv_imul hx hb dX12_missOf_15 ?_
        refine lv_topi (fun z_11 ez_11 => ?_)
        have kz_11 : (z_11).toInt = (16 : Int) * (p1).toInt := by rw [ez_11]; exact z_mul (a := (16 : Int)) (b := (p1).toInt) rfl rfl (by omega) (by omega)
        refine lv_iload hx hb dX12_missOf_16 (lv_at hl 0 rfl) ?_
        refine lv_iadd hx hb dX12_missOf_18 ?_
        refine lv_topi (fun z_12 ez_12 => ?_)
        have kz_12 : (z_12).toInt = (z_11).toInt + (i_4).toInt := by rw [ez_12]; exact z_add (a := (z_11).toInt) (b := (i_4).toInt) rfl rfl (by omega) (by omega)
        refine lv_istore (lv' := [(9, .int z_12), (8, .int i_4), (6, .long n_5), (0, .ref h0), (1, .int p1), (2, .int p2), (3, .int p3), (4, .int p4), (5, .int p5)]) hx hb dX12_missOf_19 hl (by decide) rfl (fun ls hl => ?_)
        refine lv_bipush (v := 16) hx hb dX12_missOf_21 (by decide) ?_
        refine lv_aload_n hx hb dX12_missOf_23 rfl (lv_at hl 3 rfl) ?_
        refine va_get (D := (dC, dI)) (ci := 12) (v := .ref h1) (C := RX12) (T := TX12) (N := 70) hx hb hts hiX12 hown hK hP 0 rfl rfl 37 (by decide) w__fieldLink_RX12_84_ShellHeapModel_told_I_ (fun _ h9 => h9) rfl dX12_missOf_24 ?_
        refine lv_iload hx hb dX12_missOf_27 (lv_at hl 1 rfl) ?_
        refine va_iald hx hb hK hP 1 0 rfl rfl (z_vpin (by omega) (by omega)) dX12_missOf_29 ?_
        refine lv_topi (fun z_13 ez_13 => ?_)
        refine lv_imul hx hb dX12_missOf_30 ?_
        refine lv_topi (fun z_14 ez_14 => ?_)
        refine lv_iload_n hx hb dX12_missOf_31 rfl (lv_at hl 5 rfl) ?_
        refine lv_aload_n hx hb dX12_missOf_32 rfl (lv_at hl 3 rfl) ?_
        refine va_get (D := (dC, dI)) (ci := 12) (v := .ref h2) (C := RX12) (T := TX12) (N := 70) hx hb hts hiX12 hown hK hP 0 rfl rfl 35 (by decide) w__fieldLink_RX12_78_ShellHeapModel_reads_I_ (fun _ h9 => h9) rfl dX12_missOf_33 ?_
        refine lv_iload hx hb dX12_missOf_36 (lv_at hl 0 rfl) ?_
        refine va_iald hx hb hK hP 2 1 rfl rfl (z_vpin (by omega) (by omega)) dX12_missOf_38 ?_
        refine lv_topi (fun z_15 ez_15 => ?_)
        refine lv_imul hx hb dX12_missOf_39 ?_
        refine lv_topi (fun z_16 ez_16 => ?_)
        refine lv_isub hx hb dX12_missOf_40 ?_
        refine lv_topi (fun z_17 ez_17 => ?_)
        refine lv_iload_n hx hb dX12_missOf_41 rfl (lv_at hl 6 rfl) ?_
        refine lv_aload_n hx hb dX12_missOf_42 rfl (lv_at hl 3 rfl) ?_
        refine va_get (D := (dC, dI)) (ci := 12) (v := .ref h2) (C := RX12) (T := TX12) (N := 70) hx hb hts hiX12 hown hK hP 0 rfl rfl 35 (by decide) w__fieldLink_RX12_78_ShellHeapModel_reads_I_ (fun _ h9 => h9) rfl dX12_missOf_43 ?_
        refine lv_iload hx hb dX12_missOf_46 (lv_at hl 0 rfl) ?_
        refine lv_iconst (v := 4) hx hb dX12_missOf_48 (by decide) ?_
        refine lv_iadd hx hb dX12_missOf_49 ?_
        refine lv_topi (fun z_18 ez_18 => ?_)
        have kz_18 : (z_18).toInt = (z_12).toInt + (4 : Int) := by rw [ez_18]; exact z_add (a := (z_12).toInt) (b := (4 : Int)) rfl rfl (by omega) (by omega)
        refine va_iald hx hb hK hP 2 1 rfl rfl (z_vpin (by omega) (by omega)) dX12_missOf_50 ?_
        refine lv_topi (fun z_19 ez_19 => ?_)
        refine lv_imul hx hb dX12_missOf_51 ?_
        refine lv_topi (fun z_20 ez_20 => ?_)
        refine lv_isub hx hb dX12_missOf_52 ?_
        refine lv_topi (fun z_21 ez_21 => ?_)
        refine lv_iload hx hb dX12_missOf_53 (lv_at hl 7 rfl) ?_
        refine lv_aload_n hx hb dX12_missOf_55 rfl (lv_at hl 3 rfl) ?_
        refine va_get (D := (dC, dI)) (ci := 12) (v := .ref h2) (C := RX12) (T := TX12) (N := 70) hx hb hts hiX12 hown hK hP 0 rfl rfl 35 (by decide) w__fieldLink_RX12_78_ShellHeapModel_reads_I_ (fun _ h9 => h9) rfl dX12_missOf_56 ?_
        refine lv_iload hx hb dX12_missOf_59 (lv_at hl 0 rfl) ?_
        refine lv_bipush (v := 8) hx hb dX12_missOf_61 (by decide) ?_
        refine lv_iadd hx hb dX12_missOf_63 ?_
        refine lv_topi (fun z_22 ez_22 => ?_)
        have kz_22 : (z_22).toInt = (z_12).toInt + (8 : Int) := by rw [ez_22]; exact z_add (a := (z_12).toInt) (b := (8 : Int)) rfl rfl (by omega) (by omega)
        refine va_iald hx hb hK hP 2 1 rfl rfl (z_vpin (by omega) (by omega)) dX12_missOf_64 ?_
        refine lv_topi (fun z_23 ez_23 => ?_)
        refine lv_imul hx hb dX12_missOf_65 ?_
        refine lv_topi (fun z_24 ez_24 => ?_)
        refine lv_isub hx hb dX12_missOf_66 ?_
        refine lv_topi (fun z_25 ez_25 => ?_)
        refine lv_iload hx hb dX12_missOf_67 (lv_at hl 8 rfl) ?_
        refine lv_aload_n hx hb dX12_missOf_69 rfl (lv_at hl 3 rfl) ?_
        refine va_get (D := (dC, dI)) (ci := 12) (v := .ref h2) (C := RX12) (T := TX12) (N := 70) hx hb hts hiX12 hown hK hP 0 rfl rfl 35 (by decide) w__fieldLink_RX12_78_ShellHeapModel_reads_I_ (fun _ h9 => h9) rfl dX12_missOf_70 ?_
        refine lv_iload hx hb dX12_missOf_73 (lv_at hl 0 rfl) ?_
        refine lv_bipush (v := 12) hx hb dX12_missOf_75 (by decide) ?_
        refine lv_iadd hx hb dX12_missOf_77 ?_
        refine lv_topi (fun z_26 ez_26 => ?_)
        have kz_26 : (z_26).toInt = (z_12).toInt + (12 : Int) := by rw [ez_26]; exact z_add (a := (z_12).toInt) (b := (12 : Int)) rfl rfl (by omega) (by omega)
        refine va_iald hx hb hK hP 2 1 rfl rfl (z_vpin (by omega) (by omega)) dX12_missOf_78 ?_
        refine lv_topi (fun z_27 ez_27 => ?_)
        refine lv_imul hx hb dX12_missOf_79 ?_
        refine lv_topi (fun z_28 ez_28 => ?_)
        refine lv_isub hx hb dX12_missOf_80 ?_
        refine lv_topi (fun z_29 ez_29 => ?_)
        refine lv_i2l hx hb dX12_missOf_81 rfl ?_
        refine lv_topl (fun z_30 ez_30 => ?_)
        have kz_30 : (z_30).toInt = (z_29).toInt := by rw [ez_30]; exact z_i2l _
        refine lv_lstore (lv' := [(10, .long z_30), (9, .int z_12), (8, .int i_4), (6, .long n_5), (0, .ref h0), (1, .int p1), (2, .int p2), (3, .int p3), (4, .int p4), (5, .int p5)]) hx hb dX12_missOf_82 hl (by decide) rfl (fun ls hl => ?_)
        refine lv_lload hx hb dX12_missOf_84 (lv_at hl 3 rfl) ?_
        refine lv_lload hx hb dX12_missOf_86 (lv_at hl 0 rfl) ?_
        refine lv_lload hx hb dX12_missOf_88 (lv_at hl 0 rfl) ?_
        refine lv_lmul hx hb dX12_missOf_90 ?_
        refine lv_topl (fun z_31 ez_31 => ?_)
        refine lv_ladd hx hb dX12_missOf_91 ?_
        refine lv_topl (fun z_32 ez_32 => ?_)
        refine lv_lstore (lv' := [(6, .long z_32), (10, .long z_30), (9, .int z_12), (8, .int i_4), (0, .ref h0), (1, .int p1), (2, .int p2), (3, .int p3), (4, .int p4), (5, .int p5)]) hx hb dX12_missOf_92 hl (by decide) rfl (fun ls hl => ?_)
        obtain ⟨z_33, ez_33⟩ : ∃ y : Int32, y = i_4 + 1 := ⟨_, rfl⟩
        have kz_33 : (z_33).toInt = (i_4).toInt + (1 : Int) := by rw [ez_33]; exact z_add (b := 1) rfl rfl (z_al hF_6.1 (by decide)) (z_ah hF_6.2 (by decide))
        refine lv_iinc (v := z_33) (lv' := [(8, .int z_33), (6, .long z_32), (10, .long z_30), (9, .int z_12), (0, .ref h0), (1, .int p1), (2, .int p2), (3, .int p3), (4, .int p4), (5, .int p5)]) hx hb dX12_missOf_94 hl (k := 3) rfl (by rw [ez_33]; rfl) (by decide) rfl (fun ls hl => ?_)
        refine lv_goto (tgt := 6) hx hb dX12_missOf_97 (by decide) ?_
        exact ih_3 z_33 z_32 _ _ _ (show (5 - (z_33).toInt).toNat < n_2 by omega) (show ((0 : Int) ≤ (z_33).toInt ∧ (z_33).toInt ≤ (4 : Int)) by omega) hP hD hS (lv_sub hl [0, 1, 4, 5, 6, 7, 8, 9] rfl)
  exact loop_1 _ 0 0 _ _ _ (Nat.lt_succ_self _) (show ((0 : Int) ≤ (0 : Int) ∧ (0 : Int) ≤ (4 : Int)) by omega) hP hD hS hl
def u_s_X12_middleOf : List Cond := .code yX12_middleOf cX12_middleOf 7 (some .int) :: ([.fieldLink RX12 311 "ShellHeapModel" "shells" "I", .fieldLink RX12 96 "ShellHeapModel" "row" "[I", .fieldLink RX12 32 "ShellHeapModel" "bedOf" "[I", .fieldLink RX12 90 "ShellHeapModel" "shellOf" "[I", .fieldLink RX12 93 "ShellHeapModel" "shell" "[I"] ++ (wsX120 ++ []))
theorem gd_s_X12_middleOf : z_gd u_s_X12_middleOf := z_gdc (by decide +kernel) (z_gda gdX12 (z_gd0))
set_option maxHeartbeats 4000000 in
set_option maxRecDepth 100000 in
theorem s_X12_middleOf (l : Launch) (dC : Nat → ClassId) (dI : Nat → Nat → Nat) (sz : Nat) (h0 : Nat) (p1 : Int32) (p2 : Int32) (h0_0 : Value) (h0_1 : Value) (h0_2 : Value) (h0_3 : Value) (h0_4 : Value) (h0_5 : Value) (h0_6 : Value) (h0_7 : Value) (h0_8 : Value) (h0_9 : Value) (h0_10 : Value) (h4 : Nat) (h0_12 : Value) (h0_13 : Value) (h0_14 : Value) (h0_15 : Value) (h0_16 : Value) (h0_17 : Value) (h0_18 : Value) (h0_19 : Value) (h0_20 : Value) (h0_21 : Value) (h0_22 : Value) (h0_23 : Value) (h0_24 : Value) (h0_25 : Value) (h0_26 : Value) (h0_27 : Value) (h0_28 : Value) (h0_29 : Value) (h0_30 : Value) (h0_31 : Value) (h0_32 : Value) (h0_33 : Value) (h0_34 : Value) (h0_35 : Value) (h0_36 : Value) (h0_37 : Value) (h0_38 : Value) (h0_39 : Value) (ms : Int32) (h1 : Nat) (h2 : Nat) (h3 : Nat) (h0_44 : Value) (h0_45 : Value) (h0_46 : Value) (h0_47 : Value) (h0_48 : Value) (h0_49 : Value) (h0_50 : Value) (h0_51 : Value) (h0_52 : Value) (h0_53 : Value) (h0_54 : Value) (h0_55 : Value) (h0_56 : Value) (h0_57 : Value) (h0_58 : Value) (h0_59 : Value) (h0_60 : Value) (h0_61 : Value) (h0_62 : Value) (h0_63 : Value) (h0_64 : Value) (h0_65 : Value) (h0_66 : Value) (h0_67 : Value) (h0_68 : Value) (h0_69 : Value) (ch1 : ClassId) (fh1 : Nat → Int32) (ch2 : ClassId) (fh2 : Nat → Int32) (ch3 : ClassId) (fh3 : Nat → Int32) (ch4 : ClassId) (fh4 : Nat → Int32) (hB_p2 : ((0 : Int) ≤ (p2).toInt ∧ (p2).toInt ≤ (2 : Int))) (hB_ms : ((0 : Int) ≤ (ms).toInt ∧ (ms).toInt ≤ (200 : Int))) (hI_h1 : ∀ j : Nat, ((0 : Int) ≤ (fh1 j).toInt ∧ (fh1 j).toInt ≤ (11 : Int))) (hI_h4 : ∀ j : Nat, ((0 : Int) ≤ (fh4 j).toInt ∧ (fh4 j).toInt ≤ (11 : Int))) : Met l yX12_middleOf u_s_X12_middleOf ({ frames := 0, cells := 0, slots := 0, locals := 0 }) (va_Pc [.ref h0, .int p1, .int p2] (z_C (dC, dI) vwCl [(h0, .inr (12, [h0_0, h0_1, h0_2, h0_3, h0_4, h0_5, h0_6, h0_7, h0_8, h0_9, h0_10, .ref h4, h0_12, h0_13, h0_14, h0_15, h0_16, h0_17, h0_18, h0_19, h0_20, h0_21, h0_22, h0_23, h0_24, h0_25, h0_26, h0_27, h0_28, h0_29, h0_30, h0_31, h0_32, h0_33, h0_34, h0_35, h0_36, h0_37, h0_38, h0_39, .int ms, .ref h1, .ref h2, .ref h3, h0_44, h0_45, h0_46, h0_47, h0_48, h0_49, h0_50, h0_51, h0_52, h0_53, h0_54, h0_55, h0_56, h0_57, h0_58, h0_59, h0_60, h0_61, h0_62, h0_63, h0_64, h0_65, h0_66, h0_67, h0_68, h0_69])), (h1, .inl (ch1, 200, .inl fh1)), (h2, .inl (ch2, 600, .inl fh2)), (h3, .inl (ch3, 200, .inl fh3)), (h4, .inl (ch4, 12, .inl fh4))] [(ch1, .int), (ch2, .int), (ch3, .int), (ch4, .int)] sz)) (va_Qi (fun (r : Int32) (_ : Unit) => True) (fun (_ : Unit) (t : State) => ∃ (g_h3 : Nat → Int32), va_P (dC, dI) vwCl [(h0, .inr (12, [h0_0, h0_1, h0_2, h0_3, h0_4, h0_5, h0_6, h0_7, h0_8, h0_9, h0_10, .ref h4, h0_12, h0_13, h0_14, h0_15, h0_16, h0_17, h0_18, h0_19, h0_20, h0_21, h0_22, h0_23, h0_24, h0_25, h0_26, h0_27, h0_28, h0_29, h0_30, h0_31, h0_32, h0_33, h0_34, h0_35, h0_36, h0_37, h0_38, h0_39, .int ms, .ref h1, .ref h2, .ref h3, h0_44, h0_45, h0_46, h0_47, h0_48, h0_49, h0_50, h0_51, h0_52, h0_53, h0_54, h0_55, h0_56, h0_57, h0_58, h0_59, h0_60, h0_61, h0_62, h0_63, h0_64, h0_65, h0_66, h0_67, h0_68, h0_69])), (h1, .inl (ch1, 200, .inl fh1)), (h2, .inl (ch2, 600, .inl fh2)), (h3, .inl (ch3, 200, .inl g_h3)), (h4, .inl (ch4, 12, .inl fh4))] t.heap ∧ va_K (dC, dI) vwCl [] t ∧ va_D (va_A [(h0, .inr (12, [h0_0, h0_1, h0_2, h0_3, h0_4, h0_5, h0_6, h0_7, h0_8, h0_9, h0_10, .ref h4, h0_12, h0_13, h0_14, h0_15, h0_16, h0_17, h0_18, h0_19, h0_20, h0_21, h0_22, h0_23, h0_24, h0_25, h0_26, h0_27, h0_28, h0_29, h0_30, h0_31, h0_32, h0_33, h0_34, h0_35, h0_36, h0_37, h0_38, h0_39, .int ms, .ref h1, .ref h2, .ref h3, h0_44, h0_45, h0_46, h0_47, h0_48, h0_49, h0_50, h0_51, h0_52, h0_53, h0_54, h0_55, h0_56, h0_57, h0_58, h0_59, h0_60, h0_61, h0_62, h0_63, h0_64, h0_65, h0_66, h0_67, h0_68, h0_69])), (h1, .inl (ch1, 200, .inl fh1)), (h2, .inl (ch2, 600, .inl fh2)), (h3, .inl (ch3, 200, .inl fh3)), (h4, .inl (ch4, 12, .inl fh4))] sz) [(h0, .inr (12, [h0_0, h0_1, h0_2, h0_3, h0_4, h0_5, h0_6, h0_7, h0_8, h0_9, h0_10, .ref h4, h0_12, h0_13, h0_14, h0_15, h0_16, h0_17, h0_18, h0_19, h0_20, h0_21, h0_22, h0_23, h0_24, h0_25, h0_26, h0_27, h0_28, h0_29, h0_30, h0_31, h0_32, h0_33, h0_34, h0_35, h0_36, h0_37, h0_38, h0_39, .int ms, .ref h1, .ref h2, .ref h3, h0_44, h0_45, h0_46, h0_47, h0_48, h0_49, h0_50, h0_51, h0_52, h0_53, h0_54, h0_55, h0_56, h0_57, h0_58, h0_59, h0_60, h0_61, h0_62, h0_63, h0_64, h0_65, h0_66, h0_67, h0_68, h0_69])), (h1, .inl (ch1, 200, .inl fh1)), (h2, .inl (ch2, 600, .inl fh2)), (h3, .inl (ch3, 200, .inl g_h3)), (h4, .inl (ch4, 12, .inl fh4))]) (va_A [(h0, .inr (12, [h0_0, h0_1, h0_2, h0_3, h0_4, h0_5, h0_6, h0_7, h0_8, h0_9, h0_10, .ref h4, h0_12, h0_13, h0_14, h0_15, h0_16, h0_17, h0_18, h0_19, h0_20, h0_21, h0_22, h0_23, h0_24, h0_25, h0_26, h0_27, h0_28, h0_29, h0_30, h0_31, h0_32, h0_33, h0_34, h0_35, h0_36, h0_37, h0_38, h0_39, .int ms, .ref h1, .ref h2, .ref h3, h0_44, h0_45, h0_46, h0_47, h0_48, h0_49, h0_50, h0_51, h0_52, h0_53, h0_54, h0_55, h0_56, h0_57, h0_58, h0_59, h0_60, h0_61, h0_62, h0_63, h0_64, h0_65, h0_66, h0_67, h0_68, h0_69])), (h1, .inl (ch1, 200, .inl fh1)), (h2, .inl (ch2, 600, .inl fh2)), (h3, .inl (ch3, 200, .inl fh3)), (h4, .inl (ch4, 12, .inl fh4))] sz)) 0 0 (va_A [(h0, .inr (12, [h0_0, h0_1, h0_2, h0_3, h0_4, h0_5, h0_6, h0_7, h0_8, h0_9, h0_10, .ref h4, h0_12, h0_13, h0_14, h0_15, h0_16, h0_17, h0_18, h0_19, h0_20, h0_21, h0_22, h0_23, h0_24, h0_25, h0_26, h0_27, h0_28, h0_29, h0_30, h0_31, h0_32, h0_33, h0_34, h0_35, h0_36, h0_37, h0_38, h0_39, .int ms, .ref h1, .ref h2, .ref h3, h0_44, h0_45, h0_46, h0_47, h0_48, h0_49, h0_50, h0_51, h0_52, h0_53, h0_54, h0_55, h0_56, h0_57, h0_58, h0_59, h0_60, h0_61, h0_62, h0_63, h0_64, h0_65, h0_66, h0_67, h0_68, h0_69])), (h1, .inl (ch1, 200, .inl fh1)), (h2, .inl (ch2, 600, .inl fh2)), (h3, .inl (ch3, 200, .inl fh3)), (h4, .inl (ch4, 12, .inl fh4))] sz) := by
  refine Met.ofW (cc := cX12_middleOf) (maxL := 7) (ret := (some .int)) (by decide) rfl ?_
  intro p e s m args below meth c s₁ B hml hv
  obtain ⟨rfl, hsz, hP, hK, hD0⟩ := hv
  have hx := B.exec
  have hb := B.bytes
  have hr := B.returns
  have hts := atoms_spec (ws := u_s_X12_middleOf) B.pre
  have hown : s.vm.findClass RX12 = some m.cls := findClass_of_methodNamed B.named
  have hlocks := B.notSynchronized
  subst hsz
  have hD := hD0.self (sz := s.heap.size)
  generalize hAe : va_A [(h0, .inr (12, [h0_0, h0_1, h0_2, h0_3, h0_4, h0_5, h0_6, h0_7, h0_8, h0_9, h0_10, .ref h4, h0_12, h0_13, h0_14, h0_15, h0_16, h0_17, h0_18, h0_19, h0_20, h0_21, h0_22, h0_23, h0_24, h0_25, h0_26, h0_27, h0_28, h0_29, h0_30, h0_31, h0_32, h0_33, h0_34, h0_35, h0_36, h0_37, h0_38, h0_39, .int ms, .ref h1, .ref h2, .ref h3, h0_44, h0_45, h0_46, h0_47, h0_48, h0_49, h0_50, h0_51, h0_52, h0_53, h0_54, h0_55, h0_56, h0_57, h0_58, h0_59, h0_60, h0_61, h0_62, h0_63, h0_64, h0_65, h0_66, h0_67, h0_68, h0_69])), (h1, .inl (ch1, 200, .inl fh1)), (h2, .inl (ch2, 600, .inl fh2)), (h3, .inl (ch3, 200, .inl fh3)), (h4, .inl (ch4, 12, .inl fh4))] s.heap.size = A at hD ⊢
  have hA : ∀ q : Nat, s.heap.size ≤ q → A q := fun q h => by rw [← hAe]; exact Or.inr h
  have hS : va_S A s.heap s.heap [] := va_S.rf
  have hP : va_P (dC, dI) vwCl [(h0, .inr (12, [h0_0, h0_1, h0_2, h0_3, h0_4, h0_5, h0_6, h0_7, h0_8, h0_9, h0_10, .ref h4, h0_12, h0_13, h0_14, h0_15, h0_16, h0_17, h0_18, h0_19, h0_20, h0_21, h0_22, h0_23, h0_24, h0_25, h0_26, h0_27, h0_28, h0_29, h0_30, h0_31, h0_32, h0_33, h0_34, h0_35, h0_36, h0_37, h0_38, h0_39, .int ms, .ref h1, .ref h2, .ref h3, h0_44, h0_45, h0_46, h0_47, h0_48, h0_49, h0_50, h0_51, h0_52, h0_53, h0_54, h0_55, h0_56, h0_57, h0_58, h0_59, h0_60, h0_61, h0_62, h0_63, h0_64, h0_65, h0_66, h0_67, h0_68, h0_69])), (h1, .inl (ch1, 200, .inl fh1)), (h2, .inl (ch2, 600, .inl fh2)), (h3, .inl (ch3, 200, .inl fh3)), (h4, .inl (ch4, 12, .inl fh4))] s.heap := hP
  have w__fieldLink_RX12_311_ShellHeapModel_shells_I_ := hts (.fieldLink RX12 311 "ShellHeapModel" "shells" "I") (z_mc (z_ml z_m0))
  have hiX12 := show ∀ w ∈ u_ws RX12 TX12 70, w ∈ u_s_X12_middleOf from fun w h => z_mc (z_mr (z_ml h))
  have w__fieldLink_RX12_96_ShellHeapModel_row_I_ := hts (.fieldLink RX12 96 "ShellHeapModel" "row" "[I") (z_mc (z_ml z_m1))
  have w__fieldLink_RX12_32_ShellHeapModel_bedOf_I_ := hts (.fieldLink RX12 32 "ShellHeapModel" "bedOf" "[I") (z_mc (z_ml z_m2))
  have w__fieldLink_RX12_90_ShellHeapModel_shellOf_I_ := hts (.fieldLink RX12 90 "ShellHeapModel" "shellOf" "[I") (z_mc (z_ml z_m3))
  have w__fieldLink_RX12_93_ShellHeapModel_shell_I_ := hts (.fieldLink RX12 93 "ShellHeapModel" "shell" "[I") (z_mc (z_ml z_m4))
  have krr_p1 := z_rng p1
  have hl := lv_entry ([.ref h0, .int p1, .int p2]) (n := 7) (Nat.le_of_ble_eq_true rfl)
  rw [lg_entry_eq]
  generalize (lg_sl ([.ref h0, .int p1, .int p2]) ++ List.replicate (7 - (lg_sl ([.ref h0, .int p1, .int p2])).length) Slot.unset).toArray = ls at hl ⊢
  have hl : lv_has ls 7 [(0, .ref h0), (1, .int p1), (2, .int p2)] := hl
  refine z_nameQ (fun QQ hQQ => ?_)
  refine lv_iconst (v := 0) hx hb dX12_middleOf_0 (by decide) ?_
  refine lv_istore_n (lv' := [(3, .int 0), (0, .ref h0), (1, .int p1), (2, .int p2)]) hx hb dX12_middleOf_1 rfl hl (by decide) rfl (fun ls hl => ?_)
  refine lv_iconst (v := 0) hx hb dX12_middleOf_2 (by decide) ?_
  refine lv_istore (lv' := [(4, .int 0), (3, .int 0), (0, .ref h0), (1, .int p1), (2, .int p2)]) hx hb dX12_middleOf_3 hl (by decide) rfl (fun ls hl => ?_)
  have loop_1 : ∀ (n_2 : Nat) (i_4 : Int32) (n_5 : Int32) (f_6 : Nat → Int32) (H : Heap) (locs : List Loc) (ls : Array Slot), (201 - (i_4).toInt).toNat < n_2 → (((0 : Int) ≤ (i_4).toInt ∧ (i_4).toInt ≤ (200 : Int))) → (((0 : Int) ≤ (n_5).toInt ∧ (n_5).toInt ≤ (200 : Int))) → ((n_5).toInt ≤ (i_4).toInt) → va_P (dC, dI) vwCl [(h0, .inr (12, [h0_0, h0_1, h0_2, h0_3, h0_4, h0_5, h0_6, h0_7, h0_8, h0_9, h0_10, .ref h4, h0_12, h0_13, h0_14, h0_15, h0_16, h0_17, h0_18, h0_19, h0_20, h0_21, h0_22, h0_23, h0_24, h0_25, h0_26, h0_27, h0_28, h0_29, h0_30, h0_31, h0_32, h0_33, h0_34, h0_35, h0_36, h0_37, h0_38, h0_39, .int ms, .ref h1, .ref h2, .ref h3, h0_44, h0_45, h0_46, h0_47, h0_48, h0_49, h0_50, h0_51, h0_52, h0_53, h0_54, h0_55, h0_56, h0_57, h0_58, h0_59, h0_60, h0_61, h0_62, h0_63, h0_64, h0_65, h0_66, h0_67, h0_68, h0_69])), (h1, .inl (ch1, 200, .inl fh1)), (h2, .inl (ch2, 600, .inl fh2)), (h3, .inl (ch3, 200, .inl f_6)), (h4, .inl (ch4, 12, .inl fh4))] H → va_D A [(h0, .inr (12, [h0_0, h0_1, h0_2, h0_3, h0_4, h0_5, h0_6, h0_7, h0_8, h0_9, h0_10, .ref h4, h0_12, h0_13, h0_14, h0_15, h0_16, h0_17, h0_18, h0_19, h0_20, h0_21, h0_22, h0_23, h0_24, h0_25, h0_26, h0_27, h0_28, h0_29, h0_30, h0_31, h0_32, h0_33, h0_34, h0_35, h0_36, h0_37, h0_38, h0_39, .int ms, .ref h1, .ref h2, .ref h3, h0_44, h0_45, h0_46, h0_47, h0_48, h0_49, h0_50, h0_51, h0_52, h0_53, h0_54, h0_55, h0_56, h0_57, h0_58, h0_59, h0_60, h0_61, h0_62, h0_63, h0_64, h0_65, h0_66, h0_67, h0_68, h0_69])), (h1, .inl (ch1, 200, .inl fh1)), (h2, .inl (ch2, 600, .inl fh2)), (h3, .inl (ch3, 200, .inl f_6)), (h4, .inl (ch4, 12, .inl fh4))] → va_S A s.heap H locs → lv_has ls 7 [(4, .int i_4), (3, .int n_5), (0, .ref h0), (1, .int p1), (2, .int p2)] → W p l e ({ frames := 0, cells := 0, slots := 0, locals := 0 } : Room) s m ([.ref h0, .int p1, .int p2] : List Value).toArray below meth c H locs 0 0 QQ (F0 m 5 ls []) := by
    intro n_2
    induction n_2 with
    | zero => intro i_4 n_5 f_6 H locs ls hm; exact absurd hm (Nat.not_lt_zero _)
    | succ n_2 ih_3 =>
      intro i_4 n_5 f_6 H locs ls hm hF_7 hF_8 hF_9 hP hD hS hl
      refine lv_iload hx hb dX12_middleOf_5 (lv_at hl 0 rfl) ?_
      refine lv_aload_n hx hb dX12_middleOf_7 rfl (lv_at hl 2 rfl) ?_
      refine va_get (D := (dC, dI)) (ci := 12) (v := .int ms) (C := RX12) (T := TX12) (N := 70) hx hb hts hiX12 hown hK hP 0 rfl rfl 40 (by decide) w__fieldLink_RX12_311_ShellHeapModel_shells_I_ (fun _ h9 => h9) rfl dX12_middleOf_8 ?_
      refine lv_icmp_ge (tgt := 108) hx hb dX12_middleOf_11 (by decide) (fun c_10 => ?_) (fun c_10 => ?_)
      · have k_11 : (ms).toInt ≤ (i_4).toInt := z_le c_10
        refine lv_iload_n hx hb dX12_middleOf_108 rfl (lv_at hl 1 rfl) ?_
        refine lv_if_ne (tgt := 116) hx hb dX12_middleOf_109 (by decide) (fun c_12 => ?_) (fun c_12 => ?_)
        · have k_13 : (n_5).toInt ≠ (0 : Int) := z_ne c_12
          refine lv_aload_n hx hb dX12_middleOf_116 rfl (lv_at hl 2 rfl) ?_
          refine va_get (D := (dC, dI)) (ci := 12) (v := .ref h3) (C := RX12) (T := TX12) (N := 70) hx hb hts hiX12 hown hK hP 0 rfl rfl 43 (by decide) w__fieldLink_RX12_96_ShellHeapModel_row_I_ (fun _ h9 => h9) rfl dX12_middleOf_117 ?_
          refine lv_iload_n hx hb dX12_middleOf_120 rfl (lv_at hl 1 rfl) ?_
          refine lv_iconst (v := 1) hx hb dX12_middleOf_121 (by decide) ?_
          refine lv_isub hx hb dX12_middleOf_122 ?_
          refine lv_topi (fun z_14 ez_14 => ?_)
          have kz_14 : (z_14).toInt = (n_5).toInt - (1 : Int) := by rw [ez_14]; exact z_sub (a := (n_5).toInt) (b := (1 : Int)) rfl rfl (z_mlo hF_8.1 (by decide)) (z_mhi hF_8.2 (by decide))
          refine lv_iconst (v := 2) hx hb dX12_middleOf_123 (by decide) ?_
          refine lv_idiv hx hb dX12_middleOf_124 (by decide) ?_
          refine lv_topi (fun z_15 ez_15 => ?_)
          have kz_15 : (z_15).toInt = (z_14).toInt / (2 : Int) := by rw [ez_15]; exact z_div (by omega) (by decide)
          refine va_iald hx hb hK hP 3 2 rfl rfl (z_vpin (by omega) (by omega)) dX12_middleOf_125 ?_
          refine lv_topi (fun z_16 ez_16 => ?_)
          refine z_backQ hQQ ?_
          have hP9 := hP
          have hD9 := hD
          have hK9 := hK.sub (tys' := []) [] rfl
          refine W.widen (k := 0) (n := 0) (Nat.le_of_ble_eq_true rfl) (Nat.le_of_ble_eq_true rfl) ?_
          exact W.iret (v := z_16) hx hb hr (fun t ht hW => ⟨⟨z_16, (), rfl, trivial, ⟨f_6, by rw [ht]; exact hP9, va_K.moved hW.alike hK9, hD9⟩⟩, hS.F ht⟩) hS.2.2 dX12_middleOf_126
        · have k_17 : (n_5).toInt = (0 : Int) := z_eq c_12
          obtain rfl : n_5 = 0 := z_eq' (show (n_5).toInt = (0 : Int) by omega)
          refine lv_iconst (v := (-1)) hx hb dX12_middleOf_112 (by decide) ?_
          refine lv_goto (tgt := 126) hx hb dX12_middleOf_113 (by decide) ?_
          refine z_backQ hQQ ?_
          have hP9 := hP
          have hD9 := hD
          have hK9 := hK.sub (tys' := []) [] rfl
          refine W.widen (k := 0) (n := 0) (Nat.le_of_ble_eq_true rfl) (Nat.le_of_ble_eq_true rfl) ?_
          exact W.iret (v := (-1)) hx hb hr (fun t ht hW => ⟨⟨(-1), (), rfl, trivial, ⟨f_6, by rw [ht]; exact hP9, va_K.moved hW.alike hK9, hD9⟩⟩, hS.F ht⟩) hS.2.2 dX12_middleOf_126
      · have k_19 : (ms).toInt > (i_4).toInt := z_nle c_10
        refine lv_aload_n hx hb dX12_middleOf_14 rfl (lv_at hl 2 rfl) ?_
        refine va_get (D := (dC, dI)) (ci := 12) (v := .ref h4) (C := RX12) (T := TX12) (N := 70) hx hb hts hiX12 hown hK hP 0 rfl rfl 11 (by decide) w__fieldLink_RX12_32_ShellHeapModel_bedOf_I_ (fun _ h9 => h9) rfl dX12_middleOf_15 ?_
        refine lv_aload_n hx hb dX12_middleOf_18 rfl (lv_at hl 2 rfl) ?_
        refine va_get (D := (dC, dI)) (ci := 12) (v := .ref h1) (C := RX12) (T := TX12) (N := 70) hx hb hts hiX12 hown hK hP 0 rfl rfl 41 (by decide) w__fieldLink_RX12_90_ShellHeapModel_shellOf_I_ (fun _ h9 => h9) rfl dX12_middleOf_19 ?_
        refine lv_iload hx hb dX12_middleOf_22 (lv_at hl 0 rfl) ?_
        refine va_iald hx hb hK hP 1 0 rfl rfl (z_vpin (by omega) (by omega)) dX12_middleOf_24 ?_
        refine lv_topi (fun z_20 ez_20 => ?_)
        have kz_20 : ((0 : Int) ≤ (z_20).toInt ∧ (z_20).toInt ≤ (11 : Int)) := by rw [ez_20]; exact hI_h1 _
        refine va_iald hx hb hK hP 4 3 rfl rfl (z_vpinB kz_20 (by decide) (by decide)) dX12_middleOf_25 ?_
        refine lv_topi (fun z_21 ez_21 => ?_)
        have kz_21 : ((0 : Int) ≤ (z_21).toInt ∧ (z_21).toInt ≤ (11 : Int)) := by rw [ez_21]; exact hI_h4 _
        refine lv_iload_n hx hb dX12_middleOf_26 rfl (lv_at hl 3 rfl) ?_
        refine lv_icmp_eq (tgt := 33) hx hb dX12_middleOf_27 (by decide) (fun c_22 => ?_) (fun c_22 => ?_)
        · have k_23 : (z_21).toInt = (p1).toInt := z_eq c_22
          refine lv_aload_n hx hb dX12_middleOf_33 rfl (lv_at hl 2 rfl) ?_
          refine va_get (D := (dC, dI)) (ci := 12) (v := .ref h2) (C := RX12) (T := TX12) (N := 70) hx hb hts hiX12 hown hK hP 0 rfl rfl 42 (by decide) w__fieldLink_RX12_93_ShellHeapModel_shell_I_ (fun _ h9 => h9) rfl dX12_middleOf_34 ?_
          refine lv_iconst (v := 3) hx hb dX12_middleOf_37 (by decide) ?_
          refine lv_iload hx hb dX12_middleOf_38 (lv_at hl 0 rfl) ?_
          refine lv_imul hx hb dX12_middleOf_40 ?_
          refine lv_topi (fun z_24 ez_24 => ?_)
          have kz_24 : (z_24).toInt = (3 : Int) * (i_4).toInt := by rw [ez_24]; exact z_mul (a := (3 : Int)) (b := (i_4).toInt) rfl rfl (by omega) (by omega)
          refine lv_iload_n hx hb dX12_middleOf_41 rfl (lv_at hl 4 rfl) ?_
          refine lv_iadd hx hb dX12_middleOf_42 ?_
          refine lv_topi (fun z_25 ez_25 => ?_)
          have kz_25 : (z_25).toInt = (z_24).toInt + (p2).toInt := by rw [ez_25]; exact z_add (a := (z_24).toInt) (b := (p2).toInt) rfl rfl (by omega) (by omega)
          refine va_iald hx hb hK hP 2 1 rfl rfl (z_vpin (by omega) (by omega)) dX12_middleOf_43 ?_
          refine lv_topi (fun z_26 ez_26 => ?_)
          refine lv_istore (lv' := [(5, .int z_26), (4, .int i_4), (3, .int n_5), (0, .ref h0), (1, .int p1), (2, .int p2)]) hx hb dX12_middleOf_44 hl (by decide) rfl (fun ls hl => ?_)
          refine lv_iload_n hx hb dX12_middleOf_46 rfl (lv_at hl 2 rfl) ?_
          refine lv_istore (lv' := [(6, .int n_5), (5, .int z_26), (4, .int i_4), (3, .int n_5), (0, .ref h0), (1, .int p1), (2, .int p2)]) hx hb dX12_middleOf_47 hl (by decide) rfl (fun ls hl => ?_)
          have loop_27 : ∀ (n_28 : Nat) (j_30 : Int32) (f_31 : Nat → Int32) (H : Heap) (locs : List Loc) (ls : Array Slot), ((j_30).toInt).toNat < n_28 → (((0 : Int) ≤ (j_30).toInt ∧ (j_30).toInt ≤ (199 : Int))) → ((j_30).toInt ≤ (n_5).toInt) → va_P (dC, dI) vwCl [(h0, .inr (12, [h0_0, h0_1, h0_2, h0_3, h0_4, h0_5, h0_6, h0_7, h0_8, h0_9, h0_10, .ref h4, h0_12, h0_13, h0_14, h0_15, h0_16, h0_17, h0_18, h0_19, h0_20, h0_21, h0_22, h0_23, h0_24, h0_25, h0_26, h0_27, h0_28, h0_29, h0_30, h0_31, h0_32, h0_33, h0_34, h0_35, h0_36, h0_37, h0_38, h0_39, .int ms, .ref h1, .ref h2, .ref h3, h0_44, h0_45, h0_46, h0_47, h0_48, h0_49, h0_50, h0_51, h0_52, h0_53, h0_54, h0_55, h0_56, h0_57, h0_58, h0_59, h0_60, h0_61, h0_62, h0_63, h0_64, h0_65, h0_66, h0_67, h0_68, h0_69])), (h1, .inl (ch1, 200, .inl fh1)), (h2, .inl (ch2, 600, .inl fh2)), (h3, .inl (ch3, 200, .inl f_31)), (h4, .inl (ch4, 12, .inl fh4))] H → va_D A [(h0, .inr (12, [h0_0, h0_1, h0_2, h0_3, h0_4, h0_5, h0_6, h0_7, h0_8, h0_9, h0_10, .ref h4, h0_12, h0_13, h0_14, h0_15, h0_16, h0_17, h0_18, h0_19, h0_20, h0_21, h0_22, h0_23, h0_24, h0_25, h0_26, h0_27, h0_28, h0_29, h0_30, h0_31, h0_32, h0_33, h0_34, h0_35, h0_36, h0_37, h0_38, h0_39, .int ms, .ref h1, .ref h2, .ref h3, h0_44, h0_45, h0_46, h0_47, h0_48, h0_49, h0_50, h0_51, h0_52, h0_53, h0_54, h0_55, h0_56, h0_57, h0_58, h0_59, h0_60, h0_61, h0_62, h0_63, h0_64, h0_65, h0_66, h0_67, h0_68, h0_69])), (h1, .inl (ch1, 200, .inl fh1)), (h2, .inl (ch2, 600, .inl fh2)), (h3, .inl (ch3, 200, .inl f_31)), (h4, .inl (ch4, 12, .inl fh4))] → va_S A s.heap H locs → lv_has ls 7 [(6, .int j_30), (5, .int z_26), (4, .int i_4), (3, .int n_5), (0, .ref h0), (1, .int p1), (2, .int p2)] → W p l e ({ frames := 0, cells := 0, slots := 0, locals := 0 } : Room) s m ([.ref h0, .int p1, .int p2] : List Value).toArray below meth c H locs 0 0 QQ (F0 m 49 ls []) := by
            intro n_28
            induction n_28 with
            | zero => intro j_30 f_31 H locs ls hm; exact absurd hm (Nat.not_lt_zero _)
            | succ n_28 ih_29 =>
              intro j_30 f_31 H locs ls hm hF_32 hF_33 hP hD hS hl
              refine lv_iload hx hb dX12_middleOf_49 (lv_at hl 0 rfl) ?_
              refine lv_if_le (tgt := 90) hx hb dX12_middleOf_51 (by decide) (fun c_34 => ?_) (fun c_34 => ?_)
              · have k_35 : (j_30).toInt ≤ (0 : Int) := z_le c_34
                obtain rfl : j_30 = 0 := z_eq' (show (j_30).toInt = (0 : Int) by omega)
                refine lv_aload_n hx hb dX12_middleOf_90 rfl (lv_at hl 4 rfl) ?_
                refine va_get (D := (dC, dI)) (ci := 12) (v := .ref h3) (C := RX12) (T := TX12) (N := 70) hx hb hts hiX12 hown hK hP 0 rfl rfl 43 (by decide) w__fieldLink_RX12_96_ShellHeapModel_row_I_ (fun _ h9 => h9) rfl dX12_middleOf_91 ?_
                refine lv_iload hx hb dX12_middleOf_94 (lv_at hl 0 rfl) ?_
                refine lv_iload hx hb dX12_middleOf_96 (lv_at hl 1 rfl) ?_
                refine va_iast hx hb hK hP hD hS 3 2 rfl rfl (by unfold vp_in; decide) dX12_middleOf_98 (fun H_37 locs hP hD hS => ?_)
                obtain ⟨hP, hD⟩ := z_s_3 hP hD
                generalize (upd f_31 (0 : Int32).toNatClampNeg z_26) = f_38 at hP hD
                obtain ⟨z_39, ez_39⟩ : ∃ y : Int32, y = n_5 + 1 := ⟨_, rfl⟩
                have kz_39 : (z_39).toInt = (n_5).toInt + (1 : Int) := by rw [ez_39]; exact z_add (b := 1) rfl rfl (z_al hF_8.1 (by decide)) (z_ah hF_8.2 (by decide))
                refine lv_iinc (v := z_39) (lv' := [(3, .int z_39), (6, .int 0), (5, .int z_26), (4, .int i_4), (0, .ref h0), (1, .int p1), (2, .int p2)]) hx hb dX12_middleOf_99 hl (k := 3) rfl (by rw [ez_39]; rfl) (by decide) rfl (fun ls hl => ?_)
                obtain ⟨z_40, ez_40⟩ : ∃ y : Int32, y = i_4 + 1 := ⟨_, rfl⟩
                have kz_40 : (z_40).toInt = (i_4).toInt + (1 : Int) := by rw [ez_40]; exact z_add (b := 1) rfl rfl (z_al hF_7.1 (by decide)) (z_ah hF_7.2 (by decide))
                refine lv_iinc (v := z_40) (lv' := [(4, .int z_40), (3, .int z_39), (6, .int 0), (5, .int z_26), (0, .ref h0), (1, .int p1), (2, .int p2)]) hx hb dX12_middleOf_102 hl (k := 3) rfl (by rw [ez_40]; rfl) (by decide) rfl (fun ls hl => ?_)
                refine lv_goto (tgt := 5) hx hb dX12_middleOf_105 (by decide) ?_
                exact ih_3 z_40 z_39 f_38 _ _ _ (show (201 - (z_40).toInt).toNat < n_2 by omega) (show ((0 : Int) ≤ (z_40).toInt ∧ (z_40).toInt ≤ (200 : Int)) by omega) (show ((0 : Int) ≤ (z_39).toInt ∧ (z_39).toInt ≤ (200 : Int)) by omega) (show (z_39).toInt ≤ (z_40).toInt by omega) hP hD hS (lv_sub hl [0, 1, 4, 5, 6] rfl)
              · have k_41 : (j_30).toInt > (0 : Int) := z_nle c_34
                refine lv_aload_n hx hb dX12_middleOf_54 rfl (lv_at hl 4 rfl) ?_
                refine va_get (D := (dC, dI)) (ci := 12) (v := .ref h3) (C := RX12) (T := TX12) (N := 70) hx hb hts hiX12 hown hK hP 0 rfl rfl 43 (by decide) w__fieldLink_RX12_96_ShellHeapModel_row_I_ (fun _ h9 => h9) rfl dX12_middleOf_55 ?_
                refine lv_iload hx hb dX12_middleOf_58 (lv_at hl 0 rfl) ?_
                refine lv_iconst (v := 1) hx hb dX12_middleOf_60 (by decide) ?_
                refine lv_isub hx hb dX12_middleOf_61 ?_
                refine lv_topi (fun z_42 ez_42 => ?_)
                have kz_42 : (z_42).toInt = (j_30).toInt - (1 : Int) := by rw [ez_42]; exact z_sub (a := (j_30).toInt) (b := (1 : Int)) rfl rfl (z_mlo hF_32.1 (by decide)) (z_mhi hF_32.2 (by decide))
                refine va_iald hx hb hK hP 3 2 rfl rfl (z_vpin (by omega) (by omega)) dX12_middleOf_62 ?_
                refine lv_topi (fun z_43 ez_43 => ?_)
                refine lv_iload hx hb dX12_middleOf_63 (lv_at hl 1 rfl) ?_
                refine lv_icmp_le (tgt := 90) hx hb dX12_middleOf_65 (by decide) (fun c_44 => ?_) (fun c_44 => ?_)
                · have k_45 : (z_43).toInt ≤ (z_26).toInt := z_le c_44
                  refine lv_aload_n hx hb dX12_middleOf_90 rfl (lv_at hl 4 rfl) ?_
                  refine va_get (D := (dC, dI)) (ci := 12) (v := .ref h3) (C := RX12) (T := TX12) (N := 70) hx hb hts hiX12 hown hK hP 0 rfl rfl 43 (by decide) w__fieldLink_RX12_96_ShellHeapModel_row_I_ (fun _ h9 => h9) rfl dX12_middleOf_91 ?_
                  refine lv_iload hx hb dX12_middleOf_94 (lv_at hl 0 rfl) ?_
                  refine lv_iload hx hb dX12_middleOf_96 (lv_at hl 1 rfl) ?_
                  refine va_iast hx hb hK hP hD hS 3 2 rfl rfl (z_vpinB hF_32 (by decide) (by decide)) dX12_middleOf_98 (fun H_46 locs hP hD hS => ?_)
                  obtain ⟨hP, hD⟩ := z_s_3 hP hD
                  generalize (upd f_31 (j_30 : Int32).toNatClampNeg z_26) = f_47 at hP hD
                  obtain ⟨z_48, ez_48⟩ : ∃ y : Int32, y = n_5 + 1 := ⟨_, rfl⟩
                  have kz_48 : (z_48).toInt = (n_5).toInt + (1 : Int) := by rw [ez_48]; exact z_add (b := 1) rfl rfl (z_al hF_8.1 (by decide)) (z_ah hF_8.2 (by decide))
                  refine lv_iinc (v := z_48) (lv' := [(3, .int z_48), (6, .int j_30), (5, .int z_26), (4, .int i_4), (0, .ref h0), (1, .int p1), (2, .int p2)]) hx hb dX12_middleOf_99 hl (k := 3) rfl (by rw [ez_48]; rfl) (by decide) rfl (fun ls hl => ?_)
                  obtain ⟨z_49, ez_49⟩ : ∃ y : Int32, y = i_4 + 1 := ⟨_, rfl⟩
                  have kz_49 : (z_49).toInt = (i_4).toInt + (1 : Int) := by rw [ez_49]; exact z_add (b := 1) rfl rfl (z_al hF_7.1 (by decide)) (z_ah hF_7.2 (by decide))
                  refine lv_iinc (v := z_49) (lv' := [(4, .int z_49), (3, .int z_48), (6, .int j_30), (5, .int z_26), (0, .ref h0), (1, .int p1), (2, .int p2)]) hx hb dX12_middleOf_102 hl (k := 3) rfl (by rw [ez_49]; rfl) (by decide) rfl (fun ls hl => ?_)
                  refine lv_goto (tgt := 5) hx hb dX12_middleOf_105 (by decide) ?_
                  exact ih_3 z_49 z_48 f_47 _ _ _ (show (201 - (z_49).toInt).toNat < n_2 by omega) (show ((0 : Int) ≤ (z_49).toInt ∧ (z_49).toInt ≤ (200 : Int)) by omega) (show ((0 : Int) ≤ (z_48).toInt ∧ (z_48).toInt ≤ (200 : Int)) by omega) (show (z_48).toInt ≤ (z_49).toInt by omega) hP hD hS (lv_sub hl [0, 1, 4, 5, 6] rfl)
                · have k_50 : (z_43).toInt > (z_26).toInt := z_nle c_44
                  refine lv_aload_n hx hb dX12_middleOf_68 rfl (lv_at hl 4 rfl) ?_
                  refine va_get (D := (dC, dI)) (ci := 12) (v := .ref h3) (C := RX12) (T := TX12) (N := 70) hx hb hts hiX12 hown hK hP 0 rfl rfl 43 (by decide) w__fieldLink_RX12_96_ShellHeapModel_row_I_ (fun _ h9 => h9) rfl dX12_middleOf_69 ?_
                  refine lv_iload hx hb dX12_middleOf_72 (lv_at hl 0 rfl) ?_
                  refine lv_aload_n hx hb dX12_middleOf_74 rfl (lv_at hl 4 rfl) ?_
                  refine va_get (D := (dC, dI)) (ci := 12) (v := .ref h3) (C := RX12) (T := TX12) (N := 70) hx hb hts hiX12 hown hK hP 0 rfl rfl 43 (by decide) w__fieldLink_RX12_96_ShellHeapModel_row_I_ (fun _ h9 => h9) rfl dX12_middleOf_75 ?_
                  refine lv_iload hx hb dX12_middleOf_78 (lv_at hl 0 rfl) ?_
                  refine lv_iconst (v := 1) hx hb dX12_middleOf_80 (by decide) ?_
                  refine lv_isub hx hb dX12_middleOf_81 ?_
                  refine lv_topi (fun z_51 ez_51 => ?_)
                  have kz_51 : (z_51).toInt = (j_30).toInt - (1 : Int) := by rw [ez_51]; exact z_sub (a := (j_30).toInt) (b := (1 : Int)) rfl rfl (z_mlo hF_32.1 (by decide)) (z_mhi hF_32.2 (by decide))
                  refine va_iald hx hb hK hP 3 2 rfl rfl (z_vpin (by omega) (by omega)) dX12_middleOf_82 ?_
                  refine lv_topi (fun z_52 ez_52 => ?_)
                  refine va_iast hx hb hK hP hD hS 3 2 rfl rfl (z_vpinB hF_32 (by decide) (by decide)) dX12_middleOf_83 (fun H_53 locs hP hD hS => ?_)
                  obtain ⟨hP, hD⟩ := z_s_3 hP hD
                  generalize (upd f_31 (j_30 : Int32).toNatClampNeg z_52) = f_54 at hP hD
                  obtain ⟨z_55, ez_55⟩ : ∃ y : Int32, y = j_30 + (-1) := ⟨_, rfl⟩
                  have kz_55 : (z_55).toInt = (j_30).toInt + (-1 : Int) := by rw [ez_55]; exact z_add (b := -1) rfl rfl (z_al hF_32.1 (by decide)) (z_ah hF_32.2 (by decide))
                  refine lv_iinc (v := z_55) (lv' := [(6, .int z_55), (5, .int z_26), (4, .int i_4), (3, .int n_5), (0, .ref h0), (1, .int p1), (2, .int p2)]) hx hb dX12_middleOf_84 hl (k := 0) rfl (by rw [ez_55]; rfl) (by decide) rfl (fun ls hl => ?_)
                  refine lv_goto (tgt := 49) hx hb dX12_middleOf_87 (by decide) ?_
                  exact ih_29 z_55 f_54 _ _ _ (show ((z_55).toInt).toNat < n_28 by omega) (show ((0 : Int) ≤ (z_55).toInt ∧ (z_55).toInt ≤ (199 : Int)) by omega) (show (z_55).toInt ≤ (n_5).toInt by omega) hP hD hS (lv_sub hl [0, 1, 2, 3, 4, 5, 6] rfl)
          exact loop_27 _ n_5 f_6 _ _ _ (Nat.lt_succ_self _) (show ((0 : Int) ≤ (n_5).toInt ∧ (n_5).toInt ≤ (199 : Int)) by omega) (show (n_5).toInt ≤ (n_5).toInt by omega) hP hD hS hl
        · have k_56 : (z_21).toInt ≠ (p1).toInt := z_ne c_22
          refine lv_goto (tgt := 102) hx hb dX12_middleOf_30 (by decide) ?_
          obtain ⟨z_57, ez_57⟩ : ∃ y : Int32, y = i_4 + 1 := ⟨_, rfl⟩
          have kz_57 : (z_57).toInt = (i_4).toInt + (1 : Int) := by rw [ez_57]; exact z_add (b := 1) rfl rfl (z_al hF_7.1 (by decide)) (z_ah hF_7.2 (by decide))
          refine lv_iinc (v := z_57) (lv' := [(4, .int z_57), (3, .int n_5), (0, .ref h0), (1, .int p1), (2, .int p2)]) hx hb dX12_middleOf_102 hl (k := 0) rfl (by rw [ez_57]; rfl) (by decide) rfl (fun ls hl => ?_)
          refine lv_goto (tgt := 5) hx hb dX12_middleOf_105 (by decide) ?_
          exact ih_3 z_57 n_5 f_6 _ _ _ (show (201 - (z_57).toInt).toNat < n_2 by omega) (show ((0 : Int) ≤ (z_57).toInt ∧ (z_57).toInt ≤ (200 : Int)) by omega) (show ((0 : Int) ≤ (n_5).toInt ∧ (n_5).toInt ≤ (200 : Int)) by omega) (show (n_5).toInt ≤ (z_57).toInt by omega) hP hD hS (lv_sub hl [0, 1, 2, 3, 4] rfl)
  exact loop_1 _ 0 0 fh3 _ _ _ (Nat.lt_succ_self _) (show ((0 : Int) ≤ (0 : Int) ∧ (0 : Int) ≤ (200 : Int)) by omega) (show ((0 : Int) ≤ (0 : Int) ∧ (0 : Int) ≤ (200 : Int)) by omega) (show (0 : Int) ≤ (0 : Int) by omega) hP hD hS hl
