def u_s_X12_bedK : List Cond := .code yX12_bed cX12_bed 5 (some .int) :: ([.fieldLink RX12 145 "ShellHeapModel" "thrown" "I", .methodLink RX12 170 yX12_isKnown, .instanceMethod yX12_isKnown, .selects RX12 yX12_isKnown yX12_isKnown, .initialized RX12, .methodLink RX12 157 yX12_isLayer, .instanceMethod yX12_isLayer, .selects RX12 yX12_isLayer yX12_isLayer, .methodLink RX12 173 yX12_know, .instanceMethod yX12_know, .selects RX12 yX12_know yX12_know, .fieldLink RX12 32 "ShellHeapModel" "bedOf" "[I", .fieldLink RX12 167 "ShellHeapModel" "quarrelNow" "I", .fieldLink RX12 44 "ShellHeapModel" "last" "[I", .methodLink RX12 177 yX12_size, .instanceMethod yX12_size, .selects RX12 yX12_size yX12_size, .fieldLink RX12 38 "ShellHeapModel" "rank" "[I", .fieldLink RX12 41 "ShellHeapModel" "first" "[I"] ++ (wsX120 ++ (u_s_X12_isKnownA ++ (u_s_X12_isLayerA ++ (u_s_X12_knowK ++ (u_s_X12_sizeK ++ []))))))
set_option maxRecDepth 20000 in
theorem gw_s_X12_bedK_s_X12_isKnownA_170 : GoodIn u_s_X12_bedK (wsV RX12 170 RX12 yX12_isKnown u_s_X12_isKnownA) := z_gV (z_gr _ [2, 3, 4, 5] rfl (by decide +kernel)) (fun w h => ⟨z_mc (z_mr (z_mr (z_ml h))), gd_s_X12_isKnownA w h⟩)
set_option maxRecDepth 20000 in
theorem gw_s_X12_bedK_s_X12_isLayerA_157 : GoodIn u_s_X12_bedK (wsV RX12 157 RX12 yX12_isLayer u_s_X12_isLayerA) := z_gV (z_gr _ [6, 7, 8, 5] rfl (by decide +kernel)) (fun w h => ⟨z_mc (z_mr (z_mr (z_mr (z_ml h)))), gd_s_X12_isLayerA w h⟩)
set_option maxRecDepth 20000 in
theorem gw_s_X12_bedK_s_X12_knowK_173 : GoodIn u_s_X12_bedK (wsV RX12 173 RX12 yX12_know u_s_X12_knowK) := z_gV (z_gr _ [9, 10, 11, 5] rfl (by decide +kernel)) (fun w h => ⟨z_mc (z_mr (z_mr (z_mr (z_mr (z_ml h))))), gd_s_X12_knowK w h⟩)
set_option maxRecDepth 20000 in
theorem gw_s_X12_bedK_s_X12_sizeK_177 : GoodIn u_s_X12_bedK (wsV RX12 177 RX12 yX12_size u_s_X12_sizeK) := z_gV (z_gr _ [15, 16, 17, 5] rfl (by decide +kernel)) (fun w h => ⟨z_mc (z_mr (z_mr (z_mr (z_mr (z_mr (z_ml h)))))), gd_s_X12_sizeK w h⟩)
set_option maxHeartbeats 4000000 in
set_option maxRecDepth 100000 in
theorem s_X12_bedK (l : Launch) (dC : Nat → ClassId) (dI : Nat → Nat → Nat) (sz : Nat) (h0 : Nat) (p1 : Int32) (p2 : Int32) (p3 : Int32) (h0_0 : Value) (h0_1 : Value) (mx : Int32) (ml : Int32) (mn : Int32) (hs : Nat) (ha : Nat) (hb9 : Nat) (hc9 : Nat) (hct : Nat) (h0_10 : Value) (hbd : Nat) (hlt : Nat) (hrk : Nat) (hfi : Nat) (hla : Nat) (mq : Int32) (h0_17 : Value) (h0_18 : Value) (h0_19 : Value) (h0_20 : Value) (h0_21 : Value) (h0_22 : Value) (h0_23 : Value) (h0_24 : Value) (h0_25 : Value) (h0_26 : Value) (h0_27 : Value) (h0_28 : Value) (h0_29 : Value) (h0_30 : Value) (h0_31 : Value) (h0_32 : Value) (h0_33 : Value) (h0_34 : Value) (h0_35 : Value) (h0_36 : Value) (h0_37 : Value) (h0_38 : Value) (h0_39 : Value) (h0_40 : Value) (h0_41 : Value) (h0_42 : Value) (h0_43 : Value) (h0_44 : Value) (h0_45 : Value) (h0_46 : Value) (h0_47 : Value) (h0_48 : Value) (h0_49 : Value) (h0_50 : Value) (h0_51 : Value) (h0_52 : Value) (h0_53 : Value) (h0_54 : Value) (h0_55 : Value) (h0_56 : Value) (h0_57 : Value) (h0_58 : Value) (h0_59 : Value) (h0_60 : Value) (h0_61 : Value) (h0_62 : Value) (h0_63 : Value) (h0_64 : Value) (h0_65 : Value) (h0_66 : Value) (h0_67 : Value) (h0_68 : Value) (h0_69 : Value) (chct : ClassId) (fhct : Nat → Int32) (chs : ClassId) (fhs : Nat → Int32) (cha : ClassId) (fha : Nat → Int32) (chb9 : ClassId) (fhb9 : Nat → Int32) (chc9 : ClassId) (fhc9 : Nat → Int32) (chbd : ClassId) (fhbd : Nat → Int32) (chlt : ClassId) (fhlt : Nat → Int32) (chrk : ClassId) (fhrk : Nat → Int32) (chfi : ClassId) (fhfi : Nat → Int32) (chla : ClassId) (fhla : Nat → Int32) (gS : Nat → Int32) (gA : Nat → Int32) (gB : Nat → Int32) (gC : Nat → Int32) (hB_mn : ((0 : Int) ≤ (mn).toInt ∧ (mn).toInt ≤ (80 : Int))) (hB_ml : ((0 : Int) ≤ (ml).toInt ∧ (ml).toInt ≤ (12 : Int))) (hB_mq : ((0 : Int) ≤ (mq).toInt ∧ (mq).toInt ≤ (2 : Int))) (hI_ha : ∀ j : Nat, ((0 : Int) ≤ (fha j).toInt ∧ (fha j).toInt ≤ (79 : Int))) (hI_hbd : ∀ j : Nat, ((0 : Int) ≤ (fhbd j).toInt ∧ (fhbd j).toInt ≤ (11 : Int))) (hR : ∀ j : Nat, z_relm (fhs j) (fha j) (fhb9 j)) (hS0 : ∀ j : Nat, (0 : Int) ≤ (fhs j).toInt) (hNR : k_nn fhs fha fhb9 fhc9 mn.toInt gS gA gB gC) (hGF : k_GF gS gA gB mn.toInt ml.toInt) : Met l yX12_bed u_s_X12_bedK ({ frames := 2, cells := 0, slots := 0, locals := 47 }) (va_Pc [.ref h0, .int p1, .int p2, .int p3] (z_C (dC, dI) vwCl [(h0, .inr (12, [h0_0, h0_1, .int mx, .int ml, .int mn, .ref hs, .ref ha, .ref hb9, .ref hc9, .ref hct, h0_10, .ref hbd, .ref hlt, .ref hrk, .ref hfi, .ref hla, .int mq, h0_17, h0_18, h0_19, h0_20, h0_21, h0_22, h0_23, h0_24, h0_25, h0_26, h0_27, h0_28, h0_29, h0_30, h0_31, h0_32, h0_33, h0_34, h0_35, h0_36, h0_37, h0_38, h0_39, h0_40, h0_41, h0_42, h0_43, h0_44, h0_45, h0_46, h0_47, h0_48, h0_49, h0_50, h0_51, h0_52, h0_53, h0_54, h0_55, h0_56, h0_57, h0_58, h0_59, h0_60, h0_61, h0_62, h0_63, h0_64, h0_65, h0_66, h0_67, h0_68, h0_69])), (hct, .inl (chct, 80, .inl fhct)), (hs, .inl (chs, 80, .inl fhs)), (ha, .inl (cha, 80, .inl fha)), (hb9, .inl (chb9, 80, .inl fhb9)), (hc9, .inl (chc9, 80, .inl fhc9)), (hbd, .inl (chbd, 12, .inl fhbd)), (hlt, .inl (chlt, 144, .inl fhlt)), (hrk, .inl (chrk, 12, .inl fhrk)), (hfi, .inl (chfi, 12, .inl fhfi)), (hla, .inl (chla, 12, .inl fhla))] [(chct, .boolean), (chs, .int), (cha, .int), (chb9, .int), (chc9, .int), (chbd, .int), (chlt, .boolean), (chrk, .int), (chfi, .int), (chla, .int)] sz)) (va_Qi (fun (r : Int32) (_ : Unit) => r = v_bdA mn ml gS gA gB gC p1 p2 p3) (fun (_ : Unit) (t : State) => ∃ (n_h0_thrown : Int32), ∃ (n_h0_quarrelNow : Int32), ∃ (g_hct : Nat → Int32), ∃ (g_hbd : Nat → Int32), ∃ (g_hlt : Nat → Int32), ∃ (g_hrk : Nat → Int32), ∃ (g_hfi : Nat → Int32), ∃ (g_hla : Nat → Int32), ((0 : Int) ≤ (n_h0_quarrelNow).toInt ∧ (n_h0_quarrelNow).toInt ≤ (2 : Int)) ∧ (∀ j : Nat, ((0 : Int) ≤ (g_hbd j).toInt ∧ (g_hbd j).toInt ≤ (11 : Int))) ∧ va_P (dC, dI) vwCl [(h0, .inr (12, [h0_0, h0_1, .int n_h0_thrown, .int ml, .int mn, .ref hs, .ref ha, .ref hb9, .ref hc9, .ref hct, h0_10, .ref hbd, .ref hlt, .ref hrk, .ref hfi, .ref hla, .int n_h0_quarrelNow, h0_17, h0_18, h0_19, h0_20, h0_21, h0_22, h0_23, h0_24, h0_25, h0_26, h0_27, h0_28, h0_29, h0_30, h0_31, h0_32, h0_33, h0_34, h0_35, h0_36, h0_37, h0_38, h0_39, h0_40, h0_41, h0_42, h0_43, h0_44, h0_45, h0_46, h0_47, h0_48, h0_49, h0_50, h0_51, h0_52, h0_53, h0_54, h0_55, h0_56, h0_57, h0_58, h0_59, h0_60, h0_61, h0_62, h0_63, h0_64, h0_65, h0_66, h0_67, h0_68, h0_69])), (hct, .inl (chct, 80, .inl g_hct)), (hs, .inl (chs, 80, .inl fhs)), (ha, .inl (cha, 80, .inl fha)), (hb9, .inl (chb9, 80, .inl fhb9)), (hc9, .inl (chc9, 80, .inl fhc9)), (hbd, .inl (chbd, 12, .inl g_hbd)), (hlt, .inl (chlt, 144, .inl g_hlt)), (hrk, .inl (chrk, 12, .inl g_hrk)), (hfi, .inl (chfi, 12, .inl g_hfi)), (hla, .inl (chla, 12, .inl g_hla))] t.heap ∧ va_K (dC, dI) vwCl [] t ∧ va_D (va_A [(h0, .inr (12, [h0_0, h0_1, .int mx, .int ml, .int mn, .ref hs, .ref ha, .ref hb9, .ref hc9, .ref hct, h0_10, .ref hbd, .ref hlt, .ref hrk, .ref hfi, .ref hla, .int mq, h0_17, h0_18, h0_19, h0_20, h0_21, h0_22, h0_23, h0_24, h0_25, h0_26, h0_27, h0_28, h0_29, h0_30, h0_31, h0_32, h0_33, h0_34, h0_35, h0_36, h0_37, h0_38, h0_39, h0_40, h0_41, h0_42, h0_43, h0_44, h0_45, h0_46, h0_47, h0_48, h0_49, h0_50, h0_51, h0_52, h0_53, h0_54, h0_55, h0_56, h0_57, h0_58, h0_59, h0_60, h0_61, h0_62, h0_63, h0_64, h0_65, h0_66, h0_67, h0_68, h0_69])), (hct, .inl (chct, 80, .inl fhct)), (hs, .inl (chs, 80, .inl fhs)), (ha, .inl (cha, 80, .inl fha)), (hb9, .inl (chb9, 80, .inl fhb9)), (hc9, .inl (chc9, 80, .inl fhc9)), (hbd, .inl (chbd, 12, .inl fhbd)), (hlt, .inl (chlt, 144, .inl fhlt)), (hrk, .inl (chrk, 12, .inl fhrk)), (hfi, .inl (chfi, 12, .inl fhfi)), (hla, .inl (chla, 12, .inl fhla))] sz) [(h0, .inr (12, [h0_0, h0_1, .int n_h0_thrown, .int ml, .int mn, .ref hs, .ref ha, .ref hb9, .ref hc9, .ref hct, h0_10, .ref hbd, .ref hlt, .ref hrk, .ref hfi, .ref hla, .int n_h0_quarrelNow, h0_17, h0_18, h0_19, h0_20, h0_21, h0_22, h0_23, h0_24, h0_25, h0_26, h0_27, h0_28, h0_29, h0_30, h0_31, h0_32, h0_33, h0_34, h0_35, h0_36, h0_37, h0_38, h0_39, h0_40, h0_41, h0_42, h0_43, h0_44, h0_45, h0_46, h0_47, h0_48, h0_49, h0_50, h0_51, h0_52, h0_53, h0_54, h0_55, h0_56, h0_57, h0_58, h0_59, h0_60, h0_61, h0_62, h0_63, h0_64, h0_65, h0_66, h0_67, h0_68, h0_69])), (hct, .inl (chct, 80, .inl g_hct)), (hs, .inl (chs, 80, .inl fhs)), (ha, .inl (cha, 80, .inl fha)), (hb9, .inl (chb9, 80, .inl fhb9)), (hc9, .inl (chc9, 80, .inl fhc9)), (hbd, .inl (chbd, 12, .inl g_hbd)), (hlt, .inl (chlt, 144, .inl g_hlt)), (hrk, .inl (chrk, 12, .inl g_hrk)), (hfi, .inl (chfi, 12, .inl g_hfi)), (hla, .inl (chla, 12, .inl g_hla))]) (va_A [(h0, .inr (12, [h0_0, h0_1, .int mx, .int ml, .int mn, .ref hs, .ref ha, .ref hb9, .ref hc9, .ref hct, h0_10, .ref hbd, .ref hlt, .ref hrk, .ref hfi, .ref hla, .int mq, h0_17, h0_18, h0_19, h0_20, h0_21, h0_22, h0_23, h0_24, h0_25, h0_26, h0_27, h0_28, h0_29, h0_30, h0_31, h0_32, h0_33, h0_34, h0_35, h0_36, h0_37, h0_38, h0_39, h0_40, h0_41, h0_42, h0_43, h0_44, h0_45, h0_46, h0_47, h0_48, h0_49, h0_50, h0_51, h0_52, h0_53, h0_54, h0_55, h0_56, h0_57, h0_58, h0_59, h0_60, h0_61, h0_62, h0_63, h0_64, h0_65, h0_66, h0_67, h0_68, h0_69])), (hct, .inl (chct, 80, .inl fhct)), (hs, .inl (chs, 80, .inl fhs)), (ha, .inl (cha, 80, .inl fha)), (hb9, .inl (chb9, 80, .inl fhb9)), (hc9, .inl (chc9, 80, .inl fhc9)), (hbd, .inl (chbd, 12, .inl fhbd)), (hlt, .inl (chlt, 144, .inl fhlt)), (hrk, .inl (chrk, 12, .inl fhrk)), (hfi, .inl (chfi, 12, .inl fhfi)), (hla, .inl (chla, 12, .inl fhla))] sz)) 0 0 (va_A [(h0, .inr (12, [h0_0, h0_1, .int mx, .int ml, .int mn, .ref hs, .ref ha, .ref hb9, .ref hc9, .ref hct, h0_10, .ref hbd, .ref hlt, .ref hrk, .ref hfi, .ref hla, .int mq, h0_17, h0_18, h0_19, h0_20, h0_21, h0_22, h0_23, h0_24, h0_25, h0_26, h0_27, h0_28, h0_29, h0_30, h0_31, h0_32, h0_33, h0_34, h0_35, h0_36, h0_37, h0_38, h0_39, h0_40, h0_41, h0_42, h0_43, h0_44, h0_45, h0_46, h0_47, h0_48, h0_49, h0_50, h0_51, h0_52, h0_53, h0_54, h0_55, h0_56, h0_57, h0_58, h0_59, h0_60, h0_61, h0_62, h0_63, h0_64, h0_65, h0_66, h0_67, h0_68, h0_69])), (hct, .inl (chct, 80, .inl fhct)), (hs, .inl (chs, 80, .inl fhs)), (ha, .inl (cha, 80, .inl fha)), (hb9, .inl (chb9, 80, .inl fhb9)), (hc9, .inl (chc9, 80, .inl fhc9)), (hbd, .inl (chbd, 12, .inl fhbd)), (hlt, .inl (chlt, 144, .inl fhlt)), (hrk, .inl (chrk, 12, .inl fhrk)), (hfi, .inl (chfi, 12, .inl fhfi)), (hla, .inl (chla, 12, .inl fhla))] sz) := by
  refine Met.ofW (cc := cX12_bed) (maxL := 5) (ret := (some .int)) (by decide) rfl ?_
  intro p e s m args below meth c s₁ B hml hv
  obtain ⟨rfl, hsz, hP, hK, hD0⟩ := hv
  have hx := B.exec
  have hb := B.bytes
  have hr := B.returns
  have hts := atoms_spec (ws := u_s_X12_bedK) B.pre
  have hown : s.vm.findClass RX12 = some m.cls := findClass_of_methodNamed B.named
  have hlocks := B.notSynchronized
  subst hsz
  have hD := hD0.self (sz := s.heap.size)
  generalize hAe : va_A [(h0, .inr (12, [h0_0, h0_1, .int mx, .int ml, .int mn, .ref hs, .ref ha, .ref hb9, .ref hc9, .ref hct, h0_10, .ref hbd, .ref hlt, .ref hrk, .ref hfi, .ref hla, .int mq, h0_17, h0_18, h0_19, h0_20, h0_21, h0_22, h0_23, h0_24, h0_25, h0_26, h0_27, h0_28, h0_29, h0_30, h0_31, h0_32, h0_33, h0_34, h0_35, h0_36, h0_37, h0_38, h0_39, h0_40, h0_41, h0_42, h0_43, h0_44, h0_45, h0_46, h0_47, h0_48, h0_49, h0_50, h0_51, h0_52, h0_53, h0_54, h0_55, h0_56, h0_57, h0_58, h0_59, h0_60, h0_61, h0_62, h0_63, h0_64, h0_65, h0_66, h0_67, h0_68, h0_69])), (hct, .inl (chct, 80, .inl fhct)), (hs, .inl (chs, 80, .inl fhs)), (ha, .inl (cha, 80, .inl fha)), (hb9, .inl (chb9, 80, .inl fhb9)), (hc9, .inl (chc9, 80, .inl fhc9)), (hbd, .inl (chbd, 12, .inl fhbd)), (hlt, .inl (chlt, 144, .inl fhlt)), (hrk, .inl (chrk, 12, .inl fhrk)), (hfi, .inl (chfi, 12, .inl fhfi)), (hla, .inl (chla, 12, .inl fhla))] s.heap.size = A at hD ⊢
  have hA : ∀ q : Nat, s.heap.size ≤ q → A q := fun q h => by rw [← hAe]; exact Or.inr h
  have hS : va_S A s.heap s.heap [] := va_S.rf
  have hP : va_P (dC, dI) vwCl [(h0, .inr (12, [h0_0, h0_1, .int mx, .int ml, .int mn, .ref hs, .ref ha, .ref hb9, .ref hc9, .ref hct, h0_10, .ref hbd, .ref hlt, .ref hrk, .ref hfi, .ref hla, .int mq, h0_17, h0_18, h0_19, h0_20, h0_21, h0_22, h0_23, h0_24, h0_25, h0_26, h0_27, h0_28, h0_29, h0_30, h0_31, h0_32, h0_33, h0_34, h0_35, h0_36, h0_37, h0_38, h0_39, h0_40, h0_41, h0_42, h0_43, h0_44, h0_45, h0_46, h0_47, h0_48, h0_49, h0_50, h0_51, h0_52, h0_53, h0_54, h0_55, h0_56, h0_57, h0_58, h0_59, h0_60, h0_61, h0_62, h0_63, h0_64, h0_65, h0_66, h0_67, h0_68, h0_69])), (hct, .inl (chct, 80, .inl fhct)), (hs, .inl (chs, 80, .inl fhs)), (ha, .inl (cha, 80, .inl fha)), (hb9, .inl (chb9, 80, .inl fhb9)), (hc9, .inl (chc9, 80, .inl fhc9)), (hbd, .inl (chbd, 12, .inl fhbd)), (hlt, .inl (chlt, 144, .inl fhlt)), (hrk, .inl (chrk, 12, .inl fhrk)), (hfi, .inl (chfi, 12, .inl fhfi)), (hla, .inl (chla, 12, .inl fhla))] s.heap := hP
  have w__fieldLink_RX12_145_ShellHeapModel_thrown_I_ := hts (.fieldLink RX12 145 "ShellHeapModel" "thrown" "I") (z_mc (z_ml z_m0))
  have hiX12 := show ∀ w ∈ u_ws RX12 TX12 70, w ∈ u_s_X12_bedK from fun w h => z_mc (z_mr (z_ml h))
  have w__fieldLink_RX12_32_ShellHeapModel_bedOf_I_ := hts (.fieldLink RX12 32 "ShellHeapModel" "bedOf" "[I") (z_mc (z_ml z_m11))
  have w__fieldLink_RX12_167_ShellHeapModel_quarrelNow_I_ := hts (.fieldLink RX12 167 "ShellHeapModel" "quarrelNow" "I") (z_mc (z_ml z_m12))
  have w__fieldLink_RX12_44_ShellHeapModel_last_I_ := hts (.fieldLink RX12 44 "ShellHeapModel" "last" "[I") (z_mc (z_ml z_m13))
  have w__fieldLink_RX12_38_ShellHeapModel_rank_I_ := hts (.fieldLink RX12 38 "ShellHeapModel" "rank" "[I") (z_mc (z_ml z_m17))
  have w__fieldLink_RX12_41_ShellHeapModel_first_I_ := hts (.fieldLink RX12 41 "ShellHeapModel" "first" "[I") (z_mc (z_ml z_m18))
  have krr_p1 := z_rng p1
  have krr_p2 := z_rng p2
  have krr_p3 := z_rng p3
  have hl := lv_entry ([.ref h0, .int p1, .int p2, .int p3]) (n := 5) (Nat.le_of_ble_eq_true rfl)
  rw [lg_entry_eq]
  generalize (lg_sl ([.ref h0, .int p1, .int p2, .int p3]) ++ List.replicate (5 - (lg_sl ([.ref h0, .int p1, .int p2, .int p3])).length) Slot.unset).toArray = ls at hl ⊢
  have hl : lv_has ls 5 [(0, .ref h0), (1, .int p1), (2, .int p2), (3, .int p3)] := hl
  refine lv_aload_n hx hb dX12_bed_0 rfl (lv_at hl 0 rfl) ?_
  refine lv_iconst (v := 0) hx hb dX12_bed_1 (by decide) ?_
  refine va_put (D := (dC, dI)) (ci := 12) (v := .int 0) (ty := .int) (C := RX12) (T := TX12) (N := 70) hx hb hts hiX12 tyX12 tyX12_ok nmX12 hown hK hP hD hS 0 rfl rfl 2 (by decide) w__fieldLink_RX12_145_ShellHeapModel_thrown_I_ (fun _ h9 => h9) rfl (by decide +kernel) rfl rfl (Nat.le_of_ble_eq_true rfl) dX12_bed_2 (fun H_1 locs hP hD hS => ?_)
  obtain ⟨hP, hD⟩ := z_s_0_2 hP hD
  refine lv_aload_n hx hb dX12_bed_5 rfl (lv_at hl 0 rfl) ?_
  refine lv_iload_n hx hb dX12_bed_6 rfl (lv_at hl 1 rfl) ?_
  obtain ⟨hPc, hDc⟩ := z_sub2 (ws' := [(h0, .inr (12, [h0_0, h0_1, .int 0, .int ml, .int mn, .ref hs, .ref ha, .ref hb9, .ref hc9, .ref hct, h0_10, .ref hbd, .ref hlt, .ref hrk, .ref hfi, .ref hla, .int mq, h0_17, h0_18, h0_19, h0_20, h0_21, h0_22, h0_23, h0_24, h0_25, h0_26, h0_27, h0_28, h0_29, h0_30, h0_31, h0_32, h0_33, h0_34, h0_35, h0_36, h0_37, h0_38, h0_39, h0_40, h0_41, h0_42, h0_43, h0_44, h0_45, h0_46, h0_47, h0_48, h0_49, h0_50, h0_51, h0_52, h0_53, h0_54, h0_55, h0_56, h0_57, h0_58, h0_59, h0_60, h0_61, h0_62, h0_63, h0_64, h0_65, h0_66, h0_67, h0_68, h0_69]))]) hP hD [0] (by decide) rfl
  have hKc := hK.sub (tys' := []) [] rfl
  have hFc := va_free (ws := []) (wc := []) (z_D0 _) hS hA [] rfl
  refine va_calli (va_runV (As := [.int p1]) (rest := []) ⟨hx, hb, hml, hown, hts⟩ (s_X12_isKnownA l dC dI H_1.size h0 p1 h0_0 h0_1 (.int 0) (.int ml) mn (.ref hs) (.ref ha) (.ref hb9) (.ref hc9) (.ref hct) h0_10 (.ref hbd) (.ref hlt) (.ref hrk) (.ref hfi) (.ref hla) (.int mq) h0_17 h0_18 h0_19 h0_20 h0_21 h0_22 h0_23 h0_24 h0_25 h0_26 h0_27 h0_28 h0_29 h0_30 h0_31 h0_32 h0_33 h0_34 h0_35 h0_36 h0_37 h0_38 h0_39 h0_40 h0_41 h0_42 h0_43 h0_44 h0_45 h0_46 h0_47 h0_48 h0_49 h0_50 h0_51 h0_52 h0_53 h0_54 h0_55 h0_56 h0_57 h0_58 h0_59 h0_60 h0_61 h0_62 h0_63 h0_64 h0_65 h0_66 h0_67 h0_68 h0_69 hB_mn) (cwV 1 hts gw_s_X12_bedK_s_X12_isKnownA_170 rfl rfl rfl (by decide +kernel) ⟨Nat.le_of_ble_eq_true rfl, Nat.le_of_ble_eq_true rfl⟩) ⟨z_blind, va_recv hKc hPc (ci := 12) (q0 := 0) rfl rfl, z_pre hPc hKc hDc⟩ rfl rfl hl.1 rfl (lv_room (Nat.le_of_ble_eq_true rfl)) dX12_bed_7 ⟨Nat.le_of_ble_eq_true rfl, Nat.le_of_ble_eq_true rfl⟩) hS (fun q _ h => hFc q h) hFc (fun r_3 u t H_2 locs ht hvm hw_4 hB hz1 hk1 hS => ?_)
  replace hP := z_pure hP hk1
  clear hPc hDc hKc
  rcases hw_4 with ⟨rfl, hw_4⟩ | ⟨rfl, hw_4⟩
  · have hw_4 : (0 ≤ p1.toInt ∧ p1.toInt ≤ mn.toInt) := hw_4
    refine lv_if_eq (tgt := 30) hx hb dX12_bed_10 (by decide) (fun c_5 => absurd c_5 (by decide)) (fun _ => ?_)
    refine lv_aload_n hx hb dX12_bed_13 rfl (lv_at hl 0 rfl) ?_
    refine lv_iload_n hx hb dX12_bed_14 rfl (lv_at hl 2 rfl) ?_
    obtain ⟨hPc, hDc⟩ := z_sub2 (ws' := [(h0, .inr (12, [h0_0, h0_1, .int 0, .int ml, .int mn, .ref hs, .ref ha, .ref hb9, .ref hc9, .ref hct, h0_10, .ref hbd, .ref hlt, .ref hrk, .ref hfi, .ref hla, .int mq, h0_17, h0_18, h0_19, h0_20, h0_21, h0_22, h0_23, h0_24, h0_25, h0_26, h0_27, h0_28, h0_29, h0_30, h0_31, h0_32, h0_33, h0_34, h0_35, h0_36, h0_37, h0_38, h0_39, h0_40, h0_41, h0_42, h0_43, h0_44, h0_45, h0_46, h0_47, h0_48, h0_49, h0_50, h0_51, h0_52, h0_53, h0_54, h0_55, h0_56, h0_57, h0_58, h0_59, h0_60, h0_61, h0_62, h0_63, h0_64, h0_65, h0_66, h0_67, h0_68, h0_69]))]) hP hD [0] (by decide) rfl
    have hKc := hK.sub (tys' := []) [] rfl
    have hFc := va_free (ws := []) (wc := []) (z_D0 _) hS hA [] rfl
    refine va_calli (va_runV (As := [.int p2]) (rest := []) ⟨hx, hb, hml, hown, hts⟩ (s_X12_isLayerA l dC dI H_2.size h0 p2 h0_0 h0_1 (.int 0) ml (.int mn) (.ref hs) (.ref ha) (.ref hb9) (.ref hc9) (.ref hct) h0_10 (.ref hbd) (.ref hlt) (.ref hrk) (.ref hfi) (.ref hla) (.int mq) h0_17 h0_18 h0_19 h0_20 h0_21 h0_22 h0_23 h0_24 h0_25 h0_26 h0_27 h0_28 h0_29 h0_30 h0_31 h0_32 h0_33 h0_34 h0_35 h0_36 h0_37 h0_38 h0_39 h0_40 h0_41 h0_42 h0_43 h0_44 h0_45 h0_46 h0_47 h0_48 h0_49 h0_50 h0_51 h0_52 h0_53 h0_54 h0_55 h0_56 h0_57 h0_58 h0_59 h0_60 h0_61 h0_62 h0_63 h0_64 h0_65 h0_66 h0_67 h0_68 h0_69 hB_ml) (cwV 1 hts gw_s_X12_bedK_s_X12_isLayerA_157 rfl rfl rfl (by decide +kernel) ⟨Nat.le_of_ble_eq_true rfl, Nat.le_of_ble_eq_true rfl⟩) ⟨z_blind, va_recv hKc hPc (ci := 12) (q0 := 0) rfl rfl, z_pre hPc hKc hDc⟩ rfl rfl hl.1 rfl (lv_room (Nat.le_of_ble_eq_true rfl)) dX12_bed_15 ⟨Nat.le_of_ble_eq_true rfl, Nat.le_of_ble_eq_true rfl⟩) hS (fun q _ h => hFc q h) hFc (fun r_7 u t H_6 locs ht hvm hw_8 hB hz1 hk1 hS => ?_)
    replace hP := z_pure hP hk1
    clear hPc hDc hKc
    rcases hw_8 with ⟨rfl, hw_8⟩ | ⟨rfl, hw_8⟩
    · have hw_8 : (0 ≤ p2.toInt ∧ p2.toInt < ml.toInt) := hw_8
      refine lv_if_eq (tgt := 30) hx hb dX12_bed_18 (by decide) (fun c_9 => absurd c_9 (by decide)) (fun _ => ?_)
      refine lv_iload_n hx hb dX12_bed_21 rfl (lv_at hl 3 rfl) ?_
      refine lv_if_lt (tgt := 30) hx hb dX12_bed_22 (by decide) (fun c_10 => ?_) (fun c_10 => ?_)
      · have k_11 : (p3).toInt < (0 : Int) := z_lt c_10
        refine lv_bipush (v := (-2)) hx hb dX12_bed_30 (by decide) ?_
        have hP9 := hP
        have hD9 := hD
        have hK9 := hK.sub (tys' := []) [] rfl
        refine W.widen (k := 0) (n := 0) (Nat.le_of_ble_eq_true rfl) (Nat.le_of_ble_eq_true rfl) ?_
        exact W.iret (v := (-2)) hx hb hr (fun t ht hW => ⟨⟨(-2), (), rfl, (show (-2) = v_bdA mn ml gS gA gB gC p1 p2 p3 by unfold v_bdA; rw [if_neg (by omega)]), ⟨0, mq, fhct, fhbd, fhlt, fhrk, fhfi, fhla, hB_mq, hI_hbd, by rw [ht]; exact hP9, va_K.moved hW.alike hK9, hD9⟩⟩, hS.F ht⟩) hS.2.2 dX12_bed_32
      · have k_12 : (p3).toInt ≥ (0 : Int) := z_nlt c_10
        refine lv_iload_n hx hb dX12_bed_25 rfl (lv_at hl 3 rfl) ?_
        refine lv_iconst (v := 4) hx hb dX12_bed_26 (by decide) ?_
        refine lv_icmp_le (tgt := 33) hx hb dX12_bed_27 (by decide) (fun c_13 => ?_) (fun c_13 => ?_)
        · have k_14 : (p3).toInt ≤ (4 : Int) := z_le c_13
          refine lv_aload_n hx hb dX12_bed_33 rfl (lv_at hl 0 rfl) ?_
          refine lv_iload_n hx hb dX12_bed_34 rfl (lv_at hl 1 rfl) ?_
          have hSR : k_sr fhs fha (p1).toInt := k_nn_sr hNR hGF (by omega)
          have hPc := hP
          have hDc := hD
          have hKc := hK
          have hFc := z_freeI hD hS hA
          refine va_callv (va_runV (As := [.int p1]) (rest := []) ⟨hx, hb, hml, hown, hts⟩ (s_X12_knowK l dC dI H_6.size h0 p1 h0_0 h0_1 (.int 0) (.int ml) mn hs ha hb9 hc9 hct h0_10 hbd hlt hrk hfi hla mq h0_17 h0_18 h0_19 h0_20 h0_21 h0_22 h0_23 h0_24 h0_25 h0_26 h0_27 h0_28 h0_29 h0_30 h0_31 h0_32 h0_33 h0_34 h0_35 h0_36 h0_37 h0_38 h0_39 h0_40 h0_41 h0_42 h0_43 h0_44 h0_45 h0_46 h0_47 h0_48 h0_49 h0_50 h0_51 h0_52 h0_53 h0_54 h0_55 h0_56 h0_57 h0_58 h0_59 h0_60 h0_61 h0_62 h0_63 h0_64 h0_65 h0_66 h0_67 h0_68 h0_69 chct fhct chs fhs cha fha chb9 fhb9 chc9 fhc9 chbd fhbd chlt fhlt chrk fhrk chfi fhfi chla fhla hB_mq (by first | omega | decide) hB_mn hI_ha hI_hbd hR hS0 hSR) (cwV 1 hts gw_s_X12_bedK_s_X12_knowK_173 rfl rfl rfl (by decide +kernel) ⟨Nat.le_of_ble_eq_true rfl, Nat.le_of_ble_eq_true rfl⟩) ⟨z_blind, va_recv hKc hPc (ci := 12) (q0 := 0) rfl rfl, z_pre hPc hKc hDc⟩ rfl rfl hl.1 rfl (lv_room (Nat.le_of_ble_eq_true rfl)) dX12_bed_35 ⟨Nat.le_of_ble_eq_true rfl, Nat.le_of_ble_eq_true rfl⟩) hS (fun q _ h => hFc q h) hFc (fun u t H_15 locs ht hvm hw_17 hB hz1 hk1 hS => ?_)
          obtain ⟨n_h0_quarrelNow_18, g_hct_19, g_hbd_20, g_hlt_21, g_hrk_22, g_hfi_23, g_hla_24, hp_25, hp_26, hp_27, hP1, hK1, hD1⟩ := hB
          rw [ht] at hP1
          have hK1 := va_K.moved hvm.symm hK1
          obtain ⟨hP, hD⟩ := z_ap_0 (va_join (wr := []) hP hD [0, 1, 2, 3, 4, 5, 6, 7, 8, 9, 10] [] rfl rfl (by decide) (by decide) hk1 hFc hP1 hD1)
          have hp_27 : k_KR fhs fha fhb9 fhc9 p1.toInt mn.toInt g_hct_19 g_hbd_20 g_hlt_21 g_hrk_22 g_hfi_23 g_hla_24 n_h0_quarrelNow_18.toInt := hp_27
          clear hPc hDc hKc
          refine lv_aload_n hx hb dX12_bed_38 rfl (lv_at hl 0 rfl) ?_
          refine va_get (D := (dC, dI)) (ci := 12) (v := .ref hbd) (C := RX12) (T := TX12) (N := 70) hx hb hts hiX12 hown hK hP 0 rfl rfl 11 (by decide) w__fieldLink_RX12_32_ShellHeapModel_bedOf_I_ (fun _ h9 => h9) rfl dX12_bed_39 ?_
          refine lv_iload_n hx hb dX12_bed_42 rfl (lv_at hl 2 rfl) ?_
          refine va_iald hx hb hK hP 6 5 rfl rfl (z_vpin (by omega) (by omega)) dX12_bed_43 ?_
          refine lv_topi (fun z_28 ez_28 => ?_)
          have kz_28 : ((0 : Int) ≤ (z_28).toInt ∧ (z_28).toInt ≤ (11 : Int)) := by rw [ez_28]; exact hp_26 _
          refine lv_istore (lv' := [(4, .int z_28), (0, .ref h0), (1, .int p1), (2, .int p2), (3, .int p3)]) hx hb dX12_bed_44 hl (by decide) rfl (fun ls hl => ?_)
          refine lv_iload_n hx hb dX12_bed_46 rfl (lv_at hl 4 rfl) ?_
          rcases z_sw p3 (0) (3) with hsw | hsw
          · refine lv_tableOut (tgt := 125) hx hb dX12_bed_47 hsw (by decide) ?_
            refine lv_aload_n hx hb dX12_bed_125 rfl (lv_at hl 1 rfl) ?_
            refine va_get (D := (dC, dI)) (ci := 12) (v := .int n_h0_quarrelNow_18) (C := RX12) (T := TX12) (N := 70) hx hb hts hiX12 hown hK hP 0 rfl rfl 16 (by decide) w__fieldLink_RX12_167_ShellHeapModel_quarrelNow_I_ (fun _ h9 => h9) rfl dX12_bed_126 ?_
            refine lv_if_le (tgt := 136) hx hb dX12_bed_129 (by decide) (fun c_29 => ?_) (fun c_29 => ?_)
            · have k_30 : (n_h0_quarrelNow_18).toInt ≤ (0 : Int) := z_le c_29
              obtain rfl : n_h0_quarrelNow_18 = 0 := z_eq' (show (n_h0_quarrelNow_18).toInt = (0 : Int) by omega)
              refine lv_aload_n hx hb dX12_bed_136 rfl (lv_at hl 1 rfl) ?_
              refine va_get (D := (dC, dI)) (ci := 12) (v := .ref hla) (C := RX12) (T := TX12) (N := 70) hx hb hts hiX12 hown hK hP 0 rfl rfl 15 (by decide) w__fieldLink_RX12_44_ShellHeapModel_last_I_ (fun _ h9 => h9) rfl dX12_bed_137 ?_
              refine lv_iload hx hb dX12_bed_140 (lv_at hl 0 rfl) ?_
              refine va_iald hx hb hK hP 10 9 rfl rfl (z_vpinB kz_28 (by decide) (by decide)) dX12_bed_142 ?_
              refine lv_topi (fun z_32 ez_32 => ?_)
              have hP9 := hP
              have hD9 := hD
              have hK9 := hK.sub (tys' := []) [] rfl
              refine W.widen (k := 0) (n := 0) (Nat.le_of_ble_eq_true rfl) (Nat.le_of_ble_eq_true rfl) ?_
              exact W.iret (v := z_32) hx hb hr (fun t ht hW => ⟨⟨z_32, (), rfl, (show z_32 = v_bdA mn ml gS gA gB gC p1 p2 p3 by unfold v_bdA; rw [if_pos (by omega)]; exact k_bd_t hGF (by omega) ⟨by omega, by omega⟩ (k_AS_r (by omega) (by omega) (by omega) hGF hNR hp_27) (k_f4 (by omega) (k_bd3 ez_28 (Or.inr ⟨by first | omega | decide, congrArg Int32.toInt ez_32⟩)))), ⟨0, 0, g_hct_19, g_hbd_20, g_hlt_21, g_hrk_22, g_hfi_23, g_hla_24, (by decide), hp_26, by rw [ht]; exact hP9, va_K.moved hW.alike hK9, hD9⟩⟩, hS.F ht⟩) hS.2.2 dX12_bed_143
            · have k_33 : (n_h0_quarrelNow_18).toInt > (0 : Int) := z_nle c_29
              refine lv_iconst (v := (-1)) hx hb dX12_bed_132 (by decide) ?_
              refine lv_goto (tgt := 143) hx hb dX12_bed_133 (by decide) ?_
              have hP9 := hP
              have hD9 := hD
              have hK9 := hK.sub (tys' := []) [] rfl
              refine W.widen (k := 0) (n := 0) (Nat.le_of_ble_eq_true rfl) (Nat.le_of_ble_eq_true rfl) ?_
              exact W.iret (v := (-1)) hx hb hr (fun t ht hW => ⟨⟨(-1), (), rfl, (show (-1) = v_bdA mn ml gS gA gB gC p1 p2 p3 by unfold v_bdA; rw [if_pos (by omega)]; exact k_bd_t hGF (by omega) ⟨by omega, by omega⟩ (k_AS_r (by omega) (by omega) (by omega) hGF hNR hp_27) (k_f4 (by omega) (k_bd3 ez_28 (Or.inl ⟨by first | omega | decide, by decide⟩)))), ⟨0, n_h0_quarrelNow_18, g_hct_19, g_hbd_20, g_hlt_21, g_hrk_22, g_hfi_23, g_hla_24, hp_25, hp_26, by rw [ht]; exact hP9, va_K.moved hW.alike hK9, hD9⟩⟩, hS.F ht⟩) hS.2.2 dX12_bed_143
          · rcases (show (p3).toInt = (0 : Int) ∨ ¬ (p3).toInt = (0 : Int) from Classical.em _) with he | he
            · obtain rfl : p3 = 0 := z_eq' he
              refine lv_tableIn (tgt := 76) hx hb dX12_bed_47 (by decide) (by decide) (off := 29) rfl (by decide) ?_
              refine lv_iload hx hb dX12_bed_76 (lv_at hl 0 rfl) ?_
              have hP9 := hP
              have hD9 := hD
              have hK9 := hK.sub (tys' := []) [] rfl
              refine W.widen (k := 0) (n := 0) (Nat.le_of_ble_eq_true rfl) (Nat.le_of_ble_eq_true rfl) ?_
              exact W.iret (v := z_28) hx hb hr (fun t ht hW => ⟨⟨z_28, (), rfl, (show z_28 = v_bdA mn ml gS gA gB gC p1 p2 0 by unfold v_bdA; rw [if_pos (by omega)]; exact k_bd_t hGF (by omega) ⟨by omega, by omega⟩ (k_AS_r (by omega) (by omega) (by omega) hGF hNR hp_27) (k_f0 (by first | omega | decide) (congrArg Int32.toInt ez_28))), ⟨0, n_h0_quarrelNow_18, g_hct_19, g_hbd_20, g_hlt_21, g_hrk_22, g_hfi_23, g_hla_24, hp_25, hp_26, by rw [ht]; exact hP9, va_K.moved hW.alike hK9, hD9⟩⟩, hS.F ht⟩) hS.2.2 dX12_bed_78
            · rcases (show (p3).toInt = (1 : Int) ∨ ¬ (p3).toInt = (1 : Int) from Classical.em _) with he | he
              · obtain rfl : p3 = 1 := z_eq' he
                refine lv_tableIn (tgt := 79) hx hb dX12_bed_47 (by decide) (by decide) (off := 32) rfl (by decide) ?_
                refine lv_aload_n hx hb dX12_bed_79 rfl (lv_at hl 1 rfl) ?_
                refine lv_iload hx hb dX12_bed_80 (lv_at hl 0 rfl) ?_
                obtain ⟨hPc, hDc⟩ := z_sub2 (ws' := [(h0, .inr (12, [h0_0, h0_1, .int 0, .int ml, .int mn, .ref hs, .ref ha, .ref hb9, .ref hc9, .ref hct, h0_10, .ref hbd, .ref hlt, .ref hrk, .ref hfi, .ref hla, .int n_h0_quarrelNow_18, h0_17, h0_18, h0_19, h0_20, h0_21, h0_22, h0_23, h0_24, h0_25, h0_26, h0_27, h0_28, h0_29, h0_30, h0_31, h0_32, h0_33, h0_34, h0_35, h0_36, h0_37, h0_38, h0_39, h0_40, h0_41, h0_42, h0_43, h0_44, h0_45, h0_46, h0_47, h0_48, h0_49, h0_50, h0_51, h0_52, h0_53, h0_54, h0_55, h0_56, h0_57, h0_58, h0_59, h0_60, h0_61, h0_62, h0_63, h0_64, h0_65, h0_66, h0_67, h0_68, h0_69])), (hbd, .inl (chbd, 12, .inl g_hbd_20))]) hP hD [0, 6] (by decide) rfl
                have hKc := hK.sub (tys' := [(chbd, .int)]) [5] rfl
                have hFc := va_free (ws := []) (wc := []) (z_D0 _) hS hA [] rfl
                refine va_calli (va_runV (As := [.int z_28]) (rest := []) ⟨hx, hb, hml, hown, hts⟩ (s_X12_sizeK l dC dI H_15.size h0 z_28 h0_0 h0_1 (.int 0) ml (.int mn) (.ref hs) (.ref ha) (.ref hb9) (.ref hc9) (.ref hct) h0_10 hbd (.ref hlt) (.ref hrk) (.ref hfi) (.ref hla) (.int n_h0_quarrelNow_18) h0_17 h0_18 h0_19 h0_20 h0_21 h0_22 h0_23 h0_24 h0_25 h0_26 h0_27 h0_28 h0_29 h0_30 h0_31 h0_32 h0_33 h0_34 h0_35 h0_36 h0_37 h0_38 h0_39 h0_40 h0_41 h0_42 h0_43 h0_44 h0_45 h0_46 h0_47 h0_48 h0_49 h0_50 h0_51 h0_52 h0_53 h0_54 h0_55 h0_56 h0_57 h0_58 h0_59 h0_60 h0_61 h0_62 h0_63 h0_64 h0_65 h0_66 h0_67 h0_68 h0_69 chbd g_hbd_20 hB_ml hp_26) (cwV 1 hts gw_s_X12_bedK_s_X12_sizeK_177 rfl rfl rfl (by decide +kernel) ⟨Nat.le_of_ble_eq_true rfl, Nat.le_of_ble_eq_true rfl⟩) ⟨z_blind, va_recv hKc hPc (ci := 12) (q0 := 0) rfl rfl, z_pre hPc hKc hDc⟩ rfl rfl hl.1 rfl (lv_room (Nat.le_of_ble_eq_true rfl)) dX12_bed_82 ⟨Nat.le_of_ble_eq_true rfl, Nat.le_of_ble_eq_true rfl⟩) hS (fun q _ h => hFc q h) hFc (fun r_35 u t H_34 locs ht hvm hw_36 hB hz1 hk1 hS => ?_)
                replace hP := z_pure hP hk1
                clear hPc hDc hKc
                have hP9 := hP
                have hD9 := hD
                have hK9 := hK.sub (tys' := []) [] rfl
                refine W.widen (k := 0) (n := 0) (Nat.le_of_ble_eq_true rfl) (Nat.le_of_ble_eq_true rfl) ?_
                exact W.iret (v := r_35) hx hb hr (fun t ht hW => ⟨⟨r_35, (), rfl, (show r_35 = v_bdA mn ml gS gA gB gC p1 p2 1 by unfold v_bdA; rw [if_pos (by omega)]; exact k_bd_t hGF (by omega) ⟨by omega, by omega⟩ (k_AS_r (by omega) (by omega) (by omega) hGF hNR hp_27) (k_f1 (by first | omega | decide) (k_bd1m hw_36 ez_28))), ⟨0, n_h0_quarrelNow_18, g_hct_19, g_hbd_20, g_hlt_21, g_hrk_22, g_hfi_23, g_hla_24, hp_25, hp_26, by rw [ht]; exact hP9, va_K.moved hW.alike hK9, hD9⟩⟩, hS.F ht⟩) hS.2.2 dX12_bed_85
              · rcases (show (p3).toInt = (2 : Int) ∨ ¬ (p3).toInt = (2 : Int) from Classical.em _) with he | he
                · obtain rfl : p3 = 2 := z_eq' he
                  refine lv_tableIn (tgt := 86) hx hb dX12_bed_47 (by decide) (by decide) (off := 39) rfl (by decide) ?_
                  refine lv_aload_n hx hb dX12_bed_86 rfl (lv_at hl 1 rfl) ?_
                  refine va_get (D := (dC, dI)) (ci := 12) (v := .int n_h0_quarrelNow_18) (C := RX12) (T := TX12) (N := 70) hx hb hts hiX12 hown hK hP 0 rfl rfl 16 (by decide) w__fieldLink_RX12_167_ShellHeapModel_quarrelNow_I_ (fun _ h9 => h9) rfl dX12_bed_87 ?_
                  refine lv_iconst (v := 1) hx hb dX12_bed_90 (by decide) ?_
                  refine lv_icmp_ne (tgt := 98) hx hb dX12_bed_91 (by decide) (fun c_37 => ?_) (fun c_37 => ?_)
                  · have k_38 : (n_h0_quarrelNow_18).toInt ≠ (1 : Int) := z_ne c_37
                    refine lv_aload_n hx hb dX12_bed_98 rfl (lv_at hl 1 rfl) ?_
                    refine va_get (D := (dC, dI)) (ci := 12) (v := .ref hrk) (C := RX12) (T := TX12) (N := 70) hx hb hts hiX12 hown hK hP 0 rfl rfl 13 (by decide) w__fieldLink_RX12_38_ShellHeapModel_rank_I_ (fun _ h9 => h9) rfl dX12_bed_99 ?_
                    refine lv_iload hx hb dX12_bed_102 (lv_at hl 0 rfl) ?_
                    refine va_iald hx hb hK hP 8 7 rfl rfl (z_vpinB kz_28 (by decide) (by decide)) dX12_bed_104 ?_
                    refine lv_topi (fun z_39 ez_39 => ?_)
                    have hP9 := hP
                    have hD9 := hD
                    have hK9 := hK.sub (tys' := []) [] rfl
                    refine W.widen (k := 0) (n := 0) (Nat.le_of_ble_eq_true rfl) (Nat.le_of_ble_eq_true rfl) ?_
                    exact W.iret (v := z_39) hx hb hr (fun t ht hW => ⟨⟨z_39, (), rfl, (show z_39 = v_bdA mn ml gS gA gB gC p1 p2 2 by unfold v_bdA; rw [if_pos (by omega)]; exact k_bd_t hGF (by omega) ⟨by omega, by omega⟩ (k_AS_r (by omega) (by omega) (by omega) hGF hNR hp_27) (k_f2 (by first | omega | decide) (k_bd2 ez_28 (Or.inr ⟨by first | omega | decide, congrArg Int32.toInt ez_39⟩)))), ⟨0, n_h0_quarrelNow_18, g_hct_19, g_hbd_20, g_hlt_21, g_hrk_22, g_hfi_23, g_hla_24, hp_25, hp_26, by rw [ht]; exact hP9, va_K.moved hW.alike hK9, hD9⟩⟩, hS.F ht⟩) hS.2.2 dX12_bed_105
                  · have k_40 : (n_h0_quarrelNow_18).toInt = (1 : Int) := z_eq c_37
                    obtain rfl : n_h0_quarrelNow_18 = 1 := z_eq' (show (n_h0_quarrelNow_18).toInt = (1 : Int) by omega)
                    refine lv_iconst (v := (-1)) hx hb dX12_bed_94 (by decide) ?_
                    refine lv_goto (tgt := 105) hx hb dX12_bed_95 (by decide) ?_
                    have hP9 := hP
                    have hD9 := hD
                    have hK9 := hK.sub (tys' := []) [] rfl
                    refine W.widen (k := 0) (n := 0) (Nat.le_of_ble_eq_true rfl) (Nat.le_of_ble_eq_true rfl) ?_
                    exact W.iret (v := (-1)) hx hb hr (fun t ht hW => ⟨⟨(-1), (), rfl, (show (-1) = v_bdA mn ml gS gA gB gC p1 p2 2 by unfold v_bdA; rw [if_pos (by omega)]; exact k_bd_t hGF (by omega) ⟨by omega, by omega⟩ (k_AS_r (by omega) (by omega) (by omega) hGF hNR hp_27) (k_f2 (by first | omega | decide) (k_bd2 ez_28 (Or.inl ⟨by first | omega | decide, by decide⟩)))), ⟨0, 1, g_hct_19, g_hbd_20, g_hlt_21, g_hrk_22, g_hfi_23, g_hla_24, (by decide), hp_26, by rw [ht]; exact hP9, va_K.moved hW.alike hK9, hD9⟩⟩, hS.F ht⟩) hS.2.2 dX12_bed_105
                · rcases (show (p3).toInt = (3 : Int) ∨ ¬ (p3).toInt = (3 : Int) from Classical.em _) with he | he
                  · obtain rfl : p3 = 3 := z_eq' he
                    refine lv_tableIn (tgt := 106) hx hb dX12_bed_47 (by decide) (by decide) (off := 59) rfl (by decide) ?_
                    refine lv_aload_n hx hb dX12_bed_106 rfl (lv_at hl 1 rfl) ?_
                    refine va_get (D := (dC, dI)) (ci := 12) (v := .int n_h0_quarrelNow_18) (C := RX12) (T := TX12) (N := 70) hx hb hts hiX12 hown hK hP 0 rfl rfl 16 (by decide) w__fieldLink_RX12_167_ShellHeapModel_quarrelNow_I_ (fun _ h9 => h9) rfl dX12_bed_107 ?_
                    refine lv_if_le (tgt := 117) hx hb dX12_bed_110 (by decide) (fun c_42 => ?_) (fun c_42 => ?_)
                    · have k_43 : (n_h0_quarrelNow_18).toInt ≤ (0 : Int) := z_le c_42
                      obtain rfl : n_h0_quarrelNow_18 = 0 := z_eq' (show (n_h0_quarrelNow_18).toInt = (0 : Int) by omega)
                      refine lv_aload_n hx hb dX12_bed_117 rfl (lv_at hl 1 rfl) ?_
                      refine va_get (D := (dC, dI)) (ci := 12) (v := .ref hfi) (C := RX12) (T := TX12) (N := 70) hx hb hts hiX12 hown hK hP 0 rfl rfl 14 (by decide) w__fieldLink_RX12_41_ShellHeapModel_first_I_ (fun _ h9 => h9) rfl dX12_bed_118 ?_
                      refine lv_iload hx hb dX12_bed_121 (lv_at hl 0 rfl) ?_
                      refine va_iald hx hb hK hP 9 8 rfl rfl (z_vpinB kz_28 (by decide) (by decide)) dX12_bed_123 ?_
                      refine lv_topi (fun z_45 ez_45 => ?_)
                      have hP9 := hP
                      have hD9 := hD
                      have hK9 := hK.sub (tys' := []) [] rfl
                      refine W.widen (k := 0) (n := 0) (Nat.le_of_ble_eq_true rfl) (Nat.le_of_ble_eq_true rfl) ?_
                      exact W.iret (v := z_45) hx hb hr (fun t ht hW => ⟨⟨z_45, (), rfl, (show z_45 = v_bdA mn ml gS gA gB gC p1 p2 3 by unfold v_bdA; rw [if_pos (by omega)]; exact k_bd_t hGF (by omega) ⟨by omega, by omega⟩ (k_AS_r (by omega) (by omega) (by omega) hGF hNR hp_27) (k_f3 (by first | omega | decide) (k_bd3 ez_28 (Or.inr ⟨by first | omega | decide, congrArg Int32.toInt ez_45⟩)))), ⟨0, 0, g_hct_19, g_hbd_20, g_hlt_21, g_hrk_22, g_hfi_23, g_hla_24, (by decide), hp_26, by rw [ht]; exact hP9, va_K.moved hW.alike hK9, hD9⟩⟩, hS.F ht⟩) hS.2.2 dX12_bed_124
                    · have k_46 : (n_h0_quarrelNow_18).toInt > (0 : Int) := z_nle c_42
                      refine lv_iconst (v := (-1)) hx hb dX12_bed_113 (by decide) ?_
                      refine lv_goto (tgt := 124) hx hb dX12_bed_114 (by decide) ?_
                      have hP9 := hP
                      have hD9 := hD
                      have hK9 := hK.sub (tys' := []) [] rfl
                      refine W.widen (k := 0) (n := 0) (Nat.le_of_ble_eq_true rfl) (Nat.le_of_ble_eq_true rfl) ?_
                      exact W.iret (v := (-1)) hx hb hr (fun t ht hW => ⟨⟨(-1), (), rfl, (show (-1) = v_bdA mn ml gS gA gB gC p1 p2 3 by unfold v_bdA; rw [if_pos (by omega)]; exact k_bd_t hGF (by omega) ⟨by omega, by omega⟩ (k_AS_r (by omega) (by omega) (by omega) hGF hNR hp_27) (k_f3 (by first | omega | decide) (k_bd3 ez_28 (Or.inl ⟨by first | omega | decide, by decide⟩)))), ⟨0, n_h0_quarrelNow_18, g_hct_19, g_hbd_20, g_hlt_21, g_hrk_22, g_hfi_23, g_hla_24, hp_25, hp_26, by rw [ht]; exact hP9, va_K.moved hW.alike hK9, hD9⟩⟩, hS.F ht⟩) hS.2.2 dX12_bed_124
                  · exfalso; omega
        · have k_47 : (p3).toInt > (4 : Int) := z_nle c_13
          refine lv_bipush (v := (-2)) hx hb dX12_bed_30 (by decide) ?_
          have hP9 := hP
          have hD9 := hD
          have hK9 := hK.sub (tys' := []) [] rfl
          refine W.widen (k := 0) (n := 0) (Nat.le_of_ble_eq_true rfl) (Nat.le_of_ble_eq_true rfl) ?_
          exact W.iret (v := (-2)) hx hb hr (fun t ht hW => ⟨⟨(-2), (), rfl, (show (-2) = v_bdA mn ml gS gA gB gC p1 p2 p3 by unfold v_bdA; rw [if_neg (by omega)]), ⟨0, mq, fhct, fhbd, fhlt, fhrk, fhfi, fhla, hB_mq, hI_hbd, by rw [ht]; exact hP9, va_K.moved hW.alike hK9, hD9⟩⟩, hS.F ht⟩) hS.2.2 dX12_bed_32
    · have hw_8 : ¬ (0 ≤ p2.toInt ∧ p2.toInt < ml.toInt) := hw_8
      refine lv_if_eq (tgt := 30) hx hb dX12_bed_18 (by decide) (fun _ => ?_) (fun c_48 => absurd (by decide) c_48)
      refine lv_bipush (v := (-2)) hx hb dX12_bed_30 (by decide) ?_
      have hP9 := hP
      have hD9 := hD
      have hK9 := hK.sub (tys' := []) [] rfl
      refine W.widen (k := 0) (n := 0) (Nat.le_of_ble_eq_true rfl) (Nat.le_of_ble_eq_true rfl) ?_
      exact W.iret (v := (-2)) hx hb hr (fun t ht hW => ⟨⟨(-2), (), rfl, (show (-2) = v_bdA mn ml gS gA gB gC p1 p2 p3 by unfold v_bdA; rw [if_neg (by omega)]), ⟨0, mq, fhct, fhbd, fhlt, fhrk, fhfi, fhla, hB_mq, hI_hbd, by rw [ht]; exact hP9, va_K.moved hW.alike hK9, hD9⟩⟩, hS.F ht⟩) hS.2.2 dX12_bed_32
  · have hw_4 : ¬ (0 ≤ p1.toInt ∧ p1.toInt ≤ mn.toInt) := hw_4
    refine lv_if_eq (tgt := 30) hx hb dX12_bed_10 (by decide) (fun _ => ?_) (fun c_49 => absurd (by decide) c_49)
    refine lv_bipush (v := (-2)) hx hb dX12_bed_30 (by decide) ?_
    have hP9 := hP
    have hD9 := hD
    have hK9 := hK.sub (tys' := []) [] rfl
    refine W.widen (k := 0) (n := 0) (Nat.le_of_ble_eq_true rfl) (Nat.le_of_ble_eq_true rfl) ?_
    exact W.iret (v := (-2)) hx hb hr (fun t ht hW => ⟨⟨(-2), (), rfl, (show (-2) = v_bdA mn ml gS gA gB gC p1 p2 p3 by unfold v_bdA; rw [if_neg (by omega)]), ⟨0, mq, fhct, fhbd, fhlt, fhrk, fhfi, fhla, hB_mq, hI_hbd, by rw [ht]; exact hP9, va_K.moved hW.alike hK9, hD9⟩⟩, hS.F ht⟩) hS.2.2 dX12_bed_32
def u_s_X12_orderK : List Cond := .code yX12_order cX12_order 4 (some .int) :: ([.fieldLink RX12 145 "ShellHeapModel" "thrown" "I", .methodLink RX12 170 yX12_isKnown, .instanceMethod yX12_isKnown, .selects RX12 yX12_isKnown yX12_isKnown, .initialized RX12, .methodLink RX12 157 yX12_isLayer, .instanceMethod yX12_isLayer, .selects RX12 yX12_isLayer yX12_isLayer, .methodLink RX12 173 yX12_know, .instanceMethod yX12_know, .selects RX12 yX12_know yX12_know, .fieldLink RX12 35 "ShellHeapModel" "later" "[Z", .fieldLink RX12 32 "ShellHeapModel" "bedOf" "[I"] ++ (wsX120 ++ (u_s_X12_isKnownA ++ (u_s_X12_isLayerA ++ (u_s_X12_knowK ++ [])))))
set_option maxRecDepth 20000 in
theorem gw_s_X12_orderK_s_X12_isKnownA_170 : GoodIn u_s_X12_orderK (wsV RX12 170 RX12 yX12_isKnown u_s_X12_isKnownA) := z_gV (z_gr _ [2, 3, 4, 5] rfl (by decide +kernel)) (fun w h => ⟨z_mc (z_mr (z_mr (z_ml h))), gd_s_X12_isKnownA w h⟩)
set_option maxRecDepth 20000 in
theorem gw_s_X12_orderK_s_X12_isLayerA_157 : GoodIn u_s_X12_orderK (wsV RX12 157 RX12 yX12_isLayer u_s_X12_isLayerA) := z_gV (z_gr _ [6, 7, 8, 5] rfl (by decide +kernel)) (fun w h => ⟨z_mc (z_mr (z_mr (z_mr (z_ml h)))), gd_s_X12_isLayerA w h⟩)
set_option maxRecDepth 20000 in
theorem gw_s_X12_orderK_s_X12_knowK_173 : GoodIn u_s_X12_orderK (wsV RX12 173 RX12 yX12_know u_s_X12_knowK) := z_gV (z_gr _ [9, 10, 11, 5] rfl (by decide +kernel)) (fun w h => ⟨z_mc (z_mr (z_mr (z_mr (z_mr (z_ml h))))), gd_s_X12_knowK w h⟩)
set_option maxHeartbeats 4000000 in
set_option maxRecDepth 100000 in
theorem s_X12_orderK (l : Launch) (dC : Nat → ClassId) (dI : Nat → Nat → Nat) (sz : Nat) (h0 : Nat) (p1 : Int32) (p2 : Int32) (p3 : Int32) (h0_0 : Value) (h0_1 : Value) (mx : Int32) (ml : Int32) (mn : Int32) (hs : Nat) (ha : Nat) (hb9 : Nat) (hc9 : Nat) (hct : Nat) (h0_10 : Value) (hbd : Nat) (hlt : Nat) (hrk : Nat) (hfi : Nat) (hla : Nat) (mq : Int32) (h0_17 : Value) (h0_18 : Value) (h0_19 : Value) (h0_20 : Value) (h0_21 : Value) (h0_22 : Value) (h0_23 : Value) (h0_24 : Value) (h0_25 : Value) (h0_26 : Value) (h0_27 : Value) (h0_28 : Value) (h0_29 : Value) (h0_30 : Value) (h0_31 : Value) (h0_32 : Value) (h0_33 : Value) (h0_34 : Value) (h0_35 : Value) (h0_36 : Value) (h0_37 : Value) (h0_38 : Value) (h0_39 : Value) (h0_40 : Value) (h0_41 : Value) (h0_42 : Value) (h0_43 : Value) (h0_44 : Value) (h0_45 : Value) (h0_46 : Value) (h0_47 : Value) (h0_48 : Value) (h0_49 : Value) (h0_50 : Value) (h0_51 : Value) (h0_52 : Value) (h0_53 : Value) (h0_54 : Value) (h0_55 : Value) (h0_56 : Value) (h0_57 : Value) (h0_58 : Value) (h0_59 : Value) (h0_60 : Value) (h0_61 : Value) (h0_62 : Value) (h0_63 : Value) (h0_64 : Value) (h0_65 : Value) (h0_66 : Value) (h0_67 : Value) (h0_68 : Value) (h0_69 : Value) (chct : ClassId) (fhct : Nat → Int32) (chs : ClassId) (fhs : Nat → Int32) (cha : ClassId) (fha : Nat → Int32) (chb9 : ClassId) (fhb9 : Nat → Int32) (chc9 : ClassId) (fhc9 : Nat → Int32) (chbd : ClassId) (fhbd : Nat → Int32) (chlt : ClassId) (fhlt : Nat → Int32) (chrk : ClassId) (fhrk : Nat → Int32) (chfi : ClassId) (fhfi : Nat → Int32) (chla : ClassId) (fhla : Nat → Int32) (gS : Nat → Int32) (gA : Nat → Int32) (gB : Nat → Int32) (gC : Nat → Int32) (hB_mn : ((0 : Int) ≤ (mn).toInt ∧ (mn).toInt ≤ (80 : Int))) (hB_ml : ((0 : Int) ≤ (ml).toInt ∧ (ml).toInt ≤ (12 : Int))) (hB_mq : ((0 : Int) ≤ (mq).toInt ∧ (mq).toInt ≤ (2 : Int))) (hI_ha : ∀ j : Nat, ((0 : Int) ≤ (fha j).toInt ∧ (fha j).toInt ≤ (79 : Int))) (hI_hbd : ∀ j : Nat, ((0 : Int) ≤ (fhbd j).toInt ∧ (fhbd j).toInt ≤ (11 : Int))) (hR : ∀ j : Nat, z_relm (fhs j) (fha j) (fhb9 j)) (hS0 : ∀ j : Nat, (0 : Int) ≤ (fhs j).toInt) (hNR : k_nn fhs fha fhb9 fhc9 mn.toInt gS gA gB gC) (hGF : k_GF gS gA gB mn.toInt ml.toInt) : Met l yX12_order u_s_X12_orderK ({ frames := 2, cells := 0, slots := 0, locals := 47 }) (va_Pc [.ref h0, .int p1, .int p2, .int p3] (z_C (dC, dI) vwCl [(h0, .inr (12, [h0_0, h0_1, .int mx, .int ml, .int mn, .ref hs, .ref ha, .ref hb9, .ref hc9, .ref hct, h0_10, .ref hbd, .ref hlt, .ref hrk, .ref hfi, .ref hla, .int mq, h0_17, h0_18, h0_19, h0_20, h0_21, h0_22, h0_23, h0_24, h0_25, h0_26, h0_27, h0_28, h0_29, h0_30, h0_31, h0_32, h0_33, h0_34, h0_35, h0_36, h0_37, h0_38, h0_39, h0_40, h0_41, h0_42, h0_43, h0_44, h0_45, h0_46, h0_47, h0_48, h0_49, h0_50, h0_51, h0_52, h0_53, h0_54, h0_55, h0_56, h0_57, h0_58, h0_59, h0_60, h0_61, h0_62, h0_63, h0_64, h0_65, h0_66, h0_67, h0_68, h0_69])), (hct, .inl (chct, 80, .inl fhct)), (hs, .inl (chs, 80, .inl fhs)), (ha, .inl (cha, 80, .inl fha)), (hb9, .inl (chb9, 80, .inl fhb9)), (hc9, .inl (chc9, 80, .inl fhc9)), (hbd, .inl (chbd, 12, .inl fhbd)), (hlt, .inl (chlt, 144, .inl fhlt)), (hrk, .inl (chrk, 12, .inl fhrk)), (hfi, .inl (chfi, 12, .inl fhfi)), (hla, .inl (chla, 12, .inl fhla))] [(chct, .boolean), (chs, .int), (cha, .int), (chb9, .int), (chc9, .int), (chbd, .int), (chlt, .boolean), (chrk, .int), (chfi, .int), (chla, .int)] sz)) (va_Qi (fun (r : Int32) (_ : Unit) => r = v_orA mn ml gS gA gB gC p1 p2 p3) (fun (_ : Unit) (t : State) => ∃ (n_h0_thrown : Int32), ∃ (n_h0_quarrelNow : Int32), ∃ (g_hct : Nat → Int32), ∃ (g_hbd : Nat → Int32), ∃ (g_hlt : Nat → Int32), ∃ (g_hrk : Nat → Int32), ∃ (g_hfi : Nat → Int32), ∃ (g_hla : Nat → Int32), ((0 : Int) ≤ (n_h0_quarrelNow).toInt ∧ (n_h0_quarrelNow).toInt ≤ (2 : Int)) ∧ (∀ j : Nat, ((0 : Int) ≤ (g_hbd j).toInt ∧ (g_hbd j).toInt ≤ (11 : Int))) ∧ va_P (dC, dI) vwCl [(h0, .inr (12, [h0_0, h0_1, .int n_h0_thrown, .int ml, .int mn, .ref hs, .ref ha, .ref hb9, .ref hc9, .ref hct, h0_10, .ref hbd, .ref hlt, .ref hrk, .ref hfi, .ref hla, .int n_h0_quarrelNow, h0_17, h0_18, h0_19, h0_20, h0_21, h0_22, h0_23, h0_24, h0_25, h0_26, h0_27, h0_28, h0_29, h0_30, h0_31, h0_32, h0_33, h0_34, h0_35, h0_36, h0_37, h0_38, h0_39, h0_40, h0_41, h0_42, h0_43, h0_44, h0_45, h0_46, h0_47, h0_48, h0_49, h0_50, h0_51, h0_52, h0_53, h0_54, h0_55, h0_56, h0_57, h0_58, h0_59, h0_60, h0_61, h0_62, h0_63, h0_64, h0_65, h0_66, h0_67, h0_68, h0_69])), (hct, .inl (chct, 80, .inl g_hct)), (hs, .inl (chs, 80, .inl fhs)), (ha, .inl (cha, 80, .inl fha)), (hb9, .inl (chb9, 80, .inl fhb9)), (hc9, .inl (chc9, 80, .inl fhc9)), (hbd, .inl (chbd, 12, .inl g_hbd)), (hlt, .inl (chlt, 144, .inl g_hlt)), (hrk, .inl (chrk, 12, .inl g_hrk)), (hfi, .inl (chfi, 12, .inl g_hfi)), (hla, .inl (chla, 12, .inl g_hla))] t.heap ∧ va_K (dC, dI) vwCl [] t ∧ va_D (va_A [(h0, .inr (12, [h0_0, h0_1, .int mx, .int ml, .int mn, .ref hs, .ref ha, .ref hb9, .ref hc9, .ref hct, h0_10, .ref hbd, .ref hlt, .ref hrk, .ref hfi, .ref hla, .int mq, h0_17, h0_18, h0_19, h0_20, h0_21, h0_22, h0_23, h0_24, h0_25, h0_26, h0_27, h0_28, h0_29, h0_30, h0_31, h0_32, h0_33, h0_34, h0_35, h0_36, h0_37, h0_38, h0_39, h0_40, h0_41, h0_42, h0_43, h0_44, h0_45, h0_46, h0_47, h0_48, h0_49, h0_50, h0_51, h0_52, h0_53, h0_54, h0_55, h0_56, h0_57, h0_58, h0_59, h0_60, h0_61, h0_62, h0_63, h0_64, h0_65, h0_66, h0_67, h0_68, h0_69])), (hct, .inl (chct, 80, .inl fhct)), (hs, .inl (chs, 80, .inl fhs)), (ha, .inl (cha, 80, .inl fha)), (hb9, .inl (chb9, 80, .inl fhb9)), (hc9, .inl (chc9, 80, .inl fhc9)), (hbd, .inl (chbd, 12, .inl fhbd)), (hlt, .inl (chlt, 144, .inl fhlt)), (hrk, .inl (chrk, 12, .inl fhrk)), (hfi, .inl (chfi, 12, .inl fhfi)), (hla, .inl (chla, 12, .inl fhla))] sz) [(h0, .inr (12, [h0_0, h0_1, .int n_h0_thrown, .int ml, .int mn, .ref hs, .ref ha, .ref hb9, .ref hc9, .ref hct, h0_10, .ref hbd, .ref hlt, .ref hrk, .ref hfi, .ref hla, .int n_h0_quarrelNow, h0_17, h0_18, h0_19, h0_20, h0_21, h0_22, h0_23, h0_24, h0_25, h0_26, h0_27, h0_28, h0_29, h0_30, h0_31, h0_32, h0_33, h0_34, h0_35, h0_36, h0_37, h0_38, h0_39, h0_40, h0_41, h0_42, h0_43, h0_44, h0_45, h0_46, h0_47, h0_48, h0_49, h0_50, h0_51, h0_52, h0_53, h0_54, h0_55, h0_56, h0_57, h0_58, h0_59, h0_60, h0_61, h0_62, h0_63, h0_64, h0_65, h0_66, h0_67, h0_68, h0_69])), (hct, .inl (chct, 80, .inl g_hct)), (hs, .inl (chs, 80, .inl fhs)), (ha, .inl (cha, 80, .inl fha)), (hb9, .inl (chb9, 80, .inl fhb9)), (hc9, .inl (chc9, 80, .inl fhc9)), (hbd, .inl (chbd, 12, .inl g_hbd)), (hlt, .inl (chlt, 144, .inl g_hlt)), (hrk, .inl (chrk, 12, .inl g_hrk)), (hfi, .inl (chfi, 12, .inl g_hfi)), (hla, .inl (chla, 12, .inl g_hla))]) (va_A [(h0, .inr (12, [h0_0, h0_1, .int mx, .int ml, .int mn, .ref hs, .ref ha, .ref hb9, .ref hc9, .ref hct, h0_10, .ref hbd, .ref hlt, .ref hrk, .ref hfi, .ref hla, .int mq, h0_17, h0_18, h0_19, h0_20, h0_21, h0_22, h0_23, h0_24, h0_25, h0_26, h0_27, h0_28, h0_29, h0_30, h0_31, h0_32, h0_33, h0_34, h0_35, h0_36, h0_37, h0_38, h0_39, h0_40, h0_41, h0_42, h0_43, h0_44, h0_45, h0_46, h0_47, h0_48, h0_49, h0_50, h0_51, h0_52, h0_53, h0_54, h0_55, h0_56, h0_57, h0_58, h0_59, h0_60, h0_61, h0_62, h0_63, h0_64, h0_65, h0_66, h0_67, h0_68, h0_69])), (hct, .inl (chct, 80, .inl fhct)), (hs, .inl (chs, 80, .inl fhs)), (ha, .inl (cha, 80, .inl fha)), (hb9, .inl (chb9, 80, .inl fhb9)), (hc9, .inl (chc9, 80, .inl fhc9)), (hbd, .inl (chbd, 12, .inl fhbd)), (hlt, .inl (chlt, 144, .inl fhlt)), (hrk, .inl (chrk, 12, .inl fhrk)), (hfi, .inl (chfi, 12, .inl fhfi)), (hla, .inl (chla, 12, .inl fhla))] sz)) 0 0 (va_A [(h0, .inr (12, [h0_0, h0_1, .int mx, .int ml, .int mn, .ref hs, .ref ha, .ref hb9, .ref hc9, .ref hct, h0_10, .ref hbd, .ref hlt, .ref hrk, .ref hfi, .ref hla, .int mq, h0_17, h0_18, h0_19, h0_20, h0_21, h0_22, h0_23, h0_24, h0_25, h0_26, h0_27, h0_28, h0_29, h0_30, h0_31, h0_32, h0_33, h0_34, h0_35, h0_36, h0_37, h0_38, h0_39, h0_40, h0_41, h0_42, h0_43, h0_44, h0_45, h0_46, h0_47, h0_48, h0_49, h0_50, h0_51, h0_52, h0_53, h0_54, h0_55, h0_56, h0_57, h0_58, h0_59, h0_60, h0_61, h0_62, h0_63, h0_64, h0_65, h0_66, h0_67, h0_68, h0_69])), (hct, .inl (chct, 80, .inl fhct)), (hs, .inl (chs, 80, .inl fhs)), (ha, .inl (cha, 80, .inl fha)), (hb9, .inl (chb9, 80, .inl fhb9)), (hc9, .inl (chc9, 80, .inl fhc9)), (hbd, .inl (chbd, 12, .inl fhbd)), (hlt, .inl (chlt, 144, .inl fhlt)), (hrk, .inl (chrk, 12, .inl fhrk)), (hfi, .inl (chfi, 12, .inl fhfi)), (hla, .inl (chla, 12, .inl fhla))] sz) := by
  refine Met.ofW (cc := cX12_order) (maxL := 4) (ret := (some .int)) (by decide) rfl ?_
  intro p e s m args below meth c s₁ B hml hv
  obtain ⟨rfl, hsz, hP, hK, hD0⟩ := hv
  have hx := B.exec
  have hb := B.bytes
  have hr := B.returns
  have hts := atoms_spec (ws := u_s_X12_orderK) B.pre
  have hown : s.vm.findClass RX12 = some m.cls := findClass_of_methodNamed B.named
  have hlocks := B.notSynchronized
  subst hsz
  have hD := hD0.self (sz := s.heap.size)
  generalize hAe : va_A [(h0, .inr (12, [h0_0, h0_1, .int mx, .int ml, .int mn, .ref hs, .ref ha, .ref hb9, .ref hc9, .ref hct, h0_10, .ref hbd, .ref hlt, .ref hrk, .ref hfi, .ref hla, .int mq, h0_17, h0_18, h0_19, h0_20, h0_21, h0_22, h0_23, h0_24, h0_25, h0_26, h0_27, h0_28, h0_29, h0_30, h0_31, h0_32, h0_33, h0_34, h0_35, h0_36, h0_37, h0_38, h0_39, h0_40, h0_41, h0_42, h0_43, h0_44, h0_45, h0_46, h0_47, h0_48, h0_49, h0_50, h0_51, h0_52, h0_53, h0_54, h0_55, h0_56, h0_57, h0_58, h0_59, h0_60, h0_61, h0_62, h0_63, h0_64, h0_65, h0_66, h0_67, h0_68, h0_69])), (hct, .inl (chct, 80, .inl fhct)), (hs, .inl (chs, 80, .inl fhs)), (ha, .inl (cha, 80, .inl fha)), (hb9, .inl (chb9, 80, .inl fhb9)), (hc9, .inl (chc9, 80, .inl fhc9)), (hbd, .inl (chbd, 12, .inl fhbd)), (hlt, .inl (chlt, 144, .inl fhlt)), (hrk, .inl (chrk, 12, .inl fhrk)), (hfi, .inl (chfi, 12, .inl fhfi)), (hla, .inl (chla, 12, .inl fhla))] s.heap.size = A at hD ⊢
  have hA : ∀ q : Nat, s.heap.size ≤ q → A q := fun q h => by rw [← hAe]; exact Or.inr h
  have hS : va_S A s.heap s.heap [] := va_S.rf
  have hP : va_P (dC, dI) vwCl [(h0, .inr (12, [h0_0, h0_1, .int mx, .int ml, .int mn, .ref hs, .ref ha, .ref hb9, .ref hc9, .ref hct, h0_10, .ref hbd, .ref hlt, .ref hrk, .ref hfi, .ref hla, .int mq, h0_17, h0_18, h0_19, h0_20, h0_21, h0_22, h0_23, h0_24, h0_25, h0_26, h0_27, h0_28, h0_29, h0_30, h0_31, h0_32, h0_33, h0_34, h0_35, h0_36, h0_37, h0_38, h0_39, h0_40, h0_41, h0_42, h0_43, h0_44, h0_45, h0_46, h0_47, h0_48, h0_49, h0_50, h0_51, h0_52, h0_53, h0_54, h0_55, h0_56, h0_57, h0_58, h0_59, h0_60, h0_61, h0_62, h0_63, h0_64, h0_65, h0_66, h0_67, h0_68, h0_69])), (hct, .inl (chct, 80, .inl fhct)), (hs, .inl (chs, 80, .inl fhs)), (ha, .inl (cha, 80, .inl fha)), (hb9, .inl (chb9, 80, .inl fhb9)), (hc9, .inl (chc9, 80, .inl fhc9)), (hbd, .inl (chbd, 12, .inl fhbd)), (hlt, .inl (chlt, 144, .inl fhlt)), (hrk, .inl (chrk, 12, .inl fhrk)), (hfi, .inl (chfi, 12, .inl fhfi)), (hla, .inl (chla, 12, .inl fhla))] s.heap := hP
  have w__fieldLink_RX12_145_ShellHeapModel_thrown_I_ := hts (.fieldLink RX12 145 "ShellHeapModel" "thrown" "I") (z_mc (z_ml z_m0))
  have hiX12 := show ∀ w ∈ u_ws RX12 TX12 70, w ∈ u_s_X12_orderK from fun w h => z_mc (z_mr (z_ml h))
  have w__fieldLink_RX12_35_ShellHeapModel_later_Z_ := hts (.fieldLink RX12 35 "ShellHeapModel" "later" "[Z") (z_mc (z_ml z_m11))
  have w__fieldLink_RX12_32_ShellHeapModel_bedOf_I_ := hts (.fieldLink RX12 32 "ShellHeapModel" "bedOf" "[I") (z_mc (z_ml z_m12))
  have krr_p1 := z_rng p1
  have krr_p2 := z_rng p2
  have krr_p3 := z_rng p3
  have hl := lv_entry ([.ref h0, .int p1, .int p2, .int p3]) (n := 4) (Nat.le_of_ble_eq_true rfl)
  rw [lg_entry_eq]
  generalize (lg_sl ([.ref h0, .int p1, .int p2, .int p3]) ++ List.replicate (4 - (lg_sl ([.ref h0, .int p1, .int p2, .int p3])).length) Slot.unset).toArray = ls at hl ⊢
  have hl : lv_has ls 4 [(0, .ref h0), (1, .int p1), (2, .int p2), (3, .int p3)] := hl
  refine lv_aload_n hx hb dX12_order_0 rfl (lv_at hl 0 rfl) ?_
  refine lv_iconst (v := 0) hx hb dX12_order_1 (by decide) ?_
  refine va_put (D := (dC, dI)) (ci := 12) (v := .int 0) (ty := .int) (C := RX12) (T := TX12) (N := 70) hx hb hts hiX12 tyX12 tyX12_ok nmX12 hown hK hP hD hS 0 rfl rfl 2 (by decide) w__fieldLink_RX12_145_ShellHeapModel_thrown_I_ (fun _ h9 => h9) rfl (by decide +kernel) rfl rfl (Nat.le_of_ble_eq_true rfl) dX12_order_2 (fun H_1 locs hP hD hS => ?_)
  obtain ⟨hP, hD⟩ := z_s_0_2 hP hD
  refine lv_aload_n hx hb dX12_order_5 rfl (lv_at hl 0 rfl) ?_
  refine lv_iload_n hx hb dX12_order_6 rfl (lv_at hl 1 rfl) ?_
  obtain ⟨hPc, hDc⟩ := z_sub2 (ws' := [(h0, .inr (12, [h0_0, h0_1, .int 0, .int ml, .int mn, .ref hs, .ref ha, .ref hb9, .ref hc9, .ref hct, h0_10, .ref hbd, .ref hlt, .ref hrk, .ref hfi, .ref hla, .int mq, h0_17, h0_18, h0_19, h0_20, h0_21, h0_22, h0_23, h0_24, h0_25, h0_26, h0_27, h0_28, h0_29, h0_30, h0_31, h0_32, h0_33, h0_34, h0_35, h0_36, h0_37, h0_38, h0_39, h0_40, h0_41, h0_42, h0_43, h0_44, h0_45, h0_46, h0_47, h0_48, h0_49, h0_50, h0_51, h0_52, h0_53, h0_54, h0_55, h0_56, h0_57, h0_58, h0_59, h0_60, h0_61, h0_62, h0_63, h0_64, h0_65, h0_66, h0_67, h0_68, h0_69]))]) hP hD [0] (by decide) rfl
  have hKc := hK.sub (tys' := []) [] rfl
  have hFc := va_free (ws := []) (wc := []) (z_D0 _) hS hA [] rfl
  refine va_calli (va_runV (As := [.int p1]) (rest := []) ⟨hx, hb, hml, hown, hts⟩ (s_X12_isKnownA l dC dI H_1.size h0 p1 h0_0 h0_1 (.int 0) (.int ml) mn (.ref hs) (.ref ha) (.ref hb9) (.ref hc9) (.ref hct) h0_10 (.ref hbd) (.ref hlt) (.ref hrk) (.ref hfi) (.ref hla) (.int mq) h0_17 h0_18 h0_19 h0_20 h0_21 h0_22 h0_23 h0_24 h0_25 h0_26 h0_27 h0_28 h0_29 h0_30 h0_31 h0_32 h0_33 h0_34 h0_35 h0_36 h0_37 h0_38 h0_39 h0_40 h0_41 h0_42 h0_43 h0_44 h0_45 h0_46 h0_47 h0_48 h0_49 h0_50 h0_51 h0_52 h0_53 h0_54 h0_55 h0_56 h0_57 h0_58 h0_59 h0_60 h0_61 h0_62 h0_63 h0_64 h0_65 h0_66 h0_67 h0_68 h0_69 hB_mn) (cwV 1 hts gw_s_X12_orderK_s_X12_isKnownA_170 rfl rfl rfl (by decide +kernel) ⟨Nat.le_of_ble_eq_true rfl, Nat.le_of_ble_eq_true rfl⟩) ⟨z_blind, va_recv hKc hPc (ci := 12) (q0 := 0) rfl rfl, z_pre hPc hKc hDc⟩ rfl rfl hl.1 rfl (lv_room (Nat.le_of_ble_eq_true rfl)) dX12_order_7 ⟨Nat.le_of_ble_eq_true rfl, Nat.le_of_ble_eq_true rfl⟩) hS (fun q _ h => hFc q h) hFc (fun r_3 u t H_2 locs ht hvm hw_4 hB hz1 hk1 hS => ?_)
  replace hP := z_pure hP hk1
  clear hPc hDc hKc
  rcases hw_4 with ⟨rfl, hw_4⟩ | ⟨rfl, hw_4⟩
  · have hw_4 : (0 ≤ p1.toInt ∧ p1.toInt ≤ mn.toInt) := hw_4
    refine lv_if_eq (tgt := 29) hx hb dX12_order_10 (by decide) (fun c_5 => absurd c_5 (by decide)) (fun _ => ?_)
    refine lv_aload_n hx hb dX12_order_13 rfl (lv_at hl 0 rfl) ?_
    refine lv_iload_n hx hb dX12_order_14 rfl (lv_at hl 2 rfl) ?_
    obtain ⟨hPc, hDc⟩ := z_sub2 (ws' := [(h0, .inr (12, [h0_0, h0_1, .int 0, .int ml, .int mn, .ref hs, .ref ha, .ref hb9, .ref hc9, .ref hct, h0_10, .ref hbd, .ref hlt, .ref hrk, .ref hfi, .ref hla, .int mq, h0_17, h0_18, h0_19, h0_20, h0_21, h0_22, h0_23, h0_24, h0_25, h0_26, h0_27, h0_28, h0_29, h0_30, h0_31, h0_32, h0_33, h0_34, h0_35, h0_36, h0_37, h0_38, h0_39, h0_40, h0_41, h0_42, h0_43, h0_44, h0_45, h0_46, h0_47, h0_48, h0_49, h0_50, h0_51, h0_52, h0_53, h0_54, h0_55, h0_56, h0_57, h0_58, h0_59, h0_60, h0_61, h0_62, h0_63, h0_64, h0_65, h0_66, h0_67, h0_68, h0_69]))]) hP hD [0] (by decide) rfl
    have hKc := hK.sub (tys' := []) [] rfl
    have hFc := va_free (ws := []) (wc := []) (z_D0 _) hS hA [] rfl
    refine va_calli (va_runV (As := [.int p2]) (rest := []) ⟨hx, hb, hml, hown, hts⟩ (s_X12_isLayerA l dC dI H_2.size h0 p2 h0_0 h0_1 (.int 0) ml (.int mn) (.ref hs) (.ref ha) (.ref hb9) (.ref hc9) (.ref hct) h0_10 (.ref hbd) (.ref hlt) (.ref hrk) (.ref hfi) (.ref hla) (.int mq) h0_17 h0_18 h0_19 h0_20 h0_21 h0_22 h0_23 h0_24 h0_25 h0_26 h0_27 h0_28 h0_29 h0_30 h0_31 h0_32 h0_33 h0_34 h0_35 h0_36 h0_37 h0_38 h0_39 h0_40 h0_41 h0_42 h0_43 h0_44 h0_45 h0_46 h0_47 h0_48 h0_49 h0_50 h0_51 h0_52 h0_53 h0_54 h0_55 h0_56 h0_57 h0_58 h0_59 h0_60 h0_61 h0_62 h0_63 h0_64 h0_65 h0_66 h0_67 h0_68 h0_69 hB_ml) (cwV 1 hts gw_s_X12_orderK_s_X12_isLayerA_157 rfl rfl rfl (by decide +kernel) ⟨Nat.le_of_ble_eq_true rfl, Nat.le_of_ble_eq_true rfl⟩) ⟨z_blind, va_recv hKc hPc (ci := 12) (q0 := 0) rfl rfl, z_pre hPc hKc hDc⟩ rfl rfl hl.1 rfl (lv_room (Nat.le_of_ble_eq_true rfl)) dX12_order_15 ⟨Nat.le_of_ble_eq_true rfl, Nat.le_of_ble_eq_true rfl⟩) hS (fun q _ h => hFc q h) hFc (fun r_7 u t H_6 locs ht hvm hw_8 hB hz1 hk1 hS => ?_)
    replace hP := z_pure hP hk1
    clear hPc hDc hKc
    rcases hw_8 with ⟨rfl, hw_8⟩ | ⟨rfl, hw_8⟩
    · have hw_8 : (0 ≤ p2.toInt ∧ p2.toInt < ml.toInt) := hw_8
      refine lv_if_eq (tgt := 29) hx hb dX12_order_18 (by decide) (fun c_9 => absurd c_9 (by decide)) (fun _ => ?_)
      refine lv_aload_n hx hb dX12_order_21 rfl (lv_at hl 0 rfl) ?_
      refine lv_iload_n hx hb dX12_order_22 rfl (lv_at hl 3 rfl) ?_
      obtain ⟨hPc, hDc⟩ := z_sub2 (ws' := [(h0, .inr (12, [h0_0, h0_1, .int 0, .int ml, .int mn, .ref hs, .ref ha, .ref hb9, .ref hc9, .ref hct, h0_10, .ref hbd, .ref hlt, .ref hrk, .ref hfi, .ref hla, .int mq, h0_17, h0_18, h0_19, h0_20, h0_21, h0_22, h0_23, h0_24, h0_25, h0_26, h0_27, h0_28, h0_29, h0_30, h0_31, h0_32, h0_33, h0_34, h0_35, h0_36, h0_37, h0_38, h0_39, h0_40, h0_41, h0_42, h0_43, h0_44, h0_45, h0_46, h0_47, h0_48, h0_49, h0_50, h0_51, h0_52, h0_53, h0_54, h0_55, h0_56, h0_57, h0_58, h0_59, h0_60, h0_61, h0_62, h0_63, h0_64, h0_65, h0_66, h0_67, h0_68, h0_69]))]) hP hD [0] (by decide) rfl
      have hKc := hK.sub (tys' := []) [] rfl
      have hFc := va_free (ws := []) (wc := []) (z_D0 _) hS hA [] rfl
      refine va_calli (va_runV (As := [.int p3]) (rest := []) ⟨hx, hb, hml, hown, hts⟩ (s_X12_isLayerA l dC dI H_6.size h0 p3 h0_0 h0_1 (.int 0) ml (.int mn) (.ref hs) (.ref ha) (.ref hb9) (.ref hc9) (.ref hct) h0_10 (.ref hbd) (.ref hlt) (.ref hrk) (.ref hfi) (.ref hla) (.int mq) h0_17 h0_18 h0_19 h0_20 h0_21 h0_22 h0_23 h0_24 h0_25 h0_26 h0_27 h0_28 h0_29 h0_30 h0_31 h0_32 h0_33 h0_34 h0_35 h0_36 h0_37 h0_38 h0_39 h0_40 h0_41 h0_42 h0_43 h0_44 h0_45 h0_46 h0_47 h0_48 h0_49 h0_50 h0_51 h0_52 h0_53 h0_54 h0_55 h0_56 h0_57 h0_58 h0_59 h0_60 h0_61 h0_62 h0_63 h0_64 h0_65 h0_66 h0_67 h0_68 h0_69 hB_ml) (cwV 1 hts gw_s_X12_orderK_s_X12_isLayerA_157 rfl rfl rfl (by decide +kernel) ⟨Nat.le_of_ble_eq_true rfl, Nat.le_of_ble_eq_true rfl⟩) ⟨z_blind, va_recv hKc hPc (ci := 12) (q0 := 0) rfl rfl, z_pre hPc hKc hDc⟩ rfl rfl hl.1 rfl (lv_room (Nat.le_of_ble_eq_true rfl)) dX12_order_23 ⟨Nat.le_of_ble_eq_true rfl, Nat.le_of_ble_eq_true rfl⟩) hS (fun q _ h => hFc q h) hFc (fun r_11 u t H_10 locs ht hvm hw_12 hB hz1 hk1 hS => ?_)
      replace hP := z_pure hP hk1
      clear hPc hDc hKc
      rcases hw_12 with ⟨rfl, hw_12⟩ | ⟨rfl, hw_12⟩
      · have hw_12 : (0 ≤ p3.toInt ∧ p3.toInt < ml.toInt) := hw_12
        refine lv_if_ne (tgt := 31) hx hb dX12_order_26 (by decide) (fun _ => ?_) (fun c_13 => absurd c_13 (by decide))
        refine lv_aload_n hx hb dX12_order_31 rfl (lv_at hl 0 rfl) ?_
        refine lv_iload_n hx hb dX12_order_32 rfl (lv_at hl 1 rfl) ?_
        have hSR : k_sr fhs fha (p1).toInt := k_nn_sr hNR hGF (by omega)
        have hPc := hP
        have hDc := hD
        have hKc := hK
        have hFc := z_freeI hD hS hA
        refine va_callv (va_runV (As := [.int p1]) (rest := []) ⟨hx, hb, hml, hown, hts⟩ (s_X12_knowK l dC dI H_10.size h0 p1 h0_0 h0_1 (.int 0) (.int ml) mn hs ha hb9 hc9 hct h0_10 hbd hlt hrk hfi hla mq h0_17 h0_18 h0_19 h0_20 h0_21 h0_22 h0_23 h0_24 h0_25 h0_26 h0_27 h0_28 h0_29 h0_30 h0_31 h0_32 h0_33 h0_34 h0_35 h0_36 h0_37 h0_38 h0_39 h0_40 h0_41 h0_42 h0_43 h0_44 h0_45 h0_46 h0_47 h0_48 h0_49 h0_50 h0_51 h0_52 h0_53 h0_54 h0_55 h0_56 h0_57 h0_58 h0_59 h0_60 h0_61 h0_62 h0_63 h0_64 h0_65 h0_66 h0_67 h0_68 h0_69 chct fhct chs fhs cha fha chb9 fhb9 chc9 fhc9 chbd fhbd chlt fhlt chrk fhrk chfi fhfi chla fhla hB_mq (by first | omega | decide) hB_mn hI_ha hI_hbd hR hS0 hSR) (cwV 1 hts gw_s_X12_orderK_s_X12_knowK_173 rfl rfl rfl (by decide +kernel) ⟨Nat.le_of_ble_eq_true rfl, Nat.le_of_ble_eq_true rfl⟩) ⟨z_blind, va_recv hKc hPc (ci := 12) (q0 := 0) rfl rfl, z_pre hPc hKc hDc⟩ rfl rfl hl.1 rfl (lv_room (Nat.le_of_ble_eq_true rfl)) dX12_order_33 ⟨Nat.le_of_ble_eq_true rfl, Nat.le_of_ble_eq_true rfl⟩) hS (fun q _ h => hFc q h) hFc (fun u t H_14 locs ht hvm hw_16 hB hz1 hk1 hS => ?_)
        obtain ⟨n_h0_quarrelNow_17, g_hct_18, g_hbd_19, g_hlt_20, g_hrk_21, g_hfi_22, g_hla_23, hp_24, hp_25, hp_26, hP1, hK1, hD1⟩ := hB
        rw [ht] at hP1
        have hK1 := va_K.moved hvm.symm hK1
        obtain ⟨hP, hD⟩ := z_ap_0 (va_join (wr := []) hP hD [0, 1, 2, 3, 4, 5, 6, 7, 8, 9, 10] [] rfl rfl (by decide) (by decide) hk1 hFc hP1 hD1)
        have hp_26 : k_KR fhs fha fhb9 fhc9 p1.toInt mn.toInt g_hct_18 g_hbd_19 g_hlt_20 g_hrk_21 g_hfi_22 g_hla_23 n_h0_quarrelNow_17.toInt := hp_26
        clear hPc hDc hKc
        refine lv_aload_n hx hb dX12_order_36 rfl (lv_at hl 0 rfl) ?_
        refine va_get (D := (dC, dI)) (ci := 12) (v := .ref hlt) (C := RX12) (T := TX12) (N := 70) hx hb hts hiX12 hown hK hP 0 rfl rfl 12 (by decide) w__fieldLink_RX12_35_ShellHeapModel_later_Z_ (fun _ h9 => h9) rfl dX12_order_37 ?_
        refine lv_bipush (v := 12) hx hb dX12_order_40 (by decide) ?_
        refine lv_aload_n hx hb dX12_order_42 rfl (lv_at hl 0 rfl) ?_
        refine va_get (D := (dC, dI)) (ci := 12) (v := .ref hbd) (C := RX12) (T := TX12) (N := 70) hx hb hts hiX12 hown hK hP 0 rfl rfl 11 (by decide) w__fieldLink_RX12_32_ShellHeapModel_bedOf_I_ (fun _ h9 => h9) rfl dX12_order_43 ?_
        refine lv_iload_n hx hb dX12_order_46 rfl (lv_at hl 2 rfl) ?_
        refine va_iald hx hb hK hP 6 5 rfl rfl (z_vpin (by omega) (by omega)) dX12_order_47 ?_
        refine lv_topi (fun z_27 ez_27 => ?_)
        have kz_27 : ((0 : Int) ≤ (z_27).toInt ∧ (z_27).toInt ≤ (11 : Int)) := by rw [ez_27]; exact hp_25 _
        have kxz_27 : (z_27).toInt = (g_hbd_19 (p2 : Int32).toNatClampNeg).toInt := by rw [ez_27]
        refine lv_imul hx hb dX12_order_48 ?_
        refine lv_topi (fun z_28 ez_28 => ?_)
        have kz_28 : (z_28).toInt = (12 : Int) * (z_27).toInt := by rw [ez_28]; exact z_mul (a := (12 : Int)) (b := (z_27).toInt) rfl rfl (by omega) (by omega)
        refine lv_aload_n hx hb dX12_order_49 rfl (lv_at hl 0 rfl) ?_
        refine va_get (D := (dC, dI)) (ci := 12) (v := .ref hbd) (C := RX12) (T := TX12) (N := 70) hx hb hts hiX12 hown hK hP 0 rfl rfl 11 (by decide) w__fieldLink_RX12_32_ShellHeapModel_bedOf_I_ (fun _ h9 => h9) rfl dX12_order_50 ?_
        refine lv_iload_n hx hb dX12_order_53 rfl (lv_at hl 3 rfl) ?_
        refine va_iald hx hb hK hP 6 5 rfl rfl (z_vpin (by omega) (by omega)) dX12_order_54 ?_
        refine lv_topi (fun z_29 ez_29 => ?_)
        have kz_29 : ((0 : Int) ≤ (z_29).toInt ∧ (z_29).toInt ≤ (11 : Int)) := by rw [ez_29]; exact hp_25 _
        have kxz_29 : (z_29).toInt = (g_hbd_19 (p3 : Int32).toNatClampNeg).toInt := by rw [ez_29]
        refine lv_iadd hx hb dX12_order_55 ?_
        refine lv_topi (fun z_30 ez_30 => ?_)
        have kz_30 : (z_30).toInt = (z_28).toInt + (z_29).toInt := by rw [ez_30]; exact z_add (a := (z_28).toInt) (b := (z_29).toInt) rfl rfl (by omega) (by omega)
        refine va_zald hx hb hK hP 7 6 rfl rfl (z_vpin (by omega) (by omega)) dX12_order_56 ?_
        refine lv_topi (fun z_31 ez_31 => ?_)
        have kxz_31 : (z_31).toInt = (g_hlt_20 (z_30 : Int32).toNatClampNeg).toInt := by rw [ez_31]
        refine lv_if_eq (tgt := 64) hx hb dX12_order_57 (by decide) (fun c_32 => ?_) (fun c_32 => ?_)
        · have k_33 : (z_31).toInt = (0 : Int) := z_eq c_32
          obtain rfl : z_31 = 0 := z_eq' (show (z_31).toInt = (0 : Int) by omega)
          refine lv_iconst (v := 0) hx hb dX12_order_64 (by decide) ?_
          refine lv_aload_n hx hb dX12_order_65 rfl (lv_at hl 0 rfl) ?_
          refine va_get (D := (dC, dI)) (ci := 12) (v := .ref hlt) (C := RX12) (T := TX12) (N := 70) hx hb hts hiX12 hown hK hP 0 rfl rfl 12 (by decide) w__fieldLink_RX12_35_ShellHeapModel_later_Z_ (fun _ h9 => h9) rfl dX12_order_66 ?_
          refine lv_bipush (v := 12) hx hb dX12_order_69 (by decide) ?_
          refine lv_aload_n hx hb dX12_order_71 rfl (lv_at hl 0 rfl) ?_
          refine va_get (D := (dC, dI)) (ci := 12) (v := .ref hbd) (C := RX12) (T := TX12) (N := 70) hx hb hts hiX12 hown hK hP 0 rfl rfl 11 (by decide) w__fieldLink_RX12_32_ShellHeapModel_bedOf_I_ (fun _ h9 => h9) rfl dX12_order_72 ?_
          refine lv_iload_n hx hb dX12_order_75 rfl (lv_at hl 3 rfl) ?_
          refine va_iald hx hb hK hP 6 5 rfl rfl (z_vpin (by omega) (by omega)) dX12_order_76 ?_
          refine lv_topi (fun z_35 ez_35 => ?_)
          have kz_35 : ((0 : Int) ≤ (z_35).toInt ∧ (z_35).toInt ≤ (11 : Int)) := by rw [ez_35]; exact hp_25 _
          have kxz_35 : (z_35).toInt = (g_hbd_19 (p3 : Int32).toNatClampNeg).toInt := by rw [ez_35]
          refine lv_imul hx hb dX12_order_77 ?_
          refine lv_topi (fun z_36 ez_36 => ?_)
          have kz_36 : (z_36).toInt = (12 : Int) * (z_35).toInt := by rw [ez_36]; exact z_mul (a := (12 : Int)) (b := (z_35).toInt) rfl rfl (by omega) (by omega)
          refine lv_aload_n hx hb dX12_order_78 rfl (lv_at hl 0 rfl) ?_
          refine va_get (D := (dC, dI)) (ci := 12) (v := .ref hbd) (C := RX12) (T := TX12) (N := 70) hx hb hts hiX12 hown hK hP 0 rfl rfl 11 (by decide) w__fieldLink_RX12_32_ShellHeapModel_bedOf_I_ (fun _ h9 => h9) rfl dX12_order_79 ?_
          refine lv_iload_n hx hb dX12_order_82 rfl (lv_at hl 2 rfl) ?_
          refine va_iald hx hb hK hP 6 5 rfl rfl (z_vpin (by omega) (by omega)) dX12_order_83 ?_
          refine lv_topi (fun z_37 ez_37 => ?_)
          have kz_37 : ((0 : Int) ≤ (z_37).toInt ∧ (z_37).toInt ≤ (11 : Int)) := by rw [ez_37]; exact hp_25 _
          have kxz_37 : (z_37).toInt = (g_hbd_19 (p2 : Int32).toNatClampNeg).toInt := by rw [ez_37]
          refine lv_iadd hx hb dX12_order_84 ?_
          refine lv_topi (fun z_38 ez_38 => ?_)
          have kz_38 : (z_38).toInt = (z_36).toInt + (z_37).toInt := by rw [ez_38]; exact z_add (a := (z_36).toInt) (b := (z_37).toInt) rfl rfl (by omega) (by omega)
          refine va_zald hx hb hK hP 7 6 rfl rfl (z_vpin (by omega) (by omega)) dX12_order_85 ?_
          refine lv_topi (fun z_39 ez_39 => ?_)
          have kxz_39 : (z_39).toInt = (g_hlt_20 (z_38 : Int32).toNatClampNeg).toInt := by rw [ez_39]
          refine lv_if_eq (tgt := 93) hx hb dX12_order_86 (by decide) (fun c_40 => ?_) (fun c_40 => ?_)
          · have k_41 : (z_39).toInt = (0 : Int) := z_eq c_40
            obtain rfl : z_39 = 0 := z_eq' (show (z_39).toInt = (0 : Int) by omega)
            refine lv_iconst (v := 0) hx hb dX12_order_93 (by decide) ?_
            refine lv_iadd hx hb dX12_order_94 ?_
            refine lv_topi (fun x_43 e_44 => ?_)
            obtain rfl : x_43 = 0 := e_44.trans (by decide)
            have hP9 := hP
            have hD9 := hD
            have hK9 := hK.sub (tys' := []) [] rfl
            refine W.widen (k := 0) (n := 0) (Nat.le_of_ble_eq_true rfl) (Nat.le_of_ble_eq_true rfl) ?_
            exact W.iret (v := 0) hx hb hr (fun t ht hW => ⟨⟨0, (), rfl, (show 0 = v_orA mn ml gS gA gB gC p1 p2 p3 by unfold v_orA; rw [if_pos (by omega)]; exact k_or_t hGF (by omega) ⟨by omega, by omega⟩ ⟨by omega, by omega⟩ (k_AS_r (by omega) (by omega) (by omega) hGF hNR hp_26) (Or.inr (Or.inr (Or.inr (⟨fun g9 => absurd ((k_or2 (lt := g_hlt_20) (x := z_27) (y := z_29) (p := p2) (q := p3) (d := z_30) ⟨by omega, by omega⟩ ⟨by omega, by omega⟩ ez_27 ez_29 (by omega)).mp g9) (by omega), fun g9 => absurd ((k_or2 (lt := g_hlt_20) (x := z_35) (y := z_37) (p := p3) (q := p2) (d := z_38) ⟨by omega, by omega⟩ ⟨by omega, by omega⟩ ez_35 ez_37 (by omega)).mp g9) (by omega), by decide⟩))))), ⟨0, n_h0_quarrelNow_17, g_hct_18, g_hbd_19, g_hlt_20, g_hrk_21, g_hfi_22, g_hla_23, hp_24, hp_25, by rw [ht]; exact hP9, va_K.moved hW.alike hK9, hD9⟩⟩, hS.F ht⟩) hS.2.2 dX12_order_95
          · have k_45 : (z_39).toInt ≠ (0 : Int) := z_ne c_40
            refine lv_iconst (v := 2) hx hb dX12_order_89 (by decide) ?_
            refine lv_goto (tgt := 94) hx hb dX12_order_90 (by decide) ?_
            refine lv_iadd hx hb dX12_order_94 ?_
            refine lv_topi (fun x_46 e_47 => ?_)
            obtain rfl : x_46 = 2 := e_47.trans (by decide)
            have hP9 := hP
            have hD9 := hD
            have hK9 := hK.sub (tys' := []) [] rfl
            refine W.widen (k := 0) (n := 0) (Nat.le_of_ble_eq_true rfl) (Nat.le_of_ble_eq_true rfl) ?_
            exact W.iret (v := 2) hx hb hr (fun t ht hW => ⟨⟨2, (), rfl, (show 2 = v_orA mn ml gS gA gB gC p1 p2 p3 by unfold v_orA; rw [if_pos (by omega)]; exact k_or_t hGF (by omega) ⟨by omega, by omega⟩ ⟨by omega, by omega⟩ (k_AS_r (by omega) (by omega) (by omega) hGF hNR hp_26) (Or.inr (Or.inr (Or.inl ⟨fun g9 => absurd ((k_or2 (lt := g_hlt_20) (x := z_27) (y := z_29) (p := p2) (q := p3) (d := z_30) ⟨by omega, by omega⟩ ⟨by omega, by omega⟩ ez_27 ez_29 (by omega)).mp g9) (by omega), (k_or2 (lt := g_hlt_20) (x := z_35) (y := z_37) (p := p3) (q := p2) (d := z_38) ⟨by omega, by omega⟩ ⟨by omega, by omega⟩ ez_35 ez_37 (by omega)).mpr (by omega), by decide⟩)))), ⟨0, n_h0_quarrelNow_17, g_hct_18, g_hbd_19, g_hlt_20, g_hrk_21, g_hfi_22, g_hla_23, hp_24, hp_25, by rw [ht]; exact hP9, va_K.moved hW.alike hK9, hD9⟩⟩, hS.F ht⟩) hS.2.2 dX12_order_95
        · have k_48 : (z_31).toInt ≠ (0 : Int) := z_ne c_32
          refine lv_iconst (v := 1) hx hb dX12_order_60 (by decide) ?_
          refine lv_goto (tgt := 65) hx hb dX12_order_61 (by decide) ?_
          refine lv_aload_n hx hb dX12_order_65 rfl (lv_at hl 0 rfl) ?_
          refine va_get (D := (dC, dI)) (ci := 12) (v := .ref hlt) (C := RX12) (T := TX12) (N := 70) hx hb hts hiX12 hown hK hP 0 rfl rfl 12 (by decide) w__fieldLink_RX12_35_ShellHeapModel_later_Z_ (fun _ h9 => h9) rfl dX12_order_66 ?_
          refine lv_bipush (v := 12) hx hb dX12_order_69 (by decide) ?_
          refine lv_aload_n hx hb dX12_order_71 rfl (lv_at hl 0 rfl) ?_
          refine va_get (D := (dC, dI)) (ci := 12) (v := .ref hbd) (C := RX12) (T := TX12) (N := 70) hx hb hts hiX12 hown hK hP 0 rfl rfl 11 (by decide) w__fieldLink_RX12_32_ShellHeapModel_bedOf_I_ (fun _ h9 => h9) rfl dX12_order_72 ?_
          refine lv_iload_n hx hb dX12_order_75 rfl (lv_at hl 3 rfl) ?_
          refine va_iald hx hb hK hP 6 5 rfl rfl (z_vpin (by omega) (by omega)) dX12_order_76 ?_
          refine lv_topi (fun z_49 ez_49 => ?_)
          have kz_49 : ((0 : Int) ≤ (z_49).toInt ∧ (z_49).toInt ≤ (11 : Int)) := by rw [ez_49]; exact hp_25 _
          have kxz_49 : (z_49).toInt = (g_hbd_19 (p3 : Int32).toNatClampNeg).toInt := by rw [ez_49]
          refine lv_imul hx hb dX12_order_77 ?_
          refine lv_topi (fun z_50 ez_50 => ?_)
          have kz_50 : (z_50).toInt = (12 : Int) * (z_49).toInt := by rw [ez_50]; exact z_mul (a := (12 : Int)) (b := (z_49).toInt) rfl rfl (by omega) (by omega)
          refine lv_aload_n hx hb dX12_order_78 rfl (lv_at hl 0 rfl) ?_
          refine va_get (D := (dC, dI)) (ci := 12) (v := .ref hbd) (C := RX12) (T := TX12) (N := 70) hx hb hts hiX12 hown hK hP 0 rfl rfl 11 (by decide) w__fieldLink_RX12_32_ShellHeapModel_bedOf_I_ (fun _ h9 => h9) rfl dX12_order_79 ?_
          refine lv_iload_n hx hb dX12_order_82 rfl (lv_at hl 2 rfl) ?_
          refine va_iald hx hb hK hP 6 5 rfl rfl (z_vpin (by omega) (by omega)) dX12_order_83 ?_
          refine lv_topi (fun z_51 ez_51 => ?_)
          have kz_51 : ((0 : Int) ≤ (z_51).toInt ∧ (z_51).toInt ≤ (11 : Int)) := by rw [ez_51]; exact hp_25 _
          have kxz_51 : (z_51).toInt = (g_hbd_19 (p2 : Int32).toNatClampNeg).toInt := by rw [ez_51]
          refine lv_iadd hx hb dX12_order_84 ?_
          refine lv_topi (fun z_52 ez_52 => ?_)
          have kz_52 : (z_52).toInt = (z_50).toInt + (z_51).toInt := by rw [ez_52]; exact z_add (a := (z_50).toInt) (b := (z_51).toInt) rfl rfl (by omega) (by omega)
          refine va_zald hx hb hK hP 7 6 rfl rfl (z_vpin (by omega) (by omega)) dX12_order_85 ?_
          refine lv_topi (fun z_53 ez_53 => ?_)
          have kxz_53 : (z_53).toInt = (g_hlt_20 (z_52 : Int32).toNatClampNeg).toInt := by rw [ez_53]
          refine lv_if_eq (tgt := 93) hx hb dX12_order_86 (by decide) (fun c_54 => ?_) (fun c_54 => ?_)
          · have k_55 : (z_53).toInt = (0 : Int) := z_eq c_54
            obtain rfl : z_53 = 0 := z_eq' (show (z_53).toInt = (0 : Int) by omega)
            refine lv_iconst (v := 0) hx hb dX12_order_93 (by decide) ?_
            refine lv_iadd hx hb dX12_order_94 ?_
            refine lv_topi (fun x_57 e_58 => ?_)
            obtain rfl : x_57 = 1 := e_58.trans (by decide)
            have hP9 := hP
            have hD9 := hD
            have hK9 := hK.sub (tys' := []) [] rfl
            refine W.widen (k := 0) (n := 0) (Nat.le_of_ble_eq_true rfl) (Nat.le_of_ble_eq_true rfl) ?_
            exact W.iret (v := 1) hx hb hr (fun t ht hW => ⟨⟨1, (), rfl, (show 1 = v_orA mn ml gS gA gB gC p1 p2 p3 by unfold v_orA; rw [if_pos (by omega)]; exact k_or_t hGF (by omega) ⟨by omega, by omega⟩ ⟨by omega, by omega⟩ (k_AS_r (by omega) (by omega) (by omega) hGF hNR hp_26) (Or.inr (Or.inl ⟨(k_or2 (lt := g_hlt_20) (x := z_27) (y := z_29) (p := p2) (q := p3) (d := z_30) ⟨by omega, by omega⟩ ⟨by omega, by omega⟩ ez_27 ez_29 (by omega)).mpr (by omega), fun g9 => absurd ((k_or2 (lt := g_hlt_20) (x := z_49) (y := z_51) (p := p3) (q := p2) (d := z_52) ⟨by omega, by omega⟩ ⟨by omega, by omega⟩ ez_49 ez_51 (by omega)).mp g9) (by omega), by decide⟩))), ⟨0, n_h0_quarrelNow_17, g_hct_18, g_hbd_19, g_hlt_20, g_hrk_21, g_hfi_22, g_hla_23, hp_24, hp_25, by rw [ht]; exact hP9, va_K.moved hW.alike hK9, hD9⟩⟩, hS.F ht⟩) hS.2.2 dX12_order_95
          · have k_59 : (z_53).toInt ≠ (0 : Int) := z_ne c_54
            refine lv_iconst (v := 2) hx hb dX12_order_89 (by decide) ?_
            refine lv_goto (tgt := 94) hx hb dX12_order_90 (by decide) ?_
            refine lv_iadd hx hb dX12_order_94 ?_
            refine lv_topi (fun x_60 e_61 => ?_)
            obtain rfl : x_60 = 3 := e_61.trans (by decide)
            have hP9 := hP
            have hD9 := hD
            have hK9 := hK.sub (tys' := []) [] rfl
            refine W.widen (k := 0) (n := 0) (Nat.le_of_ble_eq_true rfl) (Nat.le_of_ble_eq_true rfl) ?_
            exact W.iret (v := 3) hx hb hr (fun t ht hW => ⟨⟨3, (), rfl, (show 3 = v_orA mn ml gS gA gB gC p1 p2 p3 by unfold v_orA; rw [if_pos (by omega)]; exact k_or_t hGF (by omega) ⟨by omega, by omega⟩ ⟨by omega, by omega⟩ (k_AS_r (by omega) (by omega) (by omega) hGF hNR hp_26) (Or.inl ⟨(k_or2 (lt := g_hlt_20) (x := z_27) (y := z_29) (p := p2) (q := p3) (d := z_30) ⟨by omega, by omega⟩ ⟨by omega, by omega⟩ ez_27 ez_29 (by omega)).mpr (by omega), (k_or2 (lt := g_hlt_20) (x := z_49) (y := z_51) (p := p3) (q := p2) (d := z_52) ⟨by omega, by omega⟩ ⟨by omega, by omega⟩ ez_49 ez_51 (by omega)).mpr (by omega), by decide⟩)), ⟨0, n_h0_quarrelNow_17, g_hct_18, g_hbd_19, g_hlt_20, g_hrk_21, g_hfi_22, g_hla_23, hp_24, hp_25, by rw [ht]; exact hP9, va_K.moved hW.alike hK9, hD9⟩⟩, hS.F ht⟩) hS.2.2 dX12_order_95
      · have hw_12 : ¬ (0 ≤ p3.toInt ∧ p3.toInt < ml.toInt) := hw_12
        refine lv_if_ne (tgt := 31) hx hb dX12_order_26 (by decide) (fun c_62 => absurd c_62 (by decide)) (fun _ => ?_)
        refine lv_iconst (v := (-1)) hx hb dX12_order_29 (by decide) ?_
        have hP9 := hP
        have hD9 := hD
        have hK9 := hK.sub (tys' := []) [] rfl
        refine W.widen (k := 0) (n := 0) (Nat.le_of_ble_eq_true rfl) (Nat.le_of_ble_eq_true rfl) ?_
        exact W.iret (v := (-1)) hx hb hr (fun t ht hW => ⟨⟨(-1), (), rfl, (show (-1) = v_orA mn ml gS gA gB gC p1 p2 p3 by unfold v_orA; rw [if_neg (by omega)]), ⟨0, mq, fhct, fhbd, fhlt, fhrk, fhfi, fhla, hB_mq, hI_hbd, by rw [ht]; exact hP9, va_K.moved hW.alike hK9, hD9⟩⟩, hS.F ht⟩) hS.2.2 dX12_order_30
    · have hw_8 : ¬ (0 ≤ p2.toInt ∧ p2.toInt < ml.toInt) := hw_8
      refine lv_if_eq (tgt := 29) hx hb dX12_order_18 (by decide) (fun _ => ?_) (fun c_63 => absurd (by decide) c_63)
      refine lv_iconst (v := (-1)) hx hb dX12_order_29 (by decide) ?_
      have hP9 := hP
      have hD9 := hD
      have hK9 := hK.sub (tys' := []) [] rfl
      refine W.widen (k := 0) (n := 0) (Nat.le_of_ble_eq_true rfl) (Nat.le_of_ble_eq_true rfl) ?_
      exact W.iret (v := (-1)) hx hb hr (fun t ht hW => ⟨⟨(-1), (), rfl, (show (-1) = v_orA mn ml gS gA gB gC p1 p2 p3 by unfold v_orA; rw [if_neg (by omega)]), ⟨0, mq, fhct, fhbd, fhlt, fhrk, fhfi, fhla, hB_mq, hI_hbd, by rw [ht]; exact hP9, va_K.moved hW.alike hK9, hD9⟩⟩, hS.F ht⟩) hS.2.2 dX12_order_30
  · have hw_4 : ¬ (0 ≤ p1.toInt ∧ p1.toInt ≤ mn.toInt) := hw_4
    refine lv_if_eq (tgt := 29) hx hb dX12_order_10 (by decide) (fun _ => ?_) (fun c_64 => absurd (by decide) c_64)
    refine lv_iconst (v := (-1)) hx hb dX12_order_29 (by decide) ?_
    have hP9 := hP
    have hD9 := hD
    have hK9 := hK.sub (tys' := []) [] rfl
    refine W.widen (k := 0) (n := 0) (Nat.le_of_ble_eq_true rfl) (Nat.le_of_ble_eq_true rfl) ?_
    exact W.iret (v := (-1)) hx hb hr (fun t ht hW => ⟨⟨(-1), (), rfl, (show (-1) = v_orA mn ml gS gA gB gC p1 p2 p3 by unfold v_orA; rw [if_neg (by omega)]), ⟨0, mq, fhct, fhbd, fhlt, fhrk, fhfi, fhla, hB_mq, hI_hbd, by rw [ht]; exact hP9, va_K.moved hW.alike hK9, hD9⟩⟩, hS.F ht⟩) hS.2.2 dX12_order_30
def u_s_X12_quarrelK : List Cond := .code yX12_quarrel cX12_quarrel 2 (some .int) :: ([.fieldLink RX12 145 "ShellHeapModel" "thrown" "I", .methodLink RX12 170 yX12_isKnown, .instanceMethod yX12_isKnown, .selects RX12 yX12_isKnown yX12_isKnown, .initialized RX12, .methodLink RX12 173 yX12_know, .instanceMethod yX12_know, .selects RX12 yX12_know yX12_know, .fieldLink RX12 167 "ShellHeapModel" "quarrelNow" "I"] ++ (wsX120 ++ (u_s_X12_isKnownA ++ (u_s_X12_knowK ++ []))))
set_option maxRecDepth 20000 in
theorem gw_s_X12_quarrelK_s_X12_isKnownA_170 : GoodIn u_s_X12_quarrelK (wsV RX12 170 RX12 yX12_isKnown u_s_X12_isKnownA) := z_gV (z_gr _ [2, 3, 4, 5] rfl (by decide +kernel)) (fun w h => ⟨z_mc (z_mr (z_mr (z_ml h))), gd_s_X12_isKnownA w h⟩)
set_option maxRecDepth 20000 in
theorem gw_s_X12_quarrelK_s_X12_knowK_173 : GoodIn u_s_X12_quarrelK (wsV RX12 173 RX12 yX12_know u_s_X12_knowK) := z_gV (z_gr _ [6, 7, 8, 5] rfl (by decide +kernel)) (fun w h => ⟨z_mc (z_mr (z_mr (z_mr (z_ml h)))), gd_s_X12_knowK w h⟩)
set_option maxHeartbeats 4000000 in
set_option maxRecDepth 100000 in
theorem s_X12_quarrelK (l : Launch) (dC : Nat → ClassId) (dI : Nat → Nat → Nat) (sz : Nat) (h0 : Nat) (p1 : Int32) (h0_0 : Value) (h0_1 : Value) (mx : Int32) (ml : Int32) (mn : Int32) (hs : Nat) (ha : Nat) (hb9 : Nat) (hc9 : Nat) (hct : Nat) (h0_10 : Value) (hbd : Nat) (hlt : Nat) (hrk : Nat) (hfi : Nat) (hla : Nat) (mq : Int32) (h0_17 : Value) (h0_18 : Value) (h0_19 : Value) (h0_20 : Value) (h0_21 : Value) (h0_22 : Value) (h0_23 : Value) (h0_24 : Value) (h0_25 : Value) (h0_26 : Value) (h0_27 : Value) (h0_28 : Value) (h0_29 : Value) (h0_30 : Value) (h0_31 : Value) (h0_32 : Value) (h0_33 : Value) (h0_34 : Value) (h0_35 : Value) (h0_36 : Value) (h0_37 : Value) (h0_38 : Value) (h0_39 : Value) (h0_40 : Value) (h0_41 : Value) (h0_42 : Value) (h0_43 : Value) (h0_44 : Value) (h0_45 : Value) (h0_46 : Value) (h0_47 : Value) (h0_48 : Value) (h0_49 : Value) (h0_50 : Value) (h0_51 : Value) (h0_52 : Value) (h0_53 : Value) (h0_54 : Value) (h0_55 : Value) (h0_56 : Value) (h0_57 : Value) (h0_58 : Value) (h0_59 : Value) (h0_60 : Value) (h0_61 : Value) (h0_62 : Value) (h0_63 : Value) (h0_64 : Value) (h0_65 : Value) (h0_66 : Value) (h0_67 : Value) (h0_68 : Value) (h0_69 : Value) (chct : ClassId) (fhct : Nat → Int32) (chs : ClassId) (fhs : Nat → Int32) (cha : ClassId) (fha : Nat → Int32) (chb9 : ClassId) (fhb9 : Nat → Int32) (chc9 : ClassId) (fhc9 : Nat → Int32) (chbd : ClassId) (fhbd : Nat → Int32) (chlt : ClassId) (fhlt : Nat → Int32) (chrk : ClassId) (fhrk : Nat → Int32) (chfi : ClassId) (fhfi : Nat → Int32) (chla : ClassId) (fhla : Nat → Int32) (gS : Nat → Int32) (gA : Nat → Int32) (gB : Nat → Int32) (gC : Nat → Int32) (hB_mn : ((0 : Int) ≤ (mn).toInt ∧ (mn).toInt ≤ (80 : Int))) (hB_ml : ((0 : Int) ≤ (ml).toInt ∧ (ml).toInt ≤ (12 : Int))) (hB_mq : ((0 : Int) ≤ (mq).toInt ∧ (mq).toInt ≤ (2 : Int))) (hI_ha : ∀ j : Nat, ((0 : Int) ≤ (fha j).toInt ∧ (fha j).toInt ≤ (79 : Int))) (hI_hbd : ∀ j : Nat, ((0 : Int) ≤ (fhbd j).toInt ∧ (fhbd j).toInt ≤ (11 : Int))) (hR : ∀ j : Nat, z_relm (fhs j) (fha j) (fhb9 j)) (hS0 : ∀ j : Nat, (0 : Int) ≤ (fhs j).toInt) (hNR : k_nn fhs fha fhb9 fhc9 mn.toInt gS gA gB gC) (hGF : k_GF gS gA gB mn.toInt ml.toInt) : Met l yX12_quarrel u_s_X12_quarrelK ({ frames := 2, cells := 0, slots := 0, locals := 47 }) (va_Pc [.ref h0, .int p1] (z_C (dC, dI) vwCl [(h0, .inr (12, [h0_0, h0_1, .int mx, .int ml, .int mn, .ref hs, .ref ha, .ref hb9, .ref hc9, .ref hct, h0_10, .ref hbd, .ref hlt, .ref hrk, .ref hfi, .ref hla, .int mq, h0_17, h0_18, h0_19, h0_20, h0_21, h0_22, h0_23, h0_24, h0_25, h0_26, h0_27, h0_28, h0_29, h0_30, h0_31, h0_32, h0_33, h0_34, h0_35, h0_36, h0_37, h0_38, h0_39, h0_40, h0_41, h0_42, h0_43, h0_44, h0_45, h0_46, h0_47, h0_48, h0_49, h0_50, h0_51, h0_52, h0_53, h0_54, h0_55, h0_56, h0_57, h0_58, h0_59, h0_60, h0_61, h0_62, h0_63, h0_64, h0_65, h0_66, h0_67, h0_68, h0_69])), (hct, .inl (chct, 80, .inl fhct)), (hs, .inl (chs, 80, .inl fhs)), (ha, .inl (cha, 80, .inl fha)), (hb9, .inl (chb9, 80, .inl fhb9)), (hc9, .inl (chc9, 80, .inl fhc9)), (hbd, .inl (chbd, 12, .inl fhbd)), (hlt, .inl (chlt, 144, .inl fhlt)), (hrk, .inl (chrk, 12, .inl fhrk)), (hfi, .inl (chfi, 12, .inl fhfi)), (hla, .inl (chla, 12, .inl fhla))] [(chct, .boolean), (chs, .int), (cha, .int), (chb9, .int), (chc9, .int), (chbd, .int), (chlt, .boolean), (chrk, .int), (chfi, .int), (chla, .int)] sz)) (va_Qi (fun (r : Int32) (_ : Unit) => r = v_quA mn ml gS gA gB gC p1) (fun (_ : Unit) (t : State) => ∃ (n_h0_thrown : Int32), ∃ (n_h0_quarrelNow : Int32), ∃ (g_hct : Nat → Int32), ∃ (g_hbd : Nat → Int32), ∃ (g_hlt : Nat → Int32), ∃ (g_hrk : Nat → Int32), ∃ (g_hfi : Nat → Int32), ∃ (g_hla : Nat → Int32), ((0 : Int) ≤ (n_h0_quarrelNow).toInt ∧ (n_h0_quarrelNow).toInt ≤ (2 : Int)) ∧ (∀ j : Nat, ((0 : Int) ≤ (g_hbd j).toInt ∧ (g_hbd j).toInt ≤ (11 : Int))) ∧ va_P (dC, dI) vwCl [(h0, .inr (12, [h0_0, h0_1, .int n_h0_thrown, .int ml, .int mn, .ref hs, .ref ha, .ref hb9, .ref hc9, .ref hct, h0_10, .ref hbd, .ref hlt, .ref hrk, .ref hfi, .ref hla, .int n_h0_quarrelNow, h0_17, h0_18, h0_19, h0_20, h0_21, h0_22, h0_23, h0_24, h0_25, h0_26, h0_27, h0_28, h0_29, h0_30, h0_31, h0_32, h0_33, h0_34, h0_35, h0_36, h0_37, h0_38, h0_39, h0_40, h0_41, h0_42, h0_43, h0_44, h0_45, h0_46, h0_47, h0_48, h0_49, h0_50, h0_51, h0_52, h0_53, h0_54, h0_55, h0_56, h0_57, h0_58, h0_59, h0_60, h0_61, h0_62, h0_63, h0_64, h0_65, h0_66, h0_67, h0_68, h0_69])), (hct, .inl (chct, 80, .inl g_hct)), (hs, .inl (chs, 80, .inl fhs)), (ha, .inl (cha, 80, .inl fha)), (hb9, .inl (chb9, 80, .inl fhb9)), (hc9, .inl (chc9, 80, .inl fhc9)), (hbd, .inl (chbd, 12, .inl g_hbd)), (hlt, .inl (chlt, 144, .inl g_hlt)), (hrk, .inl (chrk, 12, .inl g_hrk)), (hfi, .inl (chfi, 12, .inl g_hfi)), (hla, .inl (chla, 12, .inl g_hla))] t.heap ∧ va_K (dC, dI) vwCl [] t ∧ va_D (va_A [(h0, .inr (12, [h0_0, h0_1, .int mx, .int ml, .int mn, .ref hs, .ref ha, .ref hb9, .ref hc9, .ref hct, h0_10, .ref hbd, .ref hlt, .ref hrk, .ref hfi, .ref hla, .int mq, h0_17, h0_18, h0_19, h0_20, h0_21, h0_22, h0_23, h0_24, h0_25, h0_26, h0_27, h0_28, h0_29, h0_30, h0_31, h0_32, h0_33, h0_34, h0_35, h0_36, h0_37, h0_38, h0_39, h0_40, h0_41, h0_42, h0_43, h0_44, h0_45, h0_46, h0_47, h0_48, h0_49, h0_50, h0_51, h0_52, h0_53, h0_54, h0_55, h0_56, h0_57, h0_58, h0_59, h0_60, h0_61, h0_62, h0_63, h0_64, h0_65, h0_66, h0_67, h0_68, h0_69])), (hct, .inl (chct, 80, .inl fhct)), (hs, .inl (chs, 80, .inl fhs)), (ha, .inl (cha, 80, .inl fha)), (hb9, .inl (chb9, 80, .inl fhb9)), (hc9, .inl (chc9, 80, .inl fhc9)), (hbd, .inl (chbd, 12, .inl fhbd)), (hlt, .inl (chlt, 144, .inl fhlt)), (hrk, .inl (chrk, 12, .inl fhrk)), (hfi, .inl (chfi, 12, .inl fhfi)), (hla, .inl (chla, 12, .inl fhla))] sz) [(h0, .inr (12, [h0_0, h0_1, .int n_h0_thrown, .int ml, .int mn, .ref hs, .ref ha, .ref hb9, .ref hc9, .ref hct, h0_10, .ref hbd, .ref hlt, .ref hrk, .ref hfi, .ref hla, .int n_h0_quarrelNow, h0_17, h0_18, h0_19, h0_20, h0_21, h0_22, h0_23, h0_24, h0_25, h0_26, h0_27, h0_28, h0_29, h0_30, h0_31, h0_32, h0_33, h0_34, h0_35, h0_36, h0_37, h0_38, h0_39, h0_40, h0_41, h0_42, h0_43, h0_44, h0_45, h0_46, h0_47, h0_48, h0_49, h0_50, h0_51, h0_52, h0_53, h0_54, h0_55, h0_56, h0_57, h0_58, h0_59, h0_60, h0_61, h0_62, h0_63, h0_64, h0_65, h0_66, h0_67, h0_68, h0_69])), (hct, .inl (chct, 80, .inl g_hct)), (hs, .inl (chs, 80, .inl fhs)), (ha, .inl (cha, 80, .inl fha)), (hb9, .inl (chb9, 80, .inl fhb9)), (hc9, .inl (chc9, 80, .inl fhc9)), (hbd, .inl (chbd, 12, .inl g_hbd)), (hlt, .inl (chlt, 144, .inl g_hlt)), (hrk, .inl (chrk, 12, .inl g_hrk)), (hfi, .inl (chfi, 12, .inl g_hfi)), (hla, .inl (chla, 12, .inl g_hla))]) (va_A [(h0, .inr (12, [h0_0, h0_1, .int mx, .int ml, .int mn, .ref hs, .ref ha, .ref hb9, .ref hc9, .ref hct, h0_10, .ref hbd, .ref hlt, .ref hrk, .ref hfi, .ref hla, .int mq, h0_17, h0_18, h0_19, h0_20, h0_21, h0_22, h0_23, h0_24, h0_25, h0_26, h0_27, h0_28, h0_29, h0_30, h0_31, h0_32, h0_33, h0_34, h0_35, h0_36, h0_37, h0_38, h0_39, h0_40, h0_41, h0_42, h0_43, h0_44, h0_45, h0_46, h0_47, h0_48, h0_49, h0_50, h0_51, h0_52, h0_53, h0_54, h0_55, h0_56, h0_57, h0_58, h0_59, h0_60, h0_61, h0_62, h0_63, h0_64, h0_65, h0_66, h0_67, h0_68, h0_69])), (hct, .inl (chct, 80, .inl fhct)), (hs, .inl (chs, 80, .inl fhs)), (ha, .inl (cha, 80, .inl fha)), (hb9, .inl (chb9, 80, .inl fhb9)), (hc9, .inl (chc9, 80, .inl fhc9)), (hbd, .inl (chbd, 12, .inl fhbd)), (hlt, .inl (chlt, 144, .inl fhlt)), (hrk, .inl (chrk, 12, .inl fhrk)), (hfi, .inl (chfi, 12, .inl fhfi)), (hla, .inl (chla, 12, .inl fhla))] sz)) 0 0 (va_A [(h0, .inr (12, [h0_0, h0_1, .int mx, .int ml, .int mn, .ref hs, .ref ha, .ref hb9, .ref hc9, .ref hct, h0_10, .ref hbd, .ref hlt, .ref hrk, .ref hfi, .ref hla, .int mq, h0_17, h0_18, h0_19, h0_20, h0_21, h0_22, h0_23, h0_24, h0_25, h0_26, h0_27, h0_28, h0_29, h0_30, h0_31, h0_32, h0_33, h0_34, h0_35, h0_36, h0_37, h0_38, h0_39, h0_40, h0_41, h0_42, h0_43, h0_44, h0_45, h0_46, h0_47, h0_48, h0_49, h0_50, h0_51, h0_52, h0_53, h0_54, h0_55, h0_56, h0_57, h0_58, h0_59, h0_60, h0_61, h0_62, h0_63, h0_64, h0_65, h0_66, h0_67, h0_68, h0_69])), (hct, .inl (chct, 80, .inl fhct)), (hs, .inl (chs, 80, .inl fhs)), (ha, .inl (cha, 80, .inl fha)), (hb9, .inl (chb9, 80, .inl fhb9)), (hc9, .inl (chc9, 80, .inl fhc9)), (hbd, .inl (chbd, 12, .inl fhbd)), (hlt, .inl (chlt, 144, .inl fhlt)), (hrk, .inl (chrk, 12, .inl fhrk)), (hfi, .inl (chfi, 12, .inl fhfi)), (hla, .inl (chla, 12, .inl fhla))] sz) := by
  refine Met.ofW (cc := cX12_quarrel) (maxL := 2) (ret := (some .int)) (by decide) rfl ?_
  intro p e s m args below meth c s₁ B hml hv
  obtain ⟨rfl, hsz, hP, hK, hD0⟩ := hv
  have hx := B.exec
  have hb := B.bytes
  have hr := B.returns
  have hts := atoms_spec (ws := u_s_X12_quarrelK) B.pre
  have hown : s.vm.findClass RX12 = some m.cls := findClass_of_methodNamed B.named
  have hlocks := B.notSynchronized
  subst hsz
  have hD := hD0.self (sz := s.heap.size)
  generalize hAe : va_A [(h0, .inr (12, [h0_0, h0_1, .int mx, .int ml, .int mn, .ref hs, .ref ha, .ref hb9, .ref hc9, .ref hct, h0_10, .ref hbd, .ref hlt, .ref hrk, .ref hfi, .ref hla, .int mq, h0_17, h0_18, h0_19, h0_20, h0_21, h0_22, h0_23, h0_24, h0_25, h0_26, h0_27, h0_28, h0_29, h0_30, h0_31, h0_32, h0_33, h0_34, h0_35, h0_36, h0_37, h0_38, h0_39, h0_40, h0_41, h0_42, h0_43, h0_44, h0_45, h0_46, h0_47, h0_48, h0_49, h0_50, h0_51, h0_52, h0_53, h0_54, h0_55, h0_56, h0_57, h0_58, h0_59, h0_60, h0_61, h0_62, h0_63, h0_64, h0_65, h0_66, h0_67, h0_68, h0_69])), (hct, .inl (chct, 80, .inl fhct)), (hs, .inl (chs, 80, .inl fhs)), (ha, .inl (cha, 80, .inl fha)), (hb9, .inl (chb9, 80, .inl fhb9)), (hc9, .inl (chc9, 80, .inl fhc9)), (hbd, .inl (chbd, 12, .inl fhbd)), (hlt, .inl (chlt, 144, .inl fhlt)), (hrk, .inl (chrk, 12, .inl fhrk)), (hfi, .inl (chfi, 12, .inl fhfi)), (hla, .inl (chla, 12, .inl fhla))] s.heap.size = A at hD ⊢
  have hA : ∀ q : Nat, s.heap.size ≤ q → A q := fun q h => by rw [← hAe]; exact Or.inr h
  have hS : va_S A s.heap s.heap [] := va_S.rf
  have hP : va_P (dC, dI) vwCl [(h0, .inr (12, [h0_0, h0_1, .int mx, .int ml, .int mn, .ref hs, .ref ha, .ref hb9, .ref hc9, .ref hct, h0_10, .ref hbd, .ref hlt, .ref hrk, .ref hfi, .ref hla, .int mq, h0_17, h0_18, h0_19, h0_20, h0_21, h0_22, h0_23, h0_24, h0_25, h0_26, h0_27, h0_28, h0_29, h0_30, h0_31, h0_32, h0_33, h0_34, h0_35, h0_36, h0_37, h0_38, h0_39, h0_40, h0_41, h0_42, h0_43, h0_44, h0_45, h0_46, h0_47, h0_48, h0_49, h0_50, h0_51, h0_52, h0_53, h0_54, h0_55, h0_56, h0_57, h0_58, h0_59, h0_60, h0_61, h0_62, h0_63, h0_64, h0_65, h0_66, h0_67, h0_68, h0_69])), (hct, .inl (chct, 80, .inl fhct)), (hs, .inl (chs, 80, .inl fhs)), (ha, .inl (cha, 80, .inl fha)), (hb9, .inl (chb9, 80, .inl fhb9)), (hc9, .inl (chc9, 80, .inl fhc9)), (hbd, .inl (chbd, 12, .inl fhbd)), (hlt, .inl (chlt, 144, .inl fhlt)), (hrk, .inl (chrk, 12, .inl fhrk)), (hfi, .inl (chfi, 12, .inl fhfi)), (hla, .inl (chla, 12, .inl fhla))] s.heap := hP
  have w__fieldLink_RX12_145_ShellHeapModel_thrown_I_ := hts (.fieldLink RX12 145 "ShellHeapModel" "thrown" "I") (z_mc (z_ml z_m0))
  have hiX12 := show ∀ w ∈ u_ws RX12 TX12 70, w ∈ u_s_X12_quarrelK from fun w h => z_mc (z_mr (z_ml h))
  have w__fieldLink_RX12_167_ShellHeapModel_quarrelNow_I_ := hts (.fieldLink RX12 167 "ShellHeapModel" "quarrelNow" "I") (z_mc (z_ml z_m8))
  have krr_p1 := z_rng p1
  have hl := lv_entry ([.ref h0, .int p1]) (n := 2) (Nat.le_of_ble_eq_true rfl)
  rw [lg_entry_eq]
  generalize (lg_sl ([.ref h0, .int p1]) ++ List.replicate (2 - (lg_sl ([.ref h0, .int p1])).length) Slot.unset).toArray = ls at hl ⊢
  have hl : lv_has ls 2 [(0, .ref h0), (1, .int p1)] := hl
  refine lv_aload_n hx hb dX12_quarrel_0 rfl (lv_at hl 0 rfl) ?_
  refine lv_iconst (v := 0) hx hb dX12_quarrel_1 (by decide) ?_
  refine va_put (D := (dC, dI)) (ci := 12) (v := .int 0) (ty := .int) (C := RX12) (T := TX12) (N := 70) hx hb hts hiX12 tyX12 tyX12_ok nmX12 hown hK hP hD hS 0 rfl rfl 2 (by decide) w__fieldLink_RX12_145_ShellHeapModel_thrown_I_ (fun _ h9 => h9) rfl (by decide +kernel) rfl rfl (Nat.le_of_ble_eq_true rfl) dX12_quarrel_2 (fun H_1 locs hP hD hS => ?_)
  obtain ⟨hP, hD⟩ := z_s_0_2 hP hD
  refine lv_aload_n hx hb dX12_quarrel_5 rfl (lv_at hl 0 rfl) ?_
  refine lv_iload_n hx hb dX12_quarrel_6 rfl (lv_at hl 1 rfl) ?_
  obtain ⟨hPc, hDc⟩ := z_sub2 (ws' := [(h0, .inr (12, [h0_0, h0_1, .int 0, .int ml, .int mn, .ref hs, .ref ha, .ref hb9, .ref hc9, .ref hct, h0_10, .ref hbd, .ref hlt, .ref hrk, .ref hfi, .ref hla, .int mq, h0_17, h0_18, h0_19, h0_20, h0_21, h0_22, h0_23, h0_24, h0_25, h0_26, h0_27, h0_28, h0_29, h0_30, h0_31, h0_32, h0_33, h0_34, h0_35, h0_36, h0_37, h0_38, h0_39, h0_40, h0_41, h0_42, h0_43, h0_44, h0_45, h0_46, h0_47, h0_48, h0_49, h0_50, h0_51, h0_52, h0_53, h0_54, h0_55, h0_56, h0_57, h0_58, h0_59, h0_60, h0_61, h0_62, h0_63, h0_64, h0_65, h0_66, h0_67, h0_68, h0_69]))]) hP hD [0] (by decide) rfl
  have hKc := hK.sub (tys' := []) [] rfl
  have hFc := va_free (ws := []) (wc := []) (z_D0 _) hS hA [] rfl
  refine va_calli (va_runV (As := [.int p1]) (rest := []) ⟨hx, hb, hml, hown, hts⟩ (s_X12_isKnownA l dC dI H_1.size h0 p1 h0_0 h0_1 (.int 0) (.int ml) mn (.ref hs) (.ref ha) (.ref hb9) (.ref hc9) (.ref hct) h0_10 (.ref hbd) (.ref hlt) (.ref hrk) (.ref hfi) (.ref hla) (.int mq) h0_17 h0_18 h0_19 h0_20 h0_21 h0_22 h0_23 h0_24 h0_25 h0_26 h0_27 h0_28 h0_29 h0_30 h0_31 h0_32 h0_33 h0_34 h0_35 h0_36 h0_37 h0_38 h0_39 h0_40 h0_41 h0_42 h0_43 h0_44 h0_45 h0_46 h0_47 h0_48 h0_49 h0_50 h0_51 h0_52 h0_53 h0_54 h0_55 h0_56 h0_57 h0_58 h0_59 h0_60 h0_61 h0_62 h0_63 h0_64 h0_65 h0_66 h0_67 h0_68 h0_69 hB_mn) (cwV 1 hts gw_s_X12_quarrelK_s_X12_isKnownA_170 rfl rfl rfl (by decide +kernel) ⟨Nat.le_of_ble_eq_true rfl, Nat.le_of_ble_eq_true rfl⟩) ⟨z_blind, va_recv hKc hPc (ci := 12) (q0 := 0) rfl rfl, z_pre hPc hKc hDc⟩ rfl rfl hl.1 rfl (lv_room (Nat.le_of_ble_eq_true rfl)) dX12_quarrel_7 ⟨Nat.le_of_ble_eq_true rfl, Nat.le_of_ble_eq_true rfl⟩) hS (fun q _ h => hFc q h) hFc (fun r_3 u t H_2 locs ht hvm hw_4 hB hz1 hk1 hS => ?_)
  replace hP := z_pure hP hk1
  clear hPc hDc hKc
  rcases hw_4 with ⟨rfl, hw_4⟩ | ⟨rfl, hw_4⟩
  · have hw_4 : (0 ≤ p1.toInt ∧ p1.toInt ≤ mn.toInt) := hw_4
    refine lv_if_ne (tgt := 15) hx hb dX12_quarrel_10 (by decide) (fun _ => ?_) (fun c_5 => absurd c_5 (by decide))
    refine lv_aload_n hx hb dX12_quarrel_15 rfl (lv_at hl 0 rfl) ?_
    refine lv_iload_n hx hb dX12_quarrel_16 rfl (lv_at hl 1 rfl) ?_
    have hSR : k_sr fhs fha (p1).toInt := k_nn_sr hNR hGF (by omega)
    have hPc := hP
    have hDc := hD
    have hKc := hK
    have hFc := z_freeI hD hS hA
    refine va_callv (va_runV (As := [.int p1]) (rest := []) ⟨hx, hb, hml, hown, hts⟩ (s_X12_knowK l dC dI H_2.size h0 p1 h0_0 h0_1 (.int 0) (.int ml) mn hs ha hb9 hc9 hct h0_10 hbd hlt hrk hfi hla mq h0_17 h0_18 h0_19 h0_20 h0_21 h0_22 h0_23 h0_24 h0_25 h0_26 h0_27 h0_28 h0_29 h0_30 h0_31 h0_32 h0_33 h0_34 h0_35 h0_36 h0_37 h0_38 h0_39 h0_40 h0_41 h0_42 h0_43 h0_44 h0_45 h0_46 h0_47 h0_48 h0_49 h0_50 h0_51 h0_52 h0_53 h0_54 h0_55 h0_56 h0_57 h0_58 h0_59 h0_60 h0_61 h0_62 h0_63 h0_64 h0_65 h0_66 h0_67 h0_68 h0_69 chct fhct chs fhs cha fha chb9 fhb9 chc9 fhc9 chbd fhbd chlt fhlt chrk fhrk chfi fhfi chla fhla hB_mq (by first | omega | decide) hB_mn hI_ha hI_hbd hR hS0 hSR) (cwV 1 hts gw_s_X12_quarrelK_s_X12_knowK_173 rfl rfl rfl (by decide +kernel) ⟨Nat.le_of_ble_eq_true rfl, Nat.le_of_ble_eq_true rfl⟩) ⟨z_blind, va_recv hKc hPc (ci := 12) (q0 := 0) rfl rfl, z_pre hPc hKc hDc⟩ rfl rfl hl.1 rfl (lv_room (Nat.le_of_ble_eq_true rfl)) dX12_quarrel_17 ⟨Nat.le_of_ble_eq_true rfl, Nat.le_of_ble_eq_true rfl⟩) hS (fun q _ h => hFc q h) hFc (fun u t H_6 locs ht hvm hw_8 hB hz1 hk1 hS => ?_)
    obtain ⟨n_h0_quarrelNow_9, g_hct_10, g_hbd_11, g_hlt_12, g_hrk_13, g_hfi_14, g_hla_15, hp_16, hp_17, hp_18, hP1, hK1, hD1⟩ := hB
    rw [ht] at hP1
    have hK1 := va_K.moved hvm.symm hK1
    obtain ⟨hP, hD⟩ := z_ap_0 (va_join (wr := []) hP hD [0, 1, 2, 3, 4, 5, 6, 7, 8, 9, 10] [] rfl rfl (by decide) (by decide) hk1 hFc hP1 hD1)
    have hp_18 : k_KR fhs fha fhb9 fhc9 p1.toInt mn.toInt g_hct_10 g_hbd_11 g_hlt_12 g_hrk_13 g_hfi_14 g_hla_15 n_h0_quarrelNow_9.toInt := hp_18
    clear hPc hDc hKc
    refine lv_aload_n hx hb dX12_quarrel_20 rfl (lv_at hl 0 rfl) ?_
    refine va_get (D := (dC, dI)) (ci := 12) (v := .int n_h0_quarrelNow_9) (C := RX12) (T := TX12) (N := 70) hx hb hts hiX12 hown hK hP 0 rfl rfl 16 (by decide) w__fieldLink_RX12_167_ShellHeapModel_quarrelNow_I_ (fun _ h9 => h9) rfl dX12_quarrel_21 ?_
    have hP9 := hP
    have hD9 := hD
    have hK9 := hK.sub (tys' := []) [] rfl
    refine W.widen (k := 0) (n := 0) (Nat.le_of_ble_eq_true rfl) (Nat.le_of_ble_eq_true rfl) ?_
    exact W.iret (v := n_h0_quarrelNow_9) hx hb hr (fun t ht hW => ⟨⟨n_h0_quarrelNow_9, (), rfl, (show n_h0_quarrelNow_9 = v_quA mn ml gS gA gB gC p1 by unfold v_quA; rw [if_pos (by omega)]; exact k_qu_t hGF (by omega) (k_AS_r (by omega) (by omega) (by omega) hGF hNR hp_18) rfl), ⟨0, n_h0_quarrelNow_9, g_hct_10, g_hbd_11, g_hlt_12, g_hrk_13, g_hfi_14, g_hla_15, hp_16, hp_17, by rw [ht]; exact hP9, va_K.moved hW.alike hK9, hD9⟩⟩, hS.F ht⟩) hS.2.2 dX12_quarrel_24
  · have hw_4 : ¬ (0 ≤ p1.toInt ∧ p1.toInt ≤ mn.toInt) := hw_4
    refine lv_if_ne (tgt := 15) hx hb dX12_quarrel_10 (by decide) (fun c_19 => absurd c_19 (by decide)) (fun _ => ?_)
    refine lv_iconst (v := (-1)) hx hb dX12_quarrel_13 (by decide) ?_
    have hP9 := hP
    have hD9 := hD
    have hK9 := hK.sub (tys' := []) [] rfl
    refine W.widen (k := 0) (n := 0) (Nat.le_of_ble_eq_true rfl) (Nat.le_of_ble_eq_true rfl) ?_
    exact W.iret (v := (-1)) hx hb hr (fun t ht hW => ⟨⟨(-1), (), rfl, (show (-1) = v_quA mn ml gS gA gB gC p1 by unfold v_quA; rw [if_neg (by omega)]), ⟨0, mq, fhct, fhbd, fhlt, fhrk, fhfi, fhla, hB_mq, hI_hbd, by rw [ht]; exact hP9, va_K.moved hW.alike hK9, hD9⟩⟩, hS.F ht⟩) hS.2.2 dX12_quarrel_14
