def u_s_X12_knowK : List Cond := .code yX12_know cX12_know 5 none :: ([.methodLink RX12 161 yX12_orders, .instanceMethod yX12_orders, .selects RX12 yX12_orders yX12_orders, .initialized RX12, .methodLink RX12 164 yX12_spans, .instanceMethod yX12_spans, .selects RX12 yX12_spans yX12_spans, .fieldLink RX12 154 "ShellHeapModel" "notes" "I", .fieldLink RX12 25 "ShellHeapModel" "counts" "[Z", .fieldLink RX12 13 "ShellHeapModel" "sort" "[I", .fieldLink RX12 32 "ShellHeapModel" "bedOf" "[I", .fieldLink RX12 16 "ShellHeapModel" "noteA" "[I", .fieldLink RX12 19 "ShellHeapModel" "noteB" "[I"] ++ (wsX120 ++ (u_s_X12_ordersK ++ (u_s_X12_spansK ++ []))))
theorem gd_s_X12_knowK : z_gd u_s_X12_knowK := z_gdc (by decide +kernel) (z_gda gdX12 (z_gda gd_s_X12_ordersK (z_gda gd_s_X12_spansK (z_gd0))))
set_option maxRecDepth 20000 in
theorem gw_s_X12_knowK_s_X12_ordersK_161 : GoodIn u_s_X12_knowK (wsV RX12 161 RX12 yX12_orders u_s_X12_ordersK) := z_gV (z_gr _ [1, 2, 3, 4] rfl (by decide +kernel)) (fun w h => ⟨z_mc (z_mr (z_mr (z_ml h))), gd_s_X12_ordersK w h⟩)
set_option maxRecDepth 20000 in
theorem gw_s_X12_knowK_s_X12_spansK_164 : GoodIn u_s_X12_knowK (wsV RX12 164 RX12 yX12_spans u_s_X12_spansK) := z_gV (z_gr _ [5, 6, 7, 4] rfl (by decide +kernel)) (fun w h => ⟨z_mc (z_mr (z_mr (z_mr (z_ml h)))), gd_s_X12_spansK w h⟩)
set_option maxHeartbeats 4000000 in
set_option maxRecDepth 100000 in
theorem s_X12_knowK (l : Launch) (dC : Nat → ClassId) (dI : Nat → Nat → Nat) (sz : Nat) (h0 : Nat) (p1 : Int32) (h0_0 : Value) (h0_1 : Value) (h0_2 : Value) (h0_3 : Value) (mn : Int32) (hs : Nat) (ha : Nat) (hb9 : Nat) (hc9 : Nat) (hct : Nat) (h0_10 : Value) (hbd : Nat) (hlt : Nat) (hrk : Nat) (hfi : Nat) (hla : Nat) (mq : Int32) (h0_17 : Value) (h0_18 : Value) (h0_19 : Value) (h0_20 : Value) (h0_21 : Value) (h0_22 : Value) (h0_23 : Value) (h0_24 : Value) (h0_25 : Value) (h0_26 : Value) (h0_27 : Value) (h0_28 : Value) (h0_29 : Value) (h0_30 : Value) (h0_31 : Value) (h0_32 : Value) (h0_33 : Value) (h0_34 : Value) (h0_35 : Value) (h0_36 : Value) (h0_37 : Value) (h0_38 : Value) (h0_39 : Value) (h0_40 : Value) (h0_41 : Value) (h0_42 : Value) (h0_43 : Value) (h0_44 : Value) (h0_45 : Value) (h0_46 : Value) (h0_47 : Value) (h0_48 : Value) (h0_49 : Value) (h0_50 : Value) (h0_51 : Value) (h0_52 : Value) (h0_53 : Value) (h0_54 : Value) (h0_55 : Value) (h0_56 : Value) (h0_57 : Value) (h0_58 : Value) (h0_59 : Value) (h0_60 : Value) (h0_61 : Value) (h0_62 : Value) (h0_63 : Value) (h0_64 : Value) (h0_65 : Value) (h0_66 : Value) (h0_67 : Value) (h0_68 : Value) (h0_69 : Value) (chct : ClassId) (fhct : Nat → Int32) (chs : ClassId) (fhs : Nat → Int32) (cha : ClassId) (fha : Nat → Int32) (chb9 : ClassId) (fhb9 : Nat → Int32) (chc9 : ClassId) (fhc9 : Nat → Int32) (chbd : ClassId) (fhbd : Nat → Int32) (chlt : ClassId) (fhlt : Nat → Int32) (chrk : ClassId) (fhrk : Nat → Int32) (chfi : ClassId) (fhfi : Nat → Int32) (chla : ClassId) (fhla : Nat → Int32) (hB_mq : ((0 : Int) ≤ (mq).toInt ∧ (mq).toInt ≤ (2 : Int))) (hB_p1 : ((0 : Int) ≤ (p1).toInt ∧ (p1).toInt ≤ (80 : Int))) (hB_mn : ((0 : Int) ≤ (mn).toInt ∧ (mn).toInt ≤ (80 : Int))) (hI_ha : ∀ j : Nat, ((0 : Int) ≤ (fha j).toInt ∧ (fha j).toInt ≤ (79 : Int))) (hI_hbd : ∀ j : Nat, ((0 : Int) ≤ (fhbd j).toInt ∧ (fhbd j).toInt ≤ (11 : Int))) (hR : ∀ j : Nat, z_relm (fhs j) (fha j) (fhb9 j)) (hS0 : ∀ j : Nat, (0 : Int) ≤ (fhs j).toInt) (hSR : k_sr fhs fha p1.toInt) : Met l yX12_know u_s_X12_knowK ({ frames := 1, cells := 0, slots := 0, locals := 23 }) (va_Pc [.ref h0, .int p1] (z_C (dC, dI) vwCl [(h0, .inr (12, [h0_0, h0_1, h0_2, h0_3, .int mn, .ref hs, .ref ha, .ref hb9, .ref hc9, .ref hct, h0_10, .ref hbd, .ref hlt, .ref hrk, .ref hfi, .ref hla, .int mq, h0_17, h0_18, h0_19, h0_20, h0_21, h0_22, h0_23, h0_24, h0_25, h0_26, h0_27, h0_28, h0_29, h0_30, h0_31, h0_32, h0_33, h0_34, h0_35, h0_36, h0_37, h0_38, h0_39, h0_40, h0_41, h0_42, h0_43, h0_44, h0_45, h0_46, h0_47, h0_48, h0_49, h0_50, h0_51, h0_52, h0_53, h0_54, h0_55, h0_56, h0_57, h0_58, h0_59, h0_60, h0_61, h0_62, h0_63, h0_64, h0_65, h0_66, h0_67, h0_68, h0_69])), (hct, .inl (chct, 80, .inl fhct)), (hs, .inl (chs, 80, .inl fhs)), (ha, .inl (cha, 80, .inl fha)), (hb9, .inl (chb9, 80, .inl fhb9)), (hc9, .inl (chc9, 80, .inl fhc9)), (hbd, .inl (chbd, 12, .inl fhbd)), (hlt, .inl (chlt, 144, .inl fhlt)), (hrk, .inl (chrk, 12, .inl fhrk)), (hfi, .inl (chfi, 12, .inl fhfi)), (hla, .inl (chla, 12, .inl fhla))] [(chct, .boolean), (chs, .int), (cha, .int), (chb9, .int), (chc9, .int), (chbd, .int), (chlt, .boolean), (chrk, .int), (chfi, .int), (chla, .int)] sz)) (va_Qv (fun (_ : Unit) => True) (fun (_ : Unit) (t : State) => ∃ (n_h0_quarrelNow : Int32), ∃ (g_hct : Nat → Int32), ∃ (g_hbd : Nat → Int32), ∃ (g_hlt : Nat → Int32), ∃ (g_hrk : Nat → Int32), ∃ (g_hfi : Nat → Int32), ∃ (g_hla : Nat → Int32), ((0 : Int) ≤ (n_h0_quarrelNow).toInt ∧ (n_h0_quarrelNow).toInt ≤ (2 : Int)) ∧ (∀ j : Nat, ((0 : Int) ≤ (g_hbd j).toInt ∧ (g_hbd j).toInt ≤ (11 : Int))) ∧ (k_KR fhs fha fhb9 fhc9 p1.toInt mn.toInt g_hct g_hbd g_hlt g_hrk g_hfi g_hla n_h0_quarrelNow.toInt) ∧ va_P (dC, dI) vwCl [(h0, .inr (12, [h0_0, h0_1, h0_2, h0_3, .int mn, .ref hs, .ref ha, .ref hb9, .ref hc9, .ref hct, h0_10, .ref hbd, .ref hlt, .ref hrk, .ref hfi, .ref hla, .int n_h0_quarrelNow, h0_17, h0_18, h0_19, h0_20, h0_21, h0_22, h0_23, h0_24, h0_25, h0_26, h0_27, h0_28, h0_29, h0_30, h0_31, h0_32, h0_33, h0_34, h0_35, h0_36, h0_37, h0_38, h0_39, h0_40, h0_41, h0_42, h0_43, h0_44, h0_45, h0_46, h0_47, h0_48, h0_49, h0_50, h0_51, h0_52, h0_53, h0_54, h0_55, h0_56, h0_57, h0_58, h0_59, h0_60, h0_61, h0_62, h0_63, h0_64, h0_65, h0_66, h0_67, h0_68, h0_69])), (hct, .inl (chct, 80, .inl g_hct)), (hs, .inl (chs, 80, .inl fhs)), (ha, .inl (cha, 80, .inl fha)), (hb9, .inl (chb9, 80, .inl fhb9)), (hc9, .inl (chc9, 80, .inl fhc9)), (hbd, .inl (chbd, 12, .inl g_hbd)), (hlt, .inl (chlt, 144, .inl g_hlt)), (hrk, .inl (chrk, 12, .inl g_hrk)), (hfi, .inl (chfi, 12, .inl g_hfi)), (hla, .inl (chla, 12, .inl g_hla))] t.heap ∧ va_K (dC, dI) vwCl [] t ∧ va_D (va_A [(h0, .inr (12, [h0_0, h0_1, h0_2, h0_3, .int mn, .ref hs, .ref ha, .ref hb9, .ref hc9, .ref hct, h0_10, .ref hbd, .ref hlt, .ref hrk, .ref hfi, .ref hla, .int mq, h0_17, h0_18, h0_19, h0_20, h0_21, h0_22, h0_23, h0_24, h0_25, h0_26, h0_27, h0_28, h0_29, h0_30, h0_31, h0_32, h0_33, h0_34, h0_35, h0_36, h0_37, h0_38, h0_39, h0_40, h0_41, h0_42, h0_43, h0_44, h0_45, h0_46, h0_47, h0_48, h0_49, h0_50, h0_51, h0_52, h0_53, h0_54, h0_55, h0_56, h0_57, h0_58, h0_59, h0_60, h0_61, h0_62, h0_63, h0_64, h0_65, h0_66, h0_67, h0_68, h0_69])), (hct, .inl (chct, 80, .inl fhct)), (hs, .inl (chs, 80, .inl fhs)), (ha, .inl (cha, 80, .inl fha)), (hb9, .inl (chb9, 80, .inl fhb9)), (hc9, .inl (chc9, 80, .inl fhc9)), (hbd, .inl (chbd, 12, .inl fhbd)), (hlt, .inl (chlt, 144, .inl fhlt)), (hrk, .inl (chrk, 12, .inl fhrk)), (hfi, .inl (chfi, 12, .inl fhfi)), (hla, .inl (chla, 12, .inl fhla))] sz) [(h0, .inr (12, [h0_0, h0_1, h0_2, h0_3, .int mn, .ref hs, .ref ha, .ref hb9, .ref hc9, .ref hct, h0_10, .ref hbd, .ref hlt, .ref hrk, .ref hfi, .ref hla, .int n_h0_quarrelNow, h0_17, h0_18, h0_19, h0_20, h0_21, h0_22, h0_23, h0_24, h0_25, h0_26, h0_27, h0_28, h0_29, h0_30, h0_31, h0_32, h0_33, h0_34, h0_35, h0_36, h0_37, h0_38, h0_39, h0_40, h0_41, h0_42, h0_43, h0_44, h0_45, h0_46, h0_47, h0_48, h0_49, h0_50, h0_51, h0_52, h0_53, h0_54, h0_55, h0_56, h0_57, h0_58, h0_59, h0_60, h0_61, h0_62, h0_63, h0_64, h0_65, h0_66, h0_67, h0_68, h0_69])), (hct, .inl (chct, 80, .inl g_hct)), (hs, .inl (chs, 80, .inl fhs)), (ha, .inl (cha, 80, .inl fha)), (hb9, .inl (chb9, 80, .inl fhb9)), (hc9, .inl (chc9, 80, .inl fhc9)), (hbd, .inl (chbd, 12, .inl g_hbd)), (hlt, .inl (chlt, 144, .inl g_hlt)), (hrk, .inl (chrk, 12, .inl g_hrk)), (hfi, .inl (chfi, 12, .inl g_hfi)), (hla, .inl (chla, 12, .inl g_hla))]) (va_A [(h0, .inr (12, [h0_0, h0_1, h0_2, h0_3, .int mn, .ref hs, .ref ha, .ref hb9, .ref hc9, .ref hct, h0_10, .ref hbd, .ref hlt, .ref hrk, .ref hfi, .ref hla, .int mq, h0_17, h0_18, h0_19, h0_20, h0_21, h0_22, h0_23, h0_24, h0_25, h0_26, h0_27, h0_28, h0_29, h0_30, h0_31, h0_32, h0_33, h0_34, h0_35, h0_36, h0_37, h0_38, h0_39, h0_40, h0_41, h0_42, h0_43, h0_44, h0_45, h0_46, h0_47, h0_48, h0_49, h0_50, h0_51, h0_52, h0_53, h0_54, h0_55, h0_56, h0_57, h0_58, h0_59, h0_60, h0_61, h0_62, h0_63, h0_64, h0_65, h0_66, h0_67, h0_68, h0_69])), (hct, .inl (chct, 80, .inl fhct)), (hs, .inl (chs, 80, .inl fhs)), (ha, .inl (cha, 80, .inl fha)), (hb9, .inl (chb9, 80, .inl fhb9)), (hc9, .inl (chc9, 80, .inl fhc9)), (hbd, .inl (chbd, 12, .inl fhbd)), (hlt, .inl (chlt, 144, .inl fhlt)), (hrk, .inl (chrk, 12, .inl fhrk)), (hfi, .inl (chfi, 12, .inl fhfi)), (hla, .inl (chla, 12, .inl fhla))] sz)) 0 0 (va_A [(h0, .inr (12, [h0_0, h0_1, h0_2, h0_3, .int mn, .ref hs, .ref ha, .ref hb9, .ref hc9, .ref hct, h0_10, .ref hbd, .ref hlt, .ref hrk, .ref hfi, .ref hla, .int mq, h0_17, h0_18, h0_19, h0_20, h0_21, h0_22, h0_23, h0_24, h0_25, h0_26, h0_27, h0_28, h0_29, h0_30, h0_31, h0_32, h0_33, h0_34, h0_35, h0_36, h0_37, h0_38, h0_39, h0_40, h0_41, h0_42, h0_43, h0_44, h0_45, h0_46, h0_47, h0_48, h0_49, h0_50, h0_51, h0_52, h0_53, h0_54, h0_55, h0_56, h0_57, h0_58, h0_59, h0_60, h0_61, h0_62, h0_63, h0_64, h0_65, h0_66, h0_67, h0_68, h0_69])), (hct, .inl (chct, 80, .inl fhct)), (hs, .inl (chs, 80, .inl fhs)), (ha, .inl (cha, 80, .inl fha)), (hb9, .inl (chb9, 80, .inl fhb9)), (hc9, .inl (chc9, 80, .inl fhc9)), (hbd, .inl (chbd, 12, .inl fhbd)), (hlt, .inl (chlt, 144, .inl fhlt)), (hrk, .inl (chrk, 12, .inl fhrk)), (hfi, .inl (chfi, 12, .inl fhfi)), (hla, .inl (chla, 12, .inl fhla))] sz) := by
  refine Met.ofW (cc := cX12_know) (maxL := 5) (ret := none) (by decide) rfl ?_
  intro p e s m args below meth c s₁ B hml hv
  obtain ⟨rfl, hsz, hP, hK, hD0⟩ := hv
  have hx := B.exec
  have hb := B.bytes
  have hr := B.returns
  have hts := atoms_spec (ws := u_s_X12_knowK) B.pre
  have hown : s.vm.findClass RX12 = some m.cls := findClass_of_methodNamed B.named
  have hlocks := B.notSynchronized
  subst hsz
  have hD := hD0.self (sz := s.heap.size)
  generalize hAe : va_A [(h0, .inr (12, [h0_0, h0_1, h0_2, h0_3, .int mn, .ref hs, .ref ha, .ref hb9, .ref hc9, .ref hct, h0_10, .ref hbd, .ref hlt, .ref hrk, .ref hfi, .ref hla, .int mq, h0_17, h0_18, h0_19, h0_20, h0_21, h0_22, h0_23, h0_24, h0_25, h0_26, h0_27, h0_28, h0_29, h0_30, h0_31, h0_32, h0_33, h0_34, h0_35, h0_36, h0_37, h0_38, h0_39, h0_40, h0_41, h0_42, h0_43, h0_44, h0_45, h0_46, h0_47, h0_48, h0_49, h0_50, h0_51, h0_52, h0_53, h0_54, h0_55, h0_56, h0_57, h0_58, h0_59, h0_60, h0_61, h0_62, h0_63, h0_64, h0_65, h0_66, h0_67, h0_68, h0_69])), (hct, .inl (chct, 80, .inl fhct)), (hs, .inl (chs, 80, .inl fhs)), (ha, .inl (cha, 80, .inl fha)), (hb9, .inl (chb9, 80, .inl fhb9)), (hc9, .inl (chc9, 80, .inl fhc9)), (hbd, .inl (chbd, 12, .inl fhbd)), (hlt, .inl (chlt, 144, .inl fhlt)), (hrk, .inl (chrk, 12, .inl fhrk)), (hfi, .inl (chfi, 12, .inl fhfi)), (hla, .inl (chla, 12, .inl fhla))] s.heap.size = A at hD ⊢
  have hA : ∀ q : Nat, s.heap.size ≤ q → A q := fun q h => by rw [← hAe]; exact Or.inr h
  have hS : va_S A s.heap s.heap [] := va_S.rf
  have hP : va_P (dC, dI) vwCl [(h0, .inr (12, [h0_0, h0_1, h0_2, h0_3, .int mn, .ref hs, .ref ha, .ref hb9, .ref hc9, .ref hct, h0_10, .ref hbd, .ref hlt, .ref hrk, .ref hfi, .ref hla, .int mq, h0_17, h0_18, h0_19, h0_20, h0_21, h0_22, h0_23, h0_24, h0_25, h0_26, h0_27, h0_28, h0_29, h0_30, h0_31, h0_32, h0_33, h0_34, h0_35, h0_36, h0_37, h0_38, h0_39, h0_40, h0_41, h0_42, h0_43, h0_44, h0_45, h0_46, h0_47, h0_48, h0_49, h0_50, h0_51, h0_52, h0_53, h0_54, h0_55, h0_56, h0_57, h0_58, h0_59, h0_60, h0_61, h0_62, h0_63, h0_64, h0_65, h0_66, h0_67, h0_68, h0_69])), (hct, .inl (chct, 80, .inl fhct)), (hs, .inl (chs, 80, .inl fhs)), (ha, .inl (cha, 80, .inl fha)), (hb9, .inl (chb9, 80, .inl fhb9)), (hc9, .inl (chc9, 80, .inl fhc9)), (hbd, .inl (chbd, 12, .inl fhbd)), (hlt, .inl (chlt, 144, .inl fhlt)), (hrk, .inl (chrk, 12, .inl fhrk)), (hfi, .inl (chfi, 12, .inl fhfi)), (hla, .inl (chla, 12, .inl fhla))] s.heap := hP
  have w__fieldLink_RX12_154_ShellHeapModel_notes_I_ := hts (.fieldLink RX12 154 "ShellHeapModel" "notes" "I") (z_mc (z_ml z_m7))
  have hiX12 := show ∀ w ∈ u_ws RX12 TX12 70, w ∈ u_s_X12_knowK from fun w h => z_mc (z_mr (z_ml h))
  have w__fieldLink_RX12_25_ShellHeapModel_counts_Z_ := hts (.fieldLink RX12 25 "ShellHeapModel" "counts" "[Z") (z_mc (z_ml z_m8))
  have w__fieldLink_RX12_13_ShellHeapModel_sort_I_ := hts (.fieldLink RX12 13 "ShellHeapModel" "sort" "[I") (z_mc (z_ml z_m9))
  have w__fieldLink_RX12_32_ShellHeapModel_bedOf_I_ := hts (.fieldLink RX12 32 "ShellHeapModel" "bedOf" "[I") (z_mc (z_ml z_m10))
  have w__fieldLink_RX12_16_ShellHeapModel_noteA_I_ := hts (.fieldLink RX12 16 "ShellHeapModel" "noteA" "[I") (z_mc (z_ml z_m11))
  have w__fieldLink_RX12_19_ShellHeapModel_noteB_I_ := hts (.fieldLink RX12 19 "ShellHeapModel" "noteB" "[I") (z_mc (z_ml z_m12))
  have hl := lv_entry ([.ref h0, .int p1]) (n := 5) (Nat.le_of_ble_eq_true rfl)
  rw [lg_entry_eq]
  generalize (lg_sl ([.ref h0, .int p1]) ++ List.replicate (5 - (lg_sl ([.ref h0, .int p1])).length) Slot.unset).toArray = ls at hl ⊢
  have hl : lv_has ls 5 [(0, .ref h0), (1, .int p1)] := hl
  refine z_nameQ (fun QQ hQQ => ?_)
  have hRG : k_r3 fhs fha fhb9 (mn).toInt 12 := k_r3_m hR
  refine lv_iconst (v := 0) hx hb dX12_know_0 (by decide) ?_
  refine lv_istore_n (lv' := [(2, .int 0), (0, .ref h0), (1, .int p1)]) hx hb dX12_know_1 rfl hl (by decide) rfl (fun ls hl => ?_)
  have loop_1 : ∀ (n_2 : Nat) (i_4 : Int32) (f_5 : Nat → Int32) (H : Heap) (locs : List Loc) (ls : Array Slot), (81 - (i_4).toInt).toNat < n_2 → (((0 : Int) ≤ (i_4).toInt ∧ (i_4).toInt ≤ (80 : Int))) → (k_ct (i_4).toInt (p1).toInt f_5) → va_P (dC, dI) vwCl [(h0, .inr (12, [h0_0, h0_1, h0_2, h0_3, .int mn, .ref hs, .ref ha, .ref hb9, .ref hc9, .ref hct, h0_10, .ref hbd, .ref hlt, .ref hrk, .ref hfi, .ref hla, .int mq, h0_17, h0_18, h0_19, h0_20, h0_21, h0_22, h0_23, h0_24, h0_25, h0_26, h0_27, h0_28, h0_29, h0_30, h0_31, h0_32, h0_33, h0_34, h0_35, h0_36, h0_37, h0_38, h0_39, h0_40, h0_41, h0_42, h0_43, h0_44, h0_45, h0_46, h0_47, h0_48, h0_49, h0_50, h0_51, h0_52, h0_53, h0_54, h0_55, h0_56, h0_57, h0_58, h0_59, h0_60, h0_61, h0_62, h0_63, h0_64, h0_65, h0_66, h0_67, h0_68, h0_69])), (hct, .inl (chct, 80, .inl f_5)), (hs, .inl (chs, 80, .inl fhs)), (ha, .inl (cha, 80, .inl fha)), (hb9, .inl (chb9, 80, .inl fhb9)), (hc9, .inl (chc9, 80, .inl fhc9)), (hbd, .inl (chbd, 12, .inl fhbd)), (hlt, .inl (chlt, 144, .inl fhlt)), (hrk, .inl (chrk, 12, .inl fhrk)), (hfi, .inl (chfi, 12, .inl fhfi)), (hla, .inl (chla, 12, .inl fhla))] H → va_D A [(h0, .inr (12, [h0_0, h0_1, h0_2, h0_3, .int mn, .ref hs, .ref ha, .ref hb9, .ref hc9, .ref hct, h0_10, .ref hbd, .ref hlt, .ref hrk, .ref hfi, .ref hla, .int mq, h0_17, h0_18, h0_19, h0_20, h0_21, h0_22, h0_23, h0_24, h0_25, h0_26, h0_27, h0_28, h0_29, h0_30, h0_31, h0_32, h0_33, h0_34, h0_35, h0_36, h0_37, h0_38, h0_39, h0_40, h0_41, h0_42, h0_43, h0_44, h0_45, h0_46, h0_47, h0_48, h0_49, h0_50, h0_51, h0_52, h0_53, h0_54, h0_55, h0_56, h0_57, h0_58, h0_59, h0_60, h0_61, h0_62, h0_63, h0_64, h0_65, h0_66, h0_67, h0_68, h0_69])), (hct, .inl (chct, 80, .inl f_5)), (hs, .inl (chs, 80, .inl fhs)), (ha, .inl (cha, 80, .inl fha)), (hb9, .inl (chb9, 80, .inl fhb9)), (hc9, .inl (chc9, 80, .inl fhc9)), (hbd, .inl (chbd, 12, .inl fhbd)), (hlt, .inl (chlt, 144, .inl fhlt)), (hrk, .inl (chrk, 12, .inl fhrk)), (hfi, .inl (chfi, 12, .inl fhfi)), (hla, .inl (chla, 12, .inl fhla))] → va_S A s.heap H locs → lv_has ls 5 [(2, .int i_4), (0, .ref h0), (1, .int p1)] → W p l e ({ frames := 1, cells := 0, slots := 0, locals := 23 } : Room) s m ([.ref h0, .int p1] : List Value).toArray below meth c H locs 0 0 QQ (F0 m 2 ls []) := by
    intro n_2
    induction n_2 with
    | zero => intro i_4 f_5 H locs ls hm; exact absurd hm (Nat.not_lt_zero _)
    | succ n_2 ih_3 =>
      intro i_4 f_5 H locs ls hm hF_6 hF_7 hP hD hS hl
      refine lv_iload_n hx hb dX12_know_2 rfl (lv_at hl 0 rfl) ?_
      refine lv_bipush (v := 80) hx hb dX12_know_3 (by decide) ?_
      refine lv_icmp_ge (tgt := 30) hx hb dX12_know_5 (by decide) (fun c_8 => ?_) (fun c_8 => ?_)
      · have k_9 : (80 : Int) ≤ (i_4).toInt := z_le c_8
        obtain rfl : i_4 = 80 := z_eq' (show (i_4).toInt = (80 : Int) by omega)
        have kl_10 : (80 : Int32).toInt = (80 : Int) := by decide
        refine lv_iload_n hx hb dX12_know_30 rfl (lv_at hl 2 rfl) ?_
        refine lv_iconst (v := 1) hx hb dX12_know_31 (by decide) ?_
        refine lv_isub hx hb dX12_know_32 ?_
        refine lv_topi (fun z_11 ez_11 => ?_)
        have kz_11 : (z_11).toInt = (p1).toInt - (1 : Int) := by rw [ez_11]; exact z_sub (a := (p1).toInt) (b := (1 : Int)) rfl rfl (z_mlo hB_p1.1 (by decide)) (z_mhi hB_p1.2 (by decide))
        refine lv_istore_n (lv' := [(2, .int z_11), (0, .ref h0), (1, .int p1)]) hx hb dX12_know_33 rfl hl (by decide) rfl (fun ls hl => ?_)
        have loop_12 : ∀ (n_13 : Nat) (i_15 : Int32) (f_16 : Nat → Int32) (H : Heap) (locs : List Loc) (ls : Array Slot), ((i_15).toInt + 2).toNat < n_13 → (((-1 : Int) ≤ (i_15).toInt ∧ (i_15).toInt ≤ (79 : Int))) → (k_sl (kN9 fhs) fha (p1).toInt (i_15).toInt (k_iv f_16)) → (k_ge (p1).toInt f_16) → ((i_15).toInt < (p1).toInt) → va_P (dC, dI) vwCl [(h0, .inr (12, [h0_0, h0_1, h0_2, h0_3, .int mn, .ref hs, .ref ha, .ref hb9, .ref hc9, .ref hct, h0_10, .ref hbd, .ref hlt, .ref hrk, .ref hfi, .ref hla, .int mq, h0_17, h0_18, h0_19, h0_20, h0_21, h0_22, h0_23, h0_24, h0_25, h0_26, h0_27, h0_28, h0_29, h0_30, h0_31, h0_32, h0_33, h0_34, h0_35, h0_36, h0_37, h0_38, h0_39, h0_40, h0_41, h0_42, h0_43, h0_44, h0_45, h0_46, h0_47, h0_48, h0_49, h0_50, h0_51, h0_52, h0_53, h0_54, h0_55, h0_56, h0_57, h0_58, h0_59, h0_60, h0_61, h0_62, h0_63, h0_64, h0_65, h0_66, h0_67, h0_68, h0_69])), (hct, .inl (chct, 80, .inl f_16)), (hs, .inl (chs, 80, .inl fhs)), (ha, .inl (cha, 80, .inl fha)), (hb9, .inl (chb9, 80, .inl fhb9)), (hc9, .inl (chc9, 80, .inl fhc9)), (hbd, .inl (chbd, 12, .inl fhbd)), (hlt, .inl (chlt, 144, .inl fhlt)), (hrk, .inl (chrk, 12, .inl fhrk)), (hfi, .inl (chfi, 12, .inl fhfi)), (hla, .inl (chla, 12, .inl fhla))] H → va_D A [(h0, .inr (12, [h0_0, h0_1, h0_2, h0_3, .int mn, .ref hs, .ref ha, .ref hb9, .ref hc9, .ref hct, h0_10, .ref hbd, .ref hlt, .ref hrk, .ref hfi, .ref hla, .int mq, h0_17, h0_18, h0_19, h0_20, h0_21, h0_22, h0_23, h0_24, h0_25, h0_26, h0_27, h0_28, h0_29, h0_30, h0_31, h0_32, h0_33, h0_34, h0_35, h0_36, h0_37, h0_38, h0_39, h0_40, h0_41, h0_42, h0_43, h0_44, h0_45, h0_46, h0_47, h0_48, h0_49, h0_50, h0_51, h0_52, h0_53, h0_54, h0_55, h0_56, h0_57, h0_58, h0_59, h0_60, h0_61, h0_62, h0_63, h0_64, h0_65, h0_66, h0_67, h0_68, h0_69])), (hct, .inl (chct, 80, .inl f_16)), (hs, .inl (chs, 80, .inl fhs)), (ha, .inl (cha, 80, .inl fha)), (hb9, .inl (chb9, 80, .inl fhb9)), (hc9, .inl (chc9, 80, .inl fhc9)), (hbd, .inl (chbd, 12, .inl fhbd)), (hlt, .inl (chlt, 144, .inl fhlt)), (hrk, .inl (chrk, 12, .inl fhrk)), (hfi, .inl (chfi, 12, .inl fhfi)), (hla, .inl (chla, 12, .inl fhla))] → va_S A s.heap H locs → lv_has ls 5 [(2, .int i_15), (0, .ref h0), (1, .int p1)] → W p l e ({ frames := 1, cells := 0, slots := 0, locals := 23 } : Room) s m ([.ref h0, .int p1] : List Value).toArray below meth c H locs 0 0 QQ (F0 m 34 ls []) := by
          intro n_13
          induction n_13 with
          | zero => intro i_15 f_16 H locs ls hm; exact absurd hm (Nat.not_lt_zero _)
          | succ n_13 ih_14 =>
            intro i_15 f_16 H locs ls hm hF_17 hF_18 hF_19 hF_20 hP hD hS hl
            refine lv_iload_n hx hb dX12_know_34 rfl (lv_at hl 0 rfl) ?_
            refine lv_if_lt (tgt := 76) hx hb dX12_know_35 (by decide) (fun c_21 => ?_) (fun c_21 => ?_)
            · have k_22 : (i_15).toInt < (0 : Int) := z_lt c_21
              obtain rfl : i_15 = (-1) := z_eq' (show (i_15).toInt = (-1 : Int) by omega)
              have kl_23 : ((-1) : Int32).toInt = (-1 : Int) := by decide
              refine lv_iconst (v := 0) hx hb dX12_know_76 (by decide) ?_
              refine lv_istore_n (lv' := [(2, .int 0), (0, .ref h0), (1, .int p1)]) hx hb dX12_know_77 rfl hl (by decide) rfl (fun ls hl => ?_)
              have loop_24 : ∀ (n_25 : Nat) (i_27 : Int32) (f_28 : Nat → Int32) (H : Heap) (locs : List Loc) (ls : Array Slot), (13 - (i_27).toInt).toNat < n_25 → (((0 : Int) ≤ (i_27).toInt ∧ (i_27).toInt ≤ (12 : Int))) → (∀ j : Nat, ((0 : Int) ≤ (f_28 j).toInt ∧ (f_28 j).toInt ≤ (11 : Int))) → (k_id (i_27).toInt f_28) → va_P (dC, dI) vwCl [(h0, .inr (12, [h0_0, h0_1, h0_2, h0_3, .int mn, .ref hs, .ref ha, .ref hb9, .ref hc9, .ref hct, h0_10, .ref hbd, .ref hlt, .ref hrk, .ref hfi, .ref hla, .int mq, h0_17, h0_18, h0_19, h0_20, h0_21, h0_22, h0_23, h0_24, h0_25, h0_26, h0_27, h0_28, h0_29, h0_30, h0_31, h0_32, h0_33, h0_34, h0_35, h0_36, h0_37, h0_38, h0_39, h0_40, h0_41, h0_42, h0_43, h0_44, h0_45, h0_46, h0_47, h0_48, h0_49, h0_50, h0_51, h0_52, h0_53, h0_54, h0_55, h0_56, h0_57, h0_58, h0_59, h0_60, h0_61, h0_62, h0_63, h0_64, h0_65, h0_66, h0_67, h0_68, h0_69])), (hct, .inl (chct, 80, .inl f_16)), (hs, .inl (chs, 80, .inl fhs)), (ha, .inl (cha, 80, .inl fha)), (hb9, .inl (chb9, 80, .inl fhb9)), (hc9, .inl (chc9, 80, .inl fhc9)), (hbd, .inl (chbd, 12, .inl f_28)), (hlt, .inl (chlt, 144, .inl fhlt)), (hrk, .inl (chrk, 12, .inl fhrk)), (hfi, .inl (chfi, 12, .inl fhfi)), (hla, .inl (chla, 12, .inl fhla))] H → va_D A [(h0, .inr (12, [h0_0, h0_1, h0_2, h0_3, .int mn, .ref hs, .ref ha, .ref hb9, .ref hc9, .ref hct, h0_10, .ref hbd, .ref hlt, .ref hrk, .ref hfi, .ref hla, .int mq, h0_17, h0_18, h0_19, h0_20, h0_21, h0_22, h0_23, h0_24, h0_25, h0_26, h0_27, h0_28, h0_29, h0_30, h0_31, h0_32, h0_33, h0_34, h0_35, h0_36, h0_37, h0_38, h0_39, h0_40, h0_41, h0_42, h0_43, h0_44, h0_45, h0_46, h0_47, h0_48, h0_49, h0_50, h0_51, h0_52, h0_53, h0_54, h0_55, h0_56, h0_57, h0_58, h0_59, h0_60, h0_61, h0_62, h0_63, h0_64, h0_65, h0_66, h0_67, h0_68, h0_69])), (hct, .inl (chct, 80, .inl f_16)), (hs, .inl (chs, 80, .inl fhs)), (ha, .inl (cha, 80, .inl fha)), (hb9, .inl (chb9, 80, .inl fhb9)), (hc9, .inl (chc9, 80, .inl fhc9)), (hbd, .inl (chbd, 12, .inl f_28)), (hlt, .inl (chlt, 144, .inl fhlt)), (hrk, .inl (chrk, 12, .inl fhrk)), (hfi, .inl (chfi, 12, .inl fhfi)), (hla, .inl (chla, 12, .inl fhla))] → va_S A s.heap H locs → lv_has ls 5 [(2, .int i_27), (0, .ref h0), (1, .int p1)] → W p l e ({ frames := 1, cells := 0, slots := 0, locals := 23 } : Room) s m ([.ref h0, .int p1] : List Value).toArray below meth c H locs 0 0 QQ (F0 m 78 ls []) := by
                intro n_25
                induction n_25 with
                | zero => intro i_27 f_28 H locs ls hm; exact absurd hm (Nat.not_lt_zero _)
                | succ n_25 ih_26 =>
                  intro i_27 f_28 H locs ls hm hF_29 hI_f_28 hF_30 hP hD hS hl
                  refine lv_iload_n hx hb dX12_know_78 rfl (lv_at hl 0 rfl) ?_
                  refine lv_bipush (v := 12) hx hb dX12_know_79 (by decide) ?_
                  refine lv_icmp_ge (tgt := 97) hx hb dX12_know_81 (by decide) (fun c_31 => ?_) (fun c_31 => ?_)
                  · have k_32 : (12 : Int) ≤ (i_27).toInt := z_le c_31
                    obtain rfl : i_27 = 12 := z_eq' (show (i_27).toInt = (12 : Int) by omega)
                    have kl_33 : (12 : Int32).toInt = (12 : Int) := by decide
                    refine lv_iconst (v := 1) hx hb dX12_know_97 (by decide) ?_
                    refine lv_istore_n (lv' := [(2, .int 1), (0, .ref h0), (1, .int p1)]) hx hb dX12_know_98 rfl hl (by decide) rfl (fun ls hl => ?_)
                    have loop_34 : ∀ (n_35 : Nat) (more_37 : Int32) (f_38 : Nat → Int32) (H : Heap) (locs : List Loc) (ls : Array Slot), (2 * z_sm f_38 + (more_37).toInt).toNat < n_35 → (((0 : Int) ≤ (more_37).toInt ∧ (more_37).toInt ≤ (1 : Int))) → (∀ j : Nat, ((0 : Int) ≤ (f_38 j).toInt ∧ (f_38 j).toInt ≤ (11 : Int))) → (k_bc fhs fha fhb9 (k_c (mn).toInt (k_iv f_16)) (mn).toInt 12 f_38) → (k_mb fhs fha fhb9 (k_c (mn).toInt (k_iv f_16)) (more_37).toInt (mn).toInt f_38) → ((0 : Int) ≤ z_sm f_38) → va_P (dC, dI) vwCl [(h0, .inr (12, [h0_0, h0_1, h0_2, h0_3, .int mn, .ref hs, .ref ha, .ref hb9, .ref hc9, .ref hct, h0_10, .ref hbd, .ref hlt, .ref hrk, .ref hfi, .ref hla, .int mq, h0_17, h0_18, h0_19, h0_20, h0_21, h0_22, h0_23, h0_24, h0_25, h0_26, h0_27, h0_28, h0_29, h0_30, h0_31, h0_32, h0_33, h0_34, h0_35, h0_36, h0_37, h0_38, h0_39, h0_40, h0_41, h0_42, h0_43, h0_44, h0_45, h0_46, h0_47, h0_48, h0_49, h0_50, h0_51, h0_52, h0_53, h0_54, h0_55, h0_56, h0_57, h0_58, h0_59, h0_60, h0_61, h0_62, h0_63, h0_64, h0_65, h0_66, h0_67, h0_68, h0_69])), (hct, .inl (chct, 80, .inl f_16)), (hs, .inl (chs, 80, .inl fhs)), (ha, .inl (cha, 80, .inl fha)), (hb9, .inl (chb9, 80, .inl fhb9)), (hc9, .inl (chc9, 80, .inl fhc9)), (hbd, .inl (chbd, 12, .inl f_38)), (hlt, .inl (chlt, 144, .inl fhlt)), (hrk, .inl (chrk, 12, .inl fhrk)), (hfi, .inl (chfi, 12, .inl fhfi)), (hla, .inl (chla, 12, .inl fhla))] H → va_D A [(h0, .inr (12, [h0_0, h0_1, h0_2, h0_3, .int mn, .ref hs, .ref ha, .ref hb9, .ref hc9, .ref hct, h0_10, .ref hbd, .ref hlt, .ref hrk, .ref hfi, .ref hla, .int mq, h0_17, h0_18, h0_19, h0_20, h0_21, h0_22, h0_23, h0_24, h0_25, h0_26, h0_27, h0_28, h0_29, h0_30, h0_31, h0_32, h0_33, h0_34, h0_35, h0_36, h0_37, h0_38, h0_39, h0_40, h0_41, h0_42, h0_43, h0_44, h0_45, h0_46, h0_47, h0_48, h0_49, h0_50, h0_51, h0_52, h0_53, h0_54, h0_55, h0_56, h0_57, h0_58, h0_59, h0_60, h0_61, h0_62, h0_63, h0_64, h0_65, h0_66, h0_67, h0_68, h0_69])), (hct, .inl (chct, 80, .inl f_16)), (hs, .inl (chs, 80, .inl fhs)), (ha, .inl (cha, 80, .inl fha)), (hb9, .inl (chb9, 80, .inl fhb9)), (hc9, .inl (chc9, 80, .inl fhc9)), (hbd, .inl (chbd, 12, .inl f_38)), (hlt, .inl (chlt, 144, .inl fhlt)), (hrk, .inl (chrk, 12, .inl fhrk)), (hfi, .inl (chfi, 12, .inl fhfi)), (hla, .inl (chla, 12, .inl fhla))] → va_S A s.heap H locs → lv_has ls 5 [(2, .int more_37), (0, .ref h0), (1, .int p1)] → W p l e ({ frames := 1, cells := 0, slots := 0, locals := 23 } : Room) s m ([.ref h0, .int p1] : List Value).toArray below meth c H locs 0 0 QQ (F0 m 99 ls []) := by
                      intro n_35
                      induction n_35 with
                      | zero => intro more_37 f_38 H locs ls hm; exact absurd hm (Nat.not_lt_zero _)
                      | succ n_35 ih_36 =>
                        intro more_37 f_38 H locs ls hm hF_39 hI_f_38 hF_40 hF_41 hF_42 hP hD hS hl
                        refine lv_iload_n hx hb dX12_know_99 rfl (lv_at hl 0 rfl) ?_
                        refine lv_if_eq (tgt := 251) hx hb dX12_know_100 (by decide) (fun c_43 => ?_) (fun c_43 => ?_)
                        · have k_44 : (more_37).toInt = (0 : Int) := z_eq c_43
                          obtain rfl : more_37 = 0 := z_eq' (show (more_37).toInt = (0 : Int) by omega)
                          have kl_45 : (0 : Int32).toInt = (0 : Int) := by decide
                          have hBD : k_BD fhs fha fhb9 (k_iv f_16) (mn).toInt 12 f_38 := k_BD_of hRG (hF_41 (by omega)) (by omega) hF_40
                          refine lv_aload_n hx hb dX12_know_251 rfl (lv_at hl 1 rfl) ?_
                          obtain ⟨hPc, hDc, hFc⟩ := z_sub3 (ws' := [(h0, .inr (12, [h0_0, h0_1, h0_2, h0_3, .int mn, .ref hs, .ref ha, .ref hb9, .ref hc9, .ref hct, h0_10, .ref hbd, .ref hlt, .ref hrk, .ref hfi, .ref hla, .int mq, h0_17, h0_18, h0_19, h0_20, h0_21, h0_22, h0_23, h0_24, h0_25, h0_26, h0_27, h0_28, h0_29, h0_30, h0_31, h0_32, h0_33, h0_34, h0_35, h0_36, h0_37, h0_38, h0_39, h0_40, h0_41, h0_42, h0_43, h0_44, h0_45, h0_46, h0_47, h0_48, h0_49, h0_50, h0_51, h0_52, h0_53, h0_54, h0_55, h0_56, h0_57, h0_58, h0_59, h0_60, h0_61, h0_62, h0_63, h0_64, h0_65, h0_66, h0_67, h0_68, h0_69])), (hct, .inl (chct, 80, .inl f_16)), (hs, .inl (chs, 80, .inl fhs)), (ha, .inl (cha, 80, .inl fha)), (hb9, .inl (chb9, 80, .inl fhb9)), (hbd, .inl (chbd, 12, .inl f_38)), (hlt, .inl (chlt, 144, .inl fhlt)), (hrk, .inl (chrk, 12, .inl fhrk))]) hP hD hS hA [0, 1, 2, 3, 4, 6, 7, 8] (by decide) rfl
                          have hKc := hK.sub (tys' := [(chct, .boolean), (chs, .int), (cha, .int), (chb9, .int), (chbd, .int), (chlt, .boolean), (chrk, .int)]) [0, 1, 2, 3, 5, 6, 7] rfl
                          refine va_callv (va_runV (As := []) (rest := []) ⟨hx, hb, hml, hown, hts⟩ (s_X12_ordersK l dC dI H.size h0 h0_0 h0_1 h0_2 h0_3 mn hs ha hb9 (.ref hc9) hct h0_10 hbd hlt hrk (.ref hfi) (.ref hla) mq h0_17 h0_18 h0_19 h0_20 h0_21 h0_22 h0_23 h0_24 h0_25 h0_26 h0_27 h0_28 h0_29 h0_30 h0_31 h0_32 h0_33 h0_34 h0_35 h0_36 h0_37 h0_38 h0_39 h0_40 h0_41 h0_42 h0_43 h0_44 h0_45 h0_46 h0_47 h0_48 h0_49 h0_50 h0_51 h0_52 h0_53 h0_54 h0_55 h0_56 h0_57 h0_58 h0_59 h0_60 h0_61 h0_62 h0_63 h0_64 h0_65 h0_66 h0_67 h0_68 h0_69 chct f_16 chs fhs cha fha chb9 fhb9 chbd f_38 chlt fhlt chrk fhrk hB_mq hB_mn hI_ha hI_f_38 hR hS0) (cwV 0 hts gw_s_X12_knowK_s_X12_ordersK_161 rfl rfl rfl (by decide +kernel) ⟨Nat.le_of_ble_eq_true rfl, Nat.le_of_ble_eq_true rfl⟩) ⟨z_blind, va_recv hKc hPc (ci := 12) (q0 := 0) rfl rfl, z_pre hPc hKc hDc⟩ rfl rfl hl.1 rfl (lv_room (Nat.le_of_ble_eq_true rfl)) dX12_know_252 ⟨Nat.le_of_ble_eq_true rfl, Nat.le_of_ble_eq_true rfl⟩) hS (fun q _ h => hFc q h) hFc (fun u t H_46 locs ht hvm hw_48 hB hz1 hk1 hS => ?_)
                          obtain ⟨n_h0_quarrelNow_49, g_hlt_50, g_hrk_51, hp_52, hp_53, hp_54, hP1, hK1, hD1⟩ := hB
                          rw [ht] at hP1
                          have hK1 := va_K.moved hvm.symm hK1
                          obtain ⟨hP, hD⟩ := z_ap_3 (va_join (wr := [(hc9, .inl (chc9, 80, .inl fhc9)), (hfi, .inl (chfi, 12, .inl fhfi)), (hla, .inl (chla, 12, .inl fhla))]) hP hD [0, 1, 2, 3, 4, 6, 7, 8] [5, 9, 10] rfl rfl (by decide) (by decide) hk1 hFc hP1 hD1)
                          have hp_53 : k_LT2 fhs fha fhb9 (k_iv f_16) mn.toInt f_38 g_hlt_50 := hp_53
                          have hp_54 : k_q2 g_hlt_50 g_hrk_51 n_h0_quarrelNow_49.toInt := hp_54
                          clear hPc hDc hKc
                          have hTt := k_LT2_t hp_53
                          have hq9 := k_q2_le hp_54
                          refine lv_aload_n hx hb dX12_know_255 rfl (lv_at hl 1 rfl) ?_
                          obtain ⟨hPc, hDc, hFc⟩ := z_sub3 (ws' := [(h0, .inr (12, [h0_0, h0_1, h0_2, h0_3, .int mn, .ref hs, .ref ha, .ref hb9, .ref hc9, .ref hct, h0_10, .ref hbd, .ref hlt, .ref hrk, .ref hfi, .ref hla, .int n_h0_quarrelNow_49, h0_17, h0_18, h0_19, h0_20, h0_21, h0_22, h0_23, h0_24, h0_25, h0_26, h0_27, h0_28, h0_29, h0_30, h0_31, h0_32, h0_33, h0_34, h0_35, h0_36, h0_37, h0_38, h0_39, h0_40, h0_41, h0_42, h0_43, h0_44, h0_45, h0_46, h0_47, h0_48, h0_49, h0_50, h0_51, h0_52, h0_53, h0_54, h0_55, h0_56, h0_57, h0_58, h0_59, h0_60, h0_61, h0_62, h0_63, h0_64, h0_65, h0_66, h0_67, h0_68, h0_69])), (hct, .inl (chct, 80, .inl f_16)), (hs, .inl (chs, 80, .inl fhs)), (ha, .inl (cha, 80, .inl fha)), (hb9, .inl (chb9, 80, .inl fhb9)), (hc9, .inl (chc9, 80, .inl fhc9)), (hbd, .inl (chbd, 12, .inl f_38)), (hlt, .inl (chlt, 144, .inl g_hlt_50)), (hfi, .inl (chfi, 12, .inl fhfi)), (hla, .inl (chla, 12, .inl fhla))]) hP hD hS hA [3, 4, 5, 6, 7, 0, 8, 9, 1, 2] (by decide) rfl
                          have hKc := hK.sub (tys' := [(chct, .boolean), (chs, .int), (cha, .int), (chb9, .int), (chc9, .int), (chbd, .int), (chlt, .boolean), (chfi, .int), (chla, .int)]) [0, 1, 2, 3, 4, 5, 6, 8, 9] rfl
                          refine va_callv (va_runV (As := []) (rest := []) ⟨hx, hb, hml, hown, hts⟩ (s_X12_spansK l dC dI H_46.size h0 h0_0 h0_1 h0_2 h0_3 mn hs ha hb9 hc9 hct h0_10 hbd hlt (.ref hrk) hfi hla n_h0_quarrelNow_49 h0_17 h0_18 h0_19 h0_20 h0_21 h0_22 h0_23 h0_24 h0_25 h0_26 h0_27 h0_28 h0_29 h0_30 h0_31 h0_32 h0_33 h0_34 h0_35 h0_36 h0_37 h0_38 h0_39 h0_40 h0_41 h0_42 h0_43 h0_44 h0_45 h0_46 h0_47 h0_48 h0_49 h0_50 h0_51 h0_52 h0_53 h0_54 h0_55 h0_56 h0_57 h0_58 h0_59 h0_60 h0_61 h0_62 h0_63 h0_64 h0_65 h0_66 h0_67 h0_68 h0_69 chct f_16 chs fhs cha fha chb9 fhb9 chc9 fhc9 chbd f_38 chlt g_hlt_50 chfi fhfi chla fhla hp_52 hB_mn hI_ha hI_f_38 hR hTt (by first | omega | decide)) (cwV 0 hts gw_s_X12_knowK_s_X12_spansK_164 rfl rfl rfl (by decide +kernel) ⟨Nat.le_of_ble_eq_true rfl, Nat.le_of_ble_eq_true rfl⟩) ⟨z_blind, va_recv hKc hPc (ci := 12) (q0 := 0) rfl rfl, z_pre hPc hKc hDc⟩ rfl rfl hl.1 rfl (lv_room (Nat.le_of_ble_eq_true rfl)) dX12_know_256 ⟨Nat.le_of_ble_eq_true rfl, Nat.le_of_ble_eq_true rfl⟩) hS (fun q _ h => hFc q h) hFc (fun u t H_55 locs ht hvm hw_57 hB hz1 hk1 hS => ?_)
                          obtain ⟨n_h0_quarrelNow_58, g_hfi_59, g_hla_60, hp_61, hp_62, hp_63, hP1, hK1, hD1⟩ := hB
                          rw [ht] at hP1
                          have hK1 := va_K.moved hvm.symm hK1
                          obtain ⟨hP, hD⟩ := z_ap_1 (va_join (wr := [(hrk, .inl (chrk, 12, .inl g_hrk_51))]) hP hD [3, 4, 5, 6, 7, 0, 8, 9, 1, 2] [10] rfl rfl (by decide) (by decide) hk1 hFc hP1 hD1)
                          have hp_62 : k_SP (k_M2 g_hlt_50) (k_D fhs fha fhb9 (k_iv f_16) f_38 mn.toInt mn.toInt) (k_D fhs fha fhc9 (k_iv f_16) f_38 mn.toInt mn.toInt) 12 g_hfi_59 g_hla_60 := hp_62
                          have hp_63 : k_q3 n_h0_quarrelNow_49.toInt g_hfi_59 g_hla_60 n_h0_quarrelNow_58.toInt := hp_63
                          clear hPc hDc hKc
                          refine z_backQ hQQ ?_
                          obtain ⟨hP9, hD9⟩ := z_sub2 (ws' := [(h0, .inr (12, [h0_0, h0_1, h0_2, h0_3, .int mn, .ref hs, .ref ha, .ref hb9, .ref hc9, .ref hct, h0_10, .ref hbd, .ref hlt, .ref hrk, .ref hfi, .ref hla, .int n_h0_quarrelNow_58, h0_17, h0_18, h0_19, h0_20, h0_21, h0_22, h0_23, h0_24, h0_25, h0_26, h0_27, h0_28, h0_29, h0_30, h0_31, h0_32, h0_33, h0_34, h0_35, h0_36, h0_37, h0_38, h0_39, h0_40, h0_41, h0_42, h0_43, h0_44, h0_45, h0_46, h0_47, h0_48, h0_49, h0_50, h0_51, h0_52, h0_53, h0_54, h0_55, h0_56, h0_57, h0_58, h0_59, h0_60, h0_61, h0_62, h0_63, h0_64, h0_65, h0_66, h0_67, h0_68, h0_69])), (hct, .inl (chct, 80, .inl f_16)), (hs, .inl (chs, 80, .inl fhs)), (ha, .inl (cha, 80, .inl fha)), (hb9, .inl (chb9, 80, .inl fhb9)), (hc9, .inl (chc9, 80, .inl fhc9)), (hbd, .inl (chbd, 12, .inl f_38)), (hlt, .inl (chlt, 144, .inl g_hlt_50)), (hrk, .inl (chrk, 12, .inl g_hrk_51)), (hfi, .inl (chfi, 12, .inl g_hfi_59)), (hla, .inl (chla, 12, .inl g_hla_60))]) hP hD [1, 2, 3, 4, 5, 6, 7, 8, 0, 9, 10] (by decide) rfl
                          have hK9 := hK.sub (tys' := []) [] rfl
                          refine W.widen (k := 0) (n := 0) (Nat.le_of_ble_eq_true rfl) (Nat.le_of_ble_eq_true rfl) ?_
                          exact W.vret hx hb hr (fun t ht hW => ⟨⟨(), rfl, trivial, ⟨n_h0_quarrelNow_58, f_16, f_38, g_hlt_50, g_hrk_51, g_hfi_59, g_hla_60, hp_61, hI_f_38, (show k_KR fhs fha fhb9 fhc9 p1.toInt mn.toInt f_16 f_38 g_hlt_50 g_hrk_51 g_hfi_59 g_hla_60 n_h0_quarrelNow_58.toInt from ⟨k_cx_of hF_18 (by omega), hF_19, hBD, hp_53, hp_62, k_KR_q hp_54 hp_63⟩), by rw [ht]; exact hP9, va_K.moved hW.alike hK9, hD9⟩⟩, hS.F ht⟩) hS.2.2 dX12_know_259
                        · have k_64 : (more_37).toInt ≠ (0 : Int) := z_ne c_43
                          obtain rfl : more_37 = 1 := z_eq' (show (more_37).toInt = (1 : Int) by omega)
                          have kl_65 : (1 : Int32).toInt = (1 : Int) := by decide
                          refine lv_iconst (v := 0) hx hb dX12_know_103 (by decide) ?_
                          refine lv_istore_n (lv' := [(2, .int 0), (0, .ref h0), (1, .int p1)]) hx hb dX12_know_104 rfl hl (by decide) rfl (fun ls hl => ?_)
                          refine lv_iconst (v := 0) hx hb dX12_know_105 (by decide) ?_
                          refine lv_istore_n (lv' := [(3, .int 0), (2, .int 0), (0, .ref h0), (1, .int p1)]) hx hb dX12_know_106 rfl hl (by decide) rfl (fun ls hl => ?_)
                          have loop_66 : ∀ (n_67 : Nat) (k_69 : Int32) (more_70 : Int32) (f_71 : Nat → Int32) (H : Heap) (locs : List Loc) (ls : Array Slot), (81 - (k_69).toInt).toNat < n_67 → (((0 : Int) ≤ (k_69).toInt ∧ (k_69).toInt ≤ (80 : Int))) → (((0 : Int) ≤ (more_70).toInt ∧ (more_70).toInt ≤ (1 : Int))) → (∀ j : Nat, ((0 : Int) ≤ (f_71 j).toInt ∧ (f_71 j).toInt ≤ (11 : Int))) → (k_bc fhs fha fhb9 (k_c (mn).toInt (k_iv f_16)) (mn).toInt 12 f_71) → (k_mb fhs fha fhb9 (k_c (mn).toInt (k_iv f_16)) (more_70).toInt (k_69).toInt f_71) → ((0 : Int) ≤ z_sm f_71) → (z_sm f_71 + (more_70).toInt ≤ z_sm f_38) → va_P (dC, dI) vwCl [(h0, .inr (12, [h0_0, h0_1, h0_2, h0_3, .int mn, .ref hs, .ref ha, .ref hb9, .ref hc9, .ref hct, h0_10, .ref hbd, .ref hlt, .ref hrk, .ref hfi, .ref hla, .int mq, h0_17, h0_18, h0_19, h0_20, h0_21, h0_22, h0_23, h0_24, h0_25, h0_26, h0_27, h0_28, h0_29, h0_30, h0_31, h0_32, h0_33, h0_34, h0_35, h0_36, h0_37, h0_38, h0_39, h0_40, h0_41, h0_42, h0_43, h0_44, h0_45, h0_46, h0_47, h0_48, h0_49, h0_50, h0_51, h0_52, h0_53, h0_54, h0_55, h0_56, h0_57, h0_58, h0_59, h0_60, h0_61, h0_62, h0_63, h0_64, h0_65, h0_66, h0_67, h0_68, h0_69])), (hct, .inl (chct, 80, .inl f_16)), (hs, .inl (chs, 80, .inl fhs)), (ha, .inl (cha, 80, .inl fha)), (hb9, .inl (chb9, 80, .inl fhb9)), (hc9, .inl (chc9, 80, .inl fhc9)), (hbd, .inl (chbd, 12, .inl f_71)), (hlt, .inl (chlt, 144, .inl fhlt)), (hrk, .inl (chrk, 12, .inl fhrk)), (hfi, .inl (chfi, 12, .inl fhfi)), (hla, .inl (chla, 12, .inl fhla))] H → va_D A [(h0, .inr (12, [h0_0, h0_1, h0_2, h0_3, .int mn, .ref hs, .ref ha, .ref hb9, .ref hc9, .ref hct, h0_10, .ref hbd, .ref hlt, .ref hrk, .ref hfi, .ref hla, .int mq, h0_17, h0_18, h0_19, h0_20, h0_21, h0_22, h0_23, h0_24, h0_25, h0_26, h0_27, h0_28, h0_29, h0_30, h0_31, h0_32, h0_33, h0_34, h0_35, h0_36, h0_37, h0_38, h0_39, h0_40, h0_41, h0_42, h0_43, h0_44, h0_45, h0_46, h0_47, h0_48, h0_49, h0_50, h0_51, h0_52, h0_53, h0_54, h0_55, h0_56, h0_57, h0_58, h0_59, h0_60, h0_61, h0_62, h0_63, h0_64, h0_65, h0_66, h0_67, h0_68, h0_69])), (hct, .inl (chct, 80, .inl f_16)), (hs, .inl (chs, 80, .inl fhs)), (ha, .inl (cha, 80, .inl fha)), (hb9, .inl (chb9, 80, .inl fhb9)), (hc9, .inl (chc9, 80, .inl fhc9)), (hbd, .inl (chbd, 12, .inl f_71)), (hlt, .inl (chlt, 144, .inl fhlt)), (hrk, .inl (chrk, 12, .inl fhrk)), (hfi, .inl (chfi, 12, .inl fhfi)), (hla, .inl (chla, 12, .inl fhla))] → va_S A s.heap H locs → lv_has ls 5 [(3, .int k_69), (2, .int more_70), (0, .ref h0), (1, .int p1)] → W p l e ({ frames := 1, cells := 0, slots := 0, locals := 23 } : Room) s m ([.ref h0, .int p1] : List Value).toArray below meth c H locs 0 0 QQ (F0 m 107 ls []) := by
                            intro n_67
                            induction n_67 with
                            | zero => intro k_69 more_70 f_71 H locs ls hm; exact absurd hm (Nat.not_lt_zero _)
                            | succ n_67 ih_68 =>
                              intro k_69 more_70 f_71 H locs ls hm hF_72 hF_73 hI_f_71 hF_74 hF_75 hF_76 hF_77 hP hD hS hl
                              refine lv_iload_n hx hb dX12_know_107 rfl (lv_at hl 0 rfl) ?_
                              refine lv_aload_n hx hb dX12_know_108 rfl (lv_at hl 2 rfl) ?_
                              refine va_get (D := (dC, dI)) (ci := 12) (v := .int mn) (C := RX12) (T := TX12) (N := 70) hx hb hts hiX12 hown hK hP 0 rfl rfl 4 (by decide) w__fieldLink_RX12_154_ShellHeapModel_notes_I_ (fun _ h9 => h9) rfl dX12_know_109 ?_
                              refine lv_icmp_ge (tgt := 248) hx hb dX12_know_112 (by decide) (fun c_78 => ?_) (fun c_78 => ?_)
                              · have k_79 : (mn).toInt ≤ (k_69).toInt := z_le c_78
                                refine lv_goto (tgt := 99) hx hb dX12_know_248 (by decide) ?_
                                exact ih_36 more_70 f_71 _ _ _ (show (2 * z_sm f_71 + (more_70).toInt).toNat < n_35 by omega) (show ((0 : Int) ≤ (more_70).toInt ∧ (more_70).toInt ≤ (1 : Int)) by omega) hI_f_71 (show k_bc fhs fha fhb9 (k_c (mn).toInt (k_iv f_16)) (mn).toInt 12 f_71 from hF_74) (show k_mb fhs fha fhb9 (k_c (mn).toInt (k_iv f_16)) (more_70).toInt (mn).toInt f_71 from k_mb_w hF_75 (by omega)) (z_sm_nn hI_f_71) hP hD hS (lv_sub hl [1, 2, 3] rfl)
                              · have k_80 : (mn).toInt > (k_69).toInt := z_nle c_78
                                refine lv_aload_n hx hb dX12_know_115 rfl (lv_at hl 2 rfl) ?_
                                refine va_get (D := (dC, dI)) (ci := 12) (v := .ref hct) (C := RX12) (T := TX12) (N := 70) hx hb hts hiX12 hown hK hP 0 rfl rfl 9 (by decide) w__fieldLink_RX12_25_ShellHeapModel_counts_Z_ (fun _ h9 => h9) rfl dX12_know_116 ?_
                                refine lv_iload_n hx hb dX12_know_119 rfl (lv_at hl 0 rfl) ?_
                                refine va_zald hx hb hK hP 1 0 rfl rfl (z_vpin (by omega) (by omega)) dX12_know_120 ?_
                                refine lv_topi (fun z_81 ez_81 => ?_)
                                have kxz_81 : (z_81).toInt = (f_16 (k_69 : Int32).toNatClampNeg).toInt := by rw [ez_81]
                                refine lv_if_eq (tgt := 242) hx hb dX12_know_121 (by decide) (fun c_82 => ?_) (fun c_82 => ?_)
                                · have k_83 : (z_81).toInt = (0 : Int) := z_eq c_82
                                  obtain rfl : z_81 = 0 := z_eq' (show (z_81).toInt = (0 : Int) by omega)
                                  have kl_84 : (0 : Int32).toInt = (0 : Int) := by decide
                                  obtain ⟨z_85, ez_85⟩ : ∃ y : Int32, y = k_69 + 1 := ⟨_, rfl⟩
                                  have kz_85 : (z_85).toInt = (k_69).toInt + (1 : Int) := by rw [ez_85]; exact z_add (b := 1) rfl rfl (z_al hF_72.1 (by decide)) (z_ah hF_72.2 (by decide))
                                  refine lv_iinc (v := z_85) (lv' := [(3, .int z_85), (2, .int more_70), (0, .ref h0), (1, .int p1)]) hx hb dX12_know_242 hl (k := 0) rfl (by rw [ez_85]; rfl) (by decide) rfl (fun ls hl => ?_)
                                  refine lv_goto (tgt := 107) hx hb dX12_know_245 (by decide) ?_
                                  exact ih_68 z_85 more_70 f_71 _ _ _ (show (81 - (z_85).toInt).toNat < n_67 by omega) (show ((0 : Int) ≤ (z_85).toInt ∧ (z_85).toInt ≤ (80 : Int)) by omega) (show ((0 : Int) ≤ (more_70).toInt ∧ (more_70).toInt ≤ (1 : Int)) by omega) hI_f_71 (show k_bc fhs fha fhb9 (k_c (mn).toInt (k_iv f_16)) (mn).toInt 12 f_71 from hF_74) (show k_mb fhs fha fhb9 (k_c (mn).toInt (k_iv f_16)) (more_70).toInt (z_85).toInt f_71 from k_mb_s (i := k_69) hF_75 (by omega) (by omega) (fun h9 _ => absurd h9 (k_iv_n (by omega)))) (z_sm_nn hI_f_71) (show z_sm f_71 + (more_70).toInt ≤ z_sm f_38 by omega) hP hD hS (lv_sub hl [0, 1, 2, 3] rfl)
                                · have k_86 : (z_81).toInt ≠ (0 : Int) := z_ne c_82
                                  refine lv_aload_n hx hb dX12_know_124 rfl (lv_at hl 2 rfl) ?_
                                  refine va_get (D := (dC, dI)) (ci := 12) (v := .ref hs) (C := RX12) (T := TX12) (N := 70) hx hb hts hiX12 hown hK hP 0 rfl rfl 5 (by decide) w__fieldLink_RX12_13_ShellHeapModel_sort_I_ (fun _ h9 => h9) rfl dX12_know_125 ?_
                                  refine lv_iload_n hx hb dX12_know_128 rfl (lv_at hl 0 rfl) ?_
                                  refine va_iald hx hb hK hP 2 1 rfl rfl (z_vpin (by omega) (by omega)) dX12_know_129 ?_
                                  refine lv_topi (fun z_87 ez_87 => ?_)
                                  have kxz_87 : (z_87).toInt = (fhs (k_69 : Int32).toNatClampNeg).toInt := by rw [ez_87]
                                  refine lv_iconst (v := 2) hx hb dX12_know_130 (by decide) ?_
                                  refine lv_icmp_ne (tgt := 242) hx hb dX12_know_131 (by decide) (fun c_88 => ?_) (fun c_88 => ?_)
                                  · have k_89 : (z_87).toInt ≠ (2 : Int) := z_ne c_88
                                    obtain ⟨z_90, ez_90⟩ : ∃ y : Int32, y = k_69 + 1 := ⟨_, rfl⟩
                                    have kz_90 : (z_90).toInt = (k_69).toInt + (1 : Int) := by rw [ez_90]; exact z_add (b := 1) rfl rfl (z_al hF_72.1 (by decide)) (z_ah hF_72.2 (by decide))
                                    refine lv_iinc (v := z_90) (lv' := [(3, .int z_90), (2, .int more_70), (0, .ref h0), (1, .int p1)]) hx hb dX12_know_242 hl (k := 0) rfl (by rw [ez_90]; rfl) (by decide) rfl (fun ls hl => ?_)
                                    refine lv_goto (tgt := 107) hx hb dX12_know_245 (by decide) ?_
                                    exact ih_68 z_90 more_70 f_71 _ _ _ (show (81 - (z_90).toInt).toNat < n_67 by omega) (show ((0 : Int) ≤ (z_90).toInt ∧ (z_90).toInt ≤ (80 : Int)) by omega) (show ((0 : Int) ≤ (more_70).toInt ∧ (more_70).toInt ≤ (1 : Int)) by omega) hI_f_71 (show k_bc fhs fha fhb9 (k_c (mn).toInt (k_iv f_16)) (mn).toInt 12 f_71 from hF_74) (show k_mb fhs fha fhb9 (k_c (mn).toInt (k_iv f_16)) (more_70).toInt (z_90).toInt f_71 from k_mb_s (i := k_69) hF_75 (by omega) (by omega) (fun _ h9 => absurd h9 (by omega))) (z_sm_nn hI_f_71) (show z_sm f_71 + (more_70).toInt ≤ z_sm f_38 by omega) hP hD hS (lv_sub hl [0, 1, 2, 3] rfl)
                                  · have k_91 : (z_87).toInt = (2 : Int) := z_eq c_88
                                    obtain rfl : z_87 = 2 := z_eq' (show (z_87).toInt = (2 : Int) by omega)
                                    have kl_92 : (2 : Int32).toInt = (2 : Int) := by decide
                                    refine lv_aload_n hx hb dX12_know_134 rfl (lv_at hl 2 rfl) ?_
                                    refine va_get (D := (dC, dI)) (ci := 12) (v := .ref hbd) (C := RX12) (T := TX12) (N := 70) hx hb hts hiX12 hown hK hP 0 rfl rfl 11 (by decide) w__fieldLink_RX12_32_ShellHeapModel_bedOf_I_ (fun _ h9 => h9) rfl dX12_know_135 ?_
                                    refine lv_aload_n hx hb dX12_know_138 rfl (lv_at hl 2 rfl) ?_
                                    refine va_get (D := (dC, dI)) (ci := 12) (v := .ref ha) (C := RX12) (T := TX12) (N := 70) hx hb hts hiX12 hown hK hP 0 rfl rfl 6 (by decide) w__fieldLink_RX12_16_ShellHeapModel_noteA_I_ (fun _ h9 => h9) rfl dX12_know_139 ?_
                                    refine lv_iload_n hx hb dX12_know_142 rfl (lv_at hl 0 rfl) ?_
                                    refine va_iald hx hb hK hP 3 2 rfl rfl (z_vpin (by omega) (by omega)) dX12_know_143 ?_
                                    refine lv_topi (fun z_93 ez_93 => ?_)
                                    have kz_93 : ((0 : Int) ≤ (z_93).toInt ∧ (z_93).toInt ≤ (79 : Int)) := by rw [ez_93]; exact hI_ha _
                                    have krz_93 : (z_93).toInt ≤ (11 : Int) := by rw [ez_93]; exact (hR _).2.1 (by rw [← ez_87]; omega)
                                    have kxz_93 : (z_93).toInt = (fha (k_69 : Int32).toNatClampNeg).toInt := by rw [ez_93]
                                    refine va_iald hx hb hK hP 6 5 rfl rfl (z_vpin (by omega) (by omega)) dX12_know_144 ?_
                                    refine lv_topi (fun z_94 ez_94 => ?_)
                                    have kz_94 : ((0 : Int) ≤ (z_94).toInt ∧ (z_94).toInt ≤ (11 : Int)) := by rw [ez_94]; exact hI_f_71 _
                                    have kxz_94 : (z_94).toInt = (f_71 (z_93 : Int32).toNatClampNeg).toInt := by rw [ez_94]
                                    refine lv_aload_n hx hb dX12_know_145 rfl (lv_at hl 2 rfl) ?_
                                    refine va_get (D := (dC, dI)) (ci := 12) (v := .ref hbd) (C := RX12) (T := TX12) (N := 70) hx hb hts hiX12 hown hK hP 0 rfl rfl 11 (by decide) w__fieldLink_RX12_32_ShellHeapModel_bedOf_I_ (fun _ h9 => h9) rfl dX12_know_146 ?_
                                    refine lv_aload_n hx hb dX12_know_149 rfl (lv_at hl 2 rfl) ?_
                                    refine va_get (D := (dC, dI)) (ci := 12) (v := .ref hb9) (C := RX12) (T := TX12) (N := 70) hx hb hts hiX12 hown hK hP 0 rfl rfl 7 (by decide) w__fieldLink_RX12_19_ShellHeapModel_noteB_I_ (fun _ h9 => h9) rfl dX12_know_150 ?_
                                    refine lv_iload_n hx hb dX12_know_153 rfl (lv_at hl 0 rfl) ?_
                                    refine va_iald hx hb hK hP 4 3 rfl rfl (z_vpin (by omega) (by omega)) dX12_know_154 ?_
                                    refine lv_topi (fun z_95 ez_95 => ?_)
                                    have krz_95 : (0 : Int) ≤ (z_95).toInt ∧ (z_95).toInt ≤ (11 : Int) := by rw [ez_95]; exact (hR _).2.2 (by rw [← ez_87]; omega)
                                    have kxz_95 : (z_95).toInt = (fhb9 (k_69 : Int32).toNatClampNeg).toInt := by rw [ez_95]
                                    refine va_iald hx hb hK hP 6 5 rfl rfl (z_vpin (by omega) (by omega)) dX12_know_155 ?_
                                    refine lv_topi (fun z_96 ez_96 => ?_)
                                    have kz_96 : ((0 : Int) ≤ (z_96).toInt ∧ (z_96).toInt ≤ (11 : Int)) := by rw [ez_96]; exact hI_f_71 _
                                    have kxz_96 : (z_96).toInt = (f_71 (z_95 : Int32).toNatClampNeg).toInt := by rw [ez_96]
                                    refine lv_icmp_ne (tgt := 162) hx hb dX12_know_156 (by decide) (fun c_97 => ?_) (fun c_97 => ?_)
                                    · have k_98 : (z_94).toInt ≠ (z_96).toInt := z_ne c_97
                                      refine lv_aload_n hx hb dX12_know_162 rfl (lv_at hl 2 rfl) ?_
                                      refine va_get (D := (dC, dI)) (ci := 12) (v := .ref hbd) (C := RX12) (T := TX12) (N := 70) hx hb hts hiX12 hown hK hP 0 rfl rfl 11 (by decide) w__fieldLink_RX12_32_ShellHeapModel_bedOf_I_ (fun _ h9 => h9) rfl dX12_know_163 ?_
                                      refine lv_aload_n hx hb dX12_know_166 rfl (lv_at hl 2 rfl) ?_
                                      refine va_get (D := (dC, dI)) (ci := 12) (v := .ref ha) (C := RX12) (T := TX12) (N := 70) hx hb hts hiX12 hown hK hP 0 rfl rfl 6 (by decide) w__fieldLink_RX12_16_ShellHeapModel_noteA_I_ (fun _ h9 => h9) rfl dX12_know_167 ?_
                                      refine lv_iload_n hx hb dX12_know_170 rfl (lv_at hl 0 rfl) ?_
                                      refine va_iald hx hb hK hP 3 2 rfl rfl (z_vpin (by omega) (by omega)) dX12_know_171 ?_
                                      refine z_topeq ez_93 ?_
                                      refine va_iald hx hb hK hP 6 5 rfl rfl (z_vpin (by omega) (by omega)) dX12_know_172 ?_
                                      refine z_topeq ez_94 ?_
                                      refine lv_aload_n hx hb dX12_know_173 rfl (lv_at hl 2 rfl) ?_
                                      refine va_get (D := (dC, dI)) (ci := 12) (v := .ref hbd) (C := RX12) (T := TX12) (N := 70) hx hb hts hiX12 hown hK hP 0 rfl rfl 11 (by decide) w__fieldLink_RX12_32_ShellHeapModel_bedOf_I_ (fun _ h9 => h9) rfl dX12_know_174 ?_
                                      refine lv_aload_n hx hb dX12_know_177 rfl (lv_at hl 2 rfl) ?_
                                      refine va_get (D := (dC, dI)) (ci := 12) (v := .ref hb9) (C := RX12) (T := TX12) (N := 70) hx hb hts hiX12 hown hK hP 0 rfl rfl 7 (by decide) w__fieldLink_RX12_19_ShellHeapModel_noteB_I_ (fun _ h9 => h9) rfl dX12_know_178 ?_
                                      refine lv_iload_n hx hb dX12_know_181 rfl (lv_at hl 0 rfl) ?_
                                      refine va_iald hx hb hK hP 4 3 rfl rfl (z_vpin (by omega) (by omega)) dX12_know_182 ?_
                                      refine z_topeq ez_95 ?_
                                      refine va_iald hx hb hK hP 6 5 rfl rfl (z_vpin (by omega) (by omega)) dX12_know_183 ?_
                                      refine z_topeq ez_96 ?_
                                      refine lv_icmp_ge (tgt := 201) hx hb dX12_know_184 (by decide) (fun c_99 => ?_) (fun c_99 => ?_)
                                      · have k_100 : (z_96).toInt ≤ (z_94).toInt := z_le c_99
                                        refine lv_aload_n hx hb dX12_know_201 rfl (lv_at hl 2 rfl) ?_
                                        refine va_get (D := (dC, dI)) (ci := 12) (v := .ref hbd) (C := RX12) (T := TX12) (N := 70) hx hb hts hiX12 hown hK hP 0 rfl rfl 11 (by decide) w__fieldLink_RX12_32_ShellHeapModel_bedOf_I_ (fun _ h9 => h9) rfl dX12_know_202 ?_
                                        refine lv_aload_n hx hb dX12_know_205 rfl (lv_at hl 2 rfl) ?_
                                        refine va_get (D := (dC, dI)) (ci := 12) (v := .ref hb9) (C := RX12) (T := TX12) (N := 70) hx hb hts hiX12 hown hK hP 0 rfl rfl 7 (by decide) w__fieldLink_RX12_19_ShellHeapModel_noteB_I_ (fun _ h9 => h9) rfl dX12_know_206 ?_
                                        refine lv_iload_n hx hb dX12_know_209 rfl (lv_at hl 0 rfl) ?_
                                        refine va_iald hx hb hK hP 4 3 rfl rfl (z_vpin (by omega) (by omega)) dX12_know_210 ?_
                                        refine z_topeq ez_95 ?_
                                        refine va_iald hx hb hK hP 6 5 rfl rfl (z_vpin (by omega) (by omega)) dX12_know_211 ?_
                                        refine z_topeq ez_96 ?_
                                        refine lv_istore (lv' := [(4, .int z_96), (3, .int k_69), (2, .int more_70), (0, .ref h0), (1, .int p1)]) hx hb dX12_know_212 hl (by decide) rfl (fun ls hl => ?_)
                                        have hlo_101 := k_low (i := k_69) (x := z_93) (y := z_95) (u := z_94) (v := z_96) (w := z_96) (k_r3_rg hRG) hF_74 (by omega) (by omega) (k_iv_c (by omega) (by omega) (by omega)) (by omega) ez_93 ez_95 ez_94 ez_96 (by omega)
                                        refine lv_aload_n hx hb dX12_know_214 rfl (lv_at hl 3 rfl) ?_
                                        refine va_get (D := (dC, dI)) (ci := 12) (v := .ref hbd) (C := RX12) (T := TX12) (N := 70) hx hb hts hiX12 hown hK hP 0 rfl rfl 11 (by decide) w__fieldLink_RX12_32_ShellHeapModel_bedOf_I_ (fun _ h9 => h9) rfl dX12_know_215 ?_
                                        refine lv_aload_n hx hb dX12_know_218 rfl (lv_at hl 3 rfl) ?_
                                        refine va_get (D := (dC, dI)) (ci := 12) (v := .ref ha) (C := RX12) (T := TX12) (N := 70) hx hb hts hiX12 hown hK hP 0 rfl rfl 6 (by decide) w__fieldLink_RX12_16_ShellHeapModel_noteA_I_ (fun _ h9 => h9) rfl dX12_know_219 ?_
                                        refine lv_iload_n hx hb dX12_know_222 rfl (lv_at hl 1 rfl) ?_
                                        refine va_iald hx hb hK hP 3 2 rfl rfl (z_vpin (by omega) (by omega)) dX12_know_223 ?_
                                        refine z_topeq ez_93 ?_
                                        refine lv_iload hx hb dX12_know_224 (lv_at hl 0 rfl) ?_
                                        refine va_iast hx hb hK hP hD hS 6 5 rfl rfl (z_vpin (by omega) (by omega)) dX12_know_226 (fun H_102 locs hP hD hS => ?_)
                                        obtain ⟨hP, hD⟩ := z_s_6 hP hD
                                        have hI_f_103 : ∀ j : Nat, ((0 : Int) ≤ ((upd f_71 (z_93 : Int32).toNatClampNeg z_96) j).toInt ∧ ((upd f_71 (z_93 : Int32).toNatClampNeg z_96) j).toInt ≤ (11 : Int)) := z_updP (P := fun v => ((0 : Int) ≤ (v).toInt ∧ (v).toInt ≤ (11 : Int))) hI_f_71 (show ((0 : Int) ≤ (z_96).toInt ∧ (z_96).toInt ≤ (11 : Int)) from kz_96)
                                        have kS_104 : z_sm (upd f_71 (z_93 : Int32).toNatClampNeg z_96) = z_sm f_71 - (z_94).toInt + (z_96).toInt := z_sm_upd (z_cl (by omega) (by omega)) ez_94.symm
                                        have kV_105 : (upd f_71 (z_93 : Int32).toNatClampNeg z_96) (z_95 : Int32).toNatClampNeg = z_96 := z_upd_ne ez_94 ez_96 (by omega)
                                        refine lv_aload_n hx hb dX12_know_227 rfl (lv_at hl 3 rfl) ?_
                                        refine va_get (D := (dC, dI)) (ci := 12) (v := .ref hbd) (C := RX12) (T := TX12) (N := 70) hx hb hts hiX12 hown hK hP 0 rfl rfl 11 (by decide) w__fieldLink_RX12_32_ShellHeapModel_bedOf_I_ (fun _ h9 => h9) rfl dX12_know_228 ?_
                                        refine lv_aload_n hx hb dX12_know_231 rfl (lv_at hl 3 rfl) ?_
                                        refine va_get (D := (dC, dI)) (ci := 12) (v := .ref hb9) (C := RX12) (T := TX12) (N := 70) hx hb hts hiX12 hown hK hP 0 rfl rfl 7 (by decide) w__fieldLink_RX12_19_ShellHeapModel_noteB_I_ (fun _ h9 => h9) rfl dX12_know_232 ?_
                                        refine lv_iload_n hx hb dX12_know_235 rfl (lv_at hl 1 rfl) ?_
                                        refine va_iald hx hb hK hP 4 3 rfl rfl (z_vpin (by omega) (by omega)) dX12_know_236 ?_
                                        refine z_topeq ez_95 ?_
                                        refine lv_iload hx hb dX12_know_237 (lv_at hl 0 rfl) ?_
                                        refine va_iast hx hb hK hP hD hS 6 5 rfl rfl (z_vpin (by omega) (by omega)) dX12_know_239 (fun H_106 locs hP hD hS => ?_)
                                        obtain ⟨hP, hD⟩ := z_s_6 hP hD
                                        have hI_f_107 : ∀ j : Nat, ((0 : Int) ≤ ((upd (upd f_71 (z_93 : Int32).toNatClampNeg z_96) (z_95 : Int32).toNatClampNeg z_96) j).toInt ∧ ((upd (upd f_71 (z_93 : Int32).toNatClampNeg z_96) (z_95 : Int32).toNatClampNeg z_96) j).toInt ≤ (11 : Int)) := z_updP (P := fun v => ((0 : Int) ≤ (v).toInt ∧ (v).toInt ≤ (11 : Int))) hI_f_103 (show ((0 : Int) ≤ (z_96).toInt ∧ (z_96).toInt ≤ (11 : Int)) from kz_96)
                                        have kS_108 : z_sm (upd (upd f_71 (z_93 : Int32).toNatClampNeg z_96) (z_95 : Int32).toNatClampNeg z_96) = z_sm (upd f_71 (z_93 : Int32).toNatClampNeg z_96) - (z_96).toInt + (z_96).toInt := z_sm_upd (z_cl (by omega) (by omega)) kV_105
                                        refine lv_iconst (v := 1) hx hb dX12_know_240 (by decide) ?_
                                        refine lv_istore_n (lv' := [(2, .int 1), (4, .int z_96), (3, .int k_69), (0, .ref h0), (1, .int p1)]) hx hb dX12_know_241 rfl hl (by decide) rfl (fun ls hl => ?_)
                                        obtain ⟨z_109, ez_109⟩ : ∃ y : Int32, y = k_69 + 1 := ⟨_, rfl⟩
                                        have kz_109 : (z_109).toInt = (k_69).toInt + (1 : Int) := by rw [ez_109]; exact z_add (b := 1) rfl rfl (z_al hF_72.1 (by decide)) (z_ah hF_72.2 (by decide))
                                        refine lv_iinc (v := z_109) (lv' := [(3, .int z_109), (2, .int 1), (4, .int z_96), (0, .ref h0), (1, .int p1)]) hx hb dX12_know_242 hl (k := 2) rfl (by rw [ez_109]; rfl) (by decide) rfl (fun ls hl => ?_)
                                        refine lv_goto (tgt := 107) hx hb dX12_know_245 (by decide) ?_
                                        exact ih_68 z_109 1 (upd (upd f_71 (z_93 : Int32).toNatClampNeg z_96) (z_95 : Int32).toNatClampNeg z_96) _ _ _ (show (81 - (z_109).toInt).toNat < n_67 by omega) (show ((0 : Int) ≤ (z_109).toInt ∧ (z_109).toInt ≤ (80 : Int)) by omega) (show ((0 : Int) ≤ (1 : Int) ∧ (1 : Int) ≤ (1 : Int)) by omega) hI_f_107 (show k_bc fhs fha fhb9 (k_c (mn).toInt (k_iv f_16)) (mn).toInt 12 (upd (upd f_71 (z_93 : Int32).toNatClampNeg z_96) (z_95 : Int32).toNatClampNeg z_96) from k_bc_u (x := z_95) (v := z_96) (k_bc_u (x := z_93) (v := z_96) hF_74 (by omega) hlo_101.1.1 hlo_101.1.2) (by omega) hlo_101.2.1 hlo_101.2.2) (show k_mb fhs fha fhb9 (k_c (mn).toInt (k_iv f_16)) (1 : Int) (z_109).toInt (upd (upd f_71 (z_93 : Int32).toNatClampNeg z_96) (z_95 : Int32).toNatClampNeg z_96) from k_mb_1 rfl) (z_sm_nn hI_f_107) (show z_sm (upd (upd f_71 (z_93 : Int32).toNatClampNeg z_96) (z_95 : Int32).toNatClampNeg z_96) + (1 : Int) ≤ z_sm f_38 by omega) hP hD hS (lv_sub hl [0, 1, 3, 4] rfl)
                                      · have k_110 : (z_96).toInt > (z_94).toInt := z_nle c_99
                                        refine lv_aload_n hx hb dX12_know_187 rfl (lv_at hl 2 rfl) ?_
                                        refine va_get (D := (dC, dI)) (ci := 12) (v := .ref hbd) (C := RX12) (T := TX12) (N := 70) hx hb hts hiX12 hown hK hP 0 rfl rfl 11 (by decide) w__fieldLink_RX12_32_ShellHeapModel_bedOf_I_ (fun _ h9 => h9) rfl dX12_know_188 ?_
                                        refine lv_aload_n hx hb dX12_know_191 rfl (lv_at hl 2 rfl) ?_
                                        refine va_get (D := (dC, dI)) (ci := 12) (v := .ref ha) (C := RX12) (T := TX12) (N := 70) hx hb hts hiX12 hown hK hP 0 rfl rfl 6 (by decide) w__fieldLink_RX12_16_ShellHeapModel_noteA_I_ (fun _ h9 => h9) rfl dX12_know_192 ?_
                                        refine lv_iload_n hx hb dX12_know_195 rfl (lv_at hl 0 rfl) ?_
                                        refine va_iald hx hb hK hP 3 2 rfl rfl (z_vpin (by omega) (by omega)) dX12_know_196 ?_
                                        refine z_topeq ez_93 ?_
                                        refine va_iald hx hb hK hP 6 5 rfl rfl (z_vpin (by omega) (by omega)) dX12_know_197 ?_
                                        refine z_topeq ez_94 ?_
                                        refine lv_goto (tgt := 212) hx hb dX12_know_198 (by decide) ?_
                                        refine lv_istore (lv' := [(4, .int z_94), (3, .int k_69), (2, .int more_70), (0, .ref h0), (1, .int p1)]) hx hb dX12_know_212 hl (by decide) rfl (fun ls hl => ?_)
                                        have hlo_111 := k_low (i := k_69) (x := z_93) (y := z_95) (u := z_94) (v := z_96) (w := z_94) (k_r3_rg hRG) hF_74 (by omega) (by omega) (k_iv_c (by omega) (by omega) (by omega)) (by omega) ez_93 ez_95 ez_94 ez_96 (by omega)
                                        refine lv_aload_n hx hb dX12_know_214 rfl (lv_at hl 3 rfl) ?_
                                        refine va_get (D := (dC, dI)) (ci := 12) (v := .ref hbd) (C := RX12) (T := TX12) (N := 70) hx hb hts hiX12 hown hK hP 0 rfl rfl 11 (by decide) w__fieldLink_RX12_32_ShellHeapModel_bedOf_I_ (fun _ h9 => h9) rfl dX12_know_215 ?_
                                        refine lv_aload_n hx hb dX12_know_218 rfl (lv_at hl 3 rfl) ?_
                                        refine va_get (D := (dC, dI)) (ci := 12) (v := .ref ha) (C := RX12) (T := TX12) (N := 70) hx hb hts hiX12 hown hK hP 0 rfl rfl 6 (by decide) w__fieldLink_RX12_16_ShellHeapModel_noteA_I_ (fun _ h9 => h9) rfl dX12_know_219 ?_
                                        refine lv_iload_n hx hb dX12_know_222 rfl (lv_at hl 1 rfl) ?_
                                        refine va_iald hx hb hK hP 3 2 rfl rfl (z_vpin (by omega) (by omega)) dX12_know_223 ?_
                                        refine z_topeq ez_93 ?_
                                        refine lv_iload hx hb dX12_know_224 (lv_at hl 0 rfl) ?_
                                        refine va_iast hx hb hK hP hD hS 6 5 rfl rfl (z_vpin (by omega) (by omega)) dX12_know_226 (fun H_112 locs hP hD hS => ?_)
                                        obtain ⟨hP, hD⟩ := z_s_6 hP hD
                                        have hI_f_113 : ∀ j : Nat, ((0 : Int) ≤ ((upd f_71 (z_93 : Int32).toNatClampNeg z_94) j).toInt ∧ ((upd f_71 (z_93 : Int32).toNatClampNeg z_94) j).toInt ≤ (11 : Int)) := z_updP (P := fun v => ((0 : Int) ≤ (v).toInt ∧ (v).toInt ≤ (11 : Int))) hI_f_71 (show ((0 : Int) ≤ (z_94).toInt ∧ (z_94).toInt ≤ (11 : Int)) from kz_94)
                                        have kS_114 : z_sm (upd f_71 (z_93 : Int32).toNatClampNeg z_94) = z_sm f_71 - (z_94).toInt + (z_94).toInt := z_sm_upd (z_cl (by omega) (by omega)) ez_94.symm
                                        have kV_115 : (upd f_71 (z_93 : Int32).toNatClampNeg z_94) (z_95 : Int32).toNatClampNeg = z_96 := z_upd_ne ez_94 ez_96 (by omega)
                                        refine lv_aload_n hx hb dX12_know_227 rfl (lv_at hl 3 rfl) ?_
                                        refine va_get (D := (dC, dI)) (ci := 12) (v := .ref hbd) (C := RX12) (T := TX12) (N := 70) hx hb hts hiX12 hown hK hP 0 rfl rfl 11 (by decide) w__fieldLink_RX12_32_ShellHeapModel_bedOf_I_ (fun _ h9 => h9) rfl dX12_know_228 ?_
                                        refine lv_aload_n hx hb dX12_know_231 rfl (lv_at hl 3 rfl) ?_
                                        refine va_get (D := (dC, dI)) (ci := 12) (v := .ref hb9) (C := RX12) (T := TX12) (N := 70) hx hb hts hiX12 hown hK hP 0 rfl rfl 7 (by decide) w__fieldLink_RX12_19_ShellHeapModel_noteB_I_ (fun _ h9 => h9) rfl dX12_know_232 ?_
                                        refine lv_iload_n hx hb dX12_know_235 rfl (lv_at hl 1 rfl) ?_
                                        refine va_iald hx hb hK hP 4 3 rfl rfl (z_vpin (by omega) (by omega)) dX12_know_236 ?_
                                        refine z_topeq ez_95 ?_
                                        refine lv_iload hx hb dX12_know_237 (lv_at hl 0 rfl) ?_
                                        refine va_iast hx hb hK hP hD hS 6 5 rfl rfl (z_vpin (by omega) (by omega)) dX12_know_239 (fun H_116 locs hP hD hS => ?_)
                                        obtain ⟨hP, hD⟩ := z_s_6 hP hD
                                        have hI_f_117 : ∀ j : Nat, ((0 : Int) ≤ ((upd (upd f_71 (z_93 : Int32).toNatClampNeg z_94) (z_95 : Int32).toNatClampNeg z_94) j).toInt ∧ ((upd (upd f_71 (z_93 : Int32).toNatClampNeg z_94) (z_95 : Int32).toNatClampNeg z_94) j).toInt ≤ (11 : Int)) := z_updP (P := fun v => ((0 : Int) ≤ (v).toInt ∧ (v).toInt ≤ (11 : Int))) hI_f_113 (show ((0 : Int) ≤ (z_94).toInt ∧ (z_94).toInt ≤ (11 : Int)) from kz_94)
                                        have kS_118 : z_sm (upd (upd f_71 (z_93 : Int32).toNatClampNeg z_94) (z_95 : Int32).toNatClampNeg z_94) = z_sm (upd f_71 (z_93 : Int32).toNatClampNeg z_94) - (z_96).toInt + (z_94).toInt := z_sm_upd (z_cl (by omega) (by omega)) kV_115
                                        refine lv_iconst (v := 1) hx hb dX12_know_240 (by decide) ?_
                                        refine lv_istore_n (lv' := [(2, .int 1), (4, .int z_94), (3, .int k_69), (0, .ref h0), (1, .int p1)]) hx hb dX12_know_241 rfl hl (by decide) rfl (fun ls hl => ?_)
                                        obtain ⟨z_119, ez_119⟩ : ∃ y : Int32, y = k_69 + 1 := ⟨_, rfl⟩
                                        have kz_119 : (z_119).toInt = (k_69).toInt + (1 : Int) := by rw [ez_119]; exact z_add (b := 1) rfl rfl (z_al hF_72.1 (by decide)) (z_ah hF_72.2 (by decide))
                                        refine lv_iinc (v := z_119) (lv' := [(3, .int z_119), (2, .int 1), (4, .int z_94), (0, .ref h0), (1, .int p1)]) hx hb dX12_know_242 hl (k := 2) rfl (by rw [ez_119]; rfl) (by decide) rfl (fun ls hl => ?_)
                                        refine lv_goto (tgt := 107) hx hb dX12_know_245 (by decide) ?_
                                        exact ih_68 z_119 1 (upd (upd f_71 (z_93 : Int32).toNatClampNeg z_94) (z_95 : Int32).toNatClampNeg z_94) _ _ _ (show (81 - (z_119).toInt).toNat < n_67 by omega) (show ((0 : Int) ≤ (z_119).toInt ∧ (z_119).toInt ≤ (80 : Int)) by omega) (show ((0 : Int) ≤ (1 : Int) ∧ (1 : Int) ≤ (1 : Int)) by omega) hI_f_117 (show k_bc fhs fha fhb9 (k_c (mn).toInt (k_iv f_16)) (mn).toInt 12 (upd (upd f_71 (z_93 : Int32).toNatClampNeg z_94) (z_95 : Int32).toNatClampNeg z_94) from k_bc_u (x := z_95) (v := z_94) (k_bc_u (x := z_93) (v := z_94) hF_74 (by omega) hlo_111.1.1 hlo_111.1.2) (by omega) hlo_111.2.1 hlo_111.2.2) (show k_mb fhs fha fhb9 (k_c (mn).toInt (k_iv f_16)) (1 : Int) (z_119).toInt (upd (upd f_71 (z_93 : Int32).toNatClampNeg z_94) (z_95 : Int32).toNatClampNeg z_94) from k_mb_1 rfl) (z_sm_nn hI_f_117) (show z_sm (upd (upd f_71 (z_93 : Int32).toNatClampNeg z_94) (z_95 : Int32).toNatClampNeg z_94) + (1 : Int) ≤ z_sm f_38 by omega) hP hD hS (lv_sub hl [0, 1, 3, 4] rfl)
                                    · have k_120 : (z_94).toInt = (z_96).toInt := z_eq c_97
                                      refine lv_goto (tgt := 242) hx hb dX12_know_159 (by decide) ?_
                                      obtain ⟨z_121, ez_121⟩ : ∃ y : Int32, y = k_69 + 1 := ⟨_, rfl⟩
                                      have kz_121 : (z_121).toInt = (k_69).toInt + (1 : Int) := by rw [ez_121]; exact z_add (b := 1) rfl rfl (z_al hF_72.1 (by decide)) (z_ah hF_72.2 (by decide))
                                      refine lv_iinc (v := z_121) (lv' := [(3, .int z_121), (2, .int more_70), (0, .ref h0), (1, .int p1)]) hx hb dX12_know_242 hl (k := 0) rfl (by rw [ez_121]; rfl) (by decide) rfl (fun ls hl => ?_)
                                      refine lv_goto (tgt := 107) hx hb dX12_know_245 (by decide) ?_
                                      exact ih_68 z_121 more_70 f_71 _ _ _ (show (81 - (z_121).toInt).toNat < n_67 by omega) (show ((0 : Int) ≤ (z_121).toInt ∧ (z_121).toInt ≤ (80 : Int)) by omega) (show ((0 : Int) ≤ (more_70).toInt ∧ (more_70).toInt ≤ (1 : Int)) by omega) hI_f_71 (show k_bc fhs fha fhb9 (k_c (mn).toInt (k_iv f_16)) (mn).toInt 12 f_71 from hF_74) (show k_mb fhs fha fhb9 (k_c (mn).toInt (k_iv f_16)) (more_70).toInt (z_121).toInt f_71 from k_mb_s (i := k_69) hF_75 (by omega) (by omega) (fun _ _ => by rw [← ez_93, ← ez_95, ← ez_94, ← ez_96]; omega)) (z_sm_nn hI_f_71) (show z_sm f_71 + (more_70).toInt ≤ z_sm f_38 by omega) hP hD hS (lv_sub hl [0, 1, 2, 3] rfl)
                          exact loop_66 _ 0 0 f_38 _ _ _ (Nat.lt_succ_self _) (show ((0 : Int) ≤ (0 : Int) ∧ (0 : Int) ≤ (80 : Int)) by omega) (show ((0 : Int) ≤ (0 : Int) ∧ (0 : Int) ≤ (1 : Int)) by omega) hI_f_38 (show k_bc fhs fha fhb9 (k_c (mn).toInt (k_iv f_16)) (mn).toInt 12 f_38 from hF_40) (show k_mb fhs fha fhb9 (k_c (mn).toInt (k_iv f_16)) (0 : Int) (0 : Int) f_38 from k_mb_0) (z_sm_nn hI_f_38) (show z_sm f_38 + (0 : Int) ≤ z_sm f_38 by omega) hP hD hS hl
                    exact loop_34 _ 1 f_28 _ _ _ (Nat.lt_succ_self _) (show ((0 : Int) ≤ (1 : Int) ∧ (1 : Int) ≤ (1 : Int)) by omega) hI_f_28 (show k_bc fhs fha fhb9 (k_c (mn).toInt (k_iv f_16)) (mn).toInt 12 f_28 from k_id_bc hF_30 (by omega)) (show k_mb fhs fha fhb9 (k_c (mn).toInt (k_iv f_16)) (1 : Int) (mn).toInt f_28 from k_mb_1 rfl) (z_sm_nn hI_f_28) hP hD hS hl
                  · have k_122 : (12 : Int) > (i_27).toInt := z_nle c_31
                    refine lv_aload_n hx hb dX12_know_84 rfl (lv_at hl 1 rfl) ?_
                    refine va_get (D := (dC, dI)) (ci := 12) (v := .ref hbd) (C := RX12) (T := TX12) (N := 70) hx hb hts hiX12 hown hK hP 0 rfl rfl 11 (by decide) w__fieldLink_RX12_32_ShellHeapModel_bedOf_I_ (fun _ h9 => h9) rfl dX12_know_85 ?_
                    refine lv_iload_n hx hb dX12_know_88 rfl (lv_at hl 0 rfl) ?_
                    refine lv_iload_n hx hb dX12_know_89 rfl (lv_at hl 0 rfl) ?_
                    refine va_iast hx hb hK hP hD hS 6 5 rfl rfl (z_vpin (by omega) (by omega)) dX12_know_90 (fun H_123 locs hP hD hS => ?_)
                    obtain ⟨hP, hD⟩ := z_s_6 hP hD
                    have hI_f_124 : ∀ j : Nat, ((0 : Int) ≤ ((upd f_28 (i_27 : Int32).toNatClampNeg i_27) j).toInt ∧ ((upd f_28 (i_27 : Int32).toNatClampNeg i_27) j).toInt ≤ (11 : Int)) := z_updP (P := fun v => ((0 : Int) ≤ (v).toInt ∧ (v).toInt ≤ (11 : Int))) hI_f_28 (show ((0 : Int) ≤ (i_27).toInt ∧ (i_27).toInt ≤ (11 : Int)) from by first | omega | decide)
                    obtain ⟨z_125, ez_125⟩ : ∃ y : Int32, y = i_27 + 1 := ⟨_, rfl⟩
                    have kz_125 : (z_125).toInt = (i_27).toInt + (1 : Int) := by rw [ez_125]; exact z_add (b := 1) rfl rfl (z_al hF_29.1 (by decide)) (z_ah hF_29.2 (by decide))
                    refine lv_iinc (v := z_125) (lv' := [(2, .int z_125), (0, .ref h0), (1, .int p1)]) hx hb dX12_know_91 hl (k := 0) rfl (by rw [ez_125]; rfl) (by decide) rfl (fun ls hl => ?_)
                    refine lv_goto (tgt := 78) hx hb dX12_know_94 (by decide) ?_
                    exact ih_26 z_125 (upd f_28 (i_27 : Int32).toNatClampNeg i_27) _ _ _ (show (13 - (z_125).toInt).toNat < n_25 by omega) (show ((0 : Int) ≤ (z_125).toInt ∧ (z_125).toInt ≤ (12 : Int)) by omega) hI_f_124 (show k_id (z_125).toInt (upd f_28 (i_27 : Int32).toNatClampNeg i_27) from k_id_s (i := i_27) hF_30 (by omega) (by omega)) hP hD hS (lv_sub hl [0, 1, 2] rfl)
              exact loop_24 _ 0 fhbd _ _ _ (Nat.lt_succ_self _) (show ((0 : Int) ≤ (0 : Int) ∧ (0 : Int) ≤ (12 : Int)) by omega) hI_hbd (show k_id (0 : Int) fhbd from k_id_0) hP hD hS hl
            · have k_126 : (i_15).toInt ≥ (0 : Int) := z_nlt c_21
              refine lv_aload_n hx hb dX12_know_38 rfl (lv_at hl 1 rfl) ?_
              refine va_get (D := (dC, dI)) (ci := 12) (v := .ref hs) (C := RX12) (T := TX12) (N := 70) hx hb hts hiX12 hown hK hP 0 rfl rfl 5 (by decide) w__fieldLink_RX12_13_ShellHeapModel_sort_I_ (fun _ h9 => h9) rfl dX12_know_39 ?_
              refine lv_iload_n hx hb dX12_know_42 rfl (lv_at hl 0 rfl) ?_
              refine va_iald hx hb hK hP 2 1 rfl rfl (z_vpin (by omega) (by omega)) dX12_know_43 ?_
              refine lv_topi (fun z_127 ez_127 => ?_)
              have kxz_127 : (z_127).toInt = (fhs (i_15 : Int32).toNatClampNeg).toInt := by rw [ez_127]
              refine lv_bipush (v := 9) hx hb dX12_know_44 (by decide) ?_
              refine lv_icmp_ne (tgt := 70) hx hb dX12_know_46 (by decide) (fun c_128 => ?_) (fun c_128 => ?_)
              · have k_129 : (z_127).toInt ≠ (9 : Int) := z_ne c_128
                obtain ⟨z_130, ez_130⟩ : ∃ y : Int32, y = i_15 + (-1) := ⟨_, rfl⟩
                have kz_130 : (z_130).toInt = (i_15).toInt + (-1 : Int) := by rw [ez_130]; exact z_add (b := -1) rfl rfl (z_al hF_17.1 (by decide)) (z_ah hF_17.2 (by decide))
                refine lv_iinc (v := z_130) (lv' := [(2, .int z_130), (0, .ref h0), (1, .int p1)]) hx hb dX12_know_70 hl (k := 0) rfl (by rw [ez_130]; rfl) (by decide) rfl (fun ls hl => ?_)
                refine lv_goto (tgt := 34) hx hb dX12_know_73 (by decide) ?_
                exact ih_14 z_130 f_16 _ _ _ (show ((z_130).toInt + 2).toNat < n_13 by omega) (show ((-1 : Int) ≤ (z_130).toInt ∧ (z_130).toInt ≤ (79 : Int)) by omega) (show k_sl (kN9 fhs) fha (p1).toInt (z_130).toInt (k_iv f_16) from k_slr_n (i := i_15) hF_18 (by omega) (by omega) (Or.inl (by omega))) (show k_ge (p1).toInt f_16 from hF_19) (show (z_130).toInt < (p1).toInt by omega) hP hD hS (lv_sub hl [0, 1, 2] rfl)
              · have k_131 : (z_127).toInt = (9 : Int) := z_eq c_128
                obtain rfl : z_127 = 9 := z_eq' (show (z_127).toInt = (9 : Int) by omega)
                have kl_132 : (9 : Int32).toInt = (9 : Int) := by decide
                refine lv_aload_n hx hb dX12_know_49 rfl (lv_at hl 1 rfl) ?_
                refine va_get (D := (dC, dI)) (ci := 12) (v := .ref hct) (C := RX12) (T := TX12) (N := 70) hx hb hts hiX12 hown hK hP 0 rfl rfl 9 (by decide) w__fieldLink_RX12_25_ShellHeapModel_counts_Z_ (fun _ h9 => h9) rfl dX12_know_50 ?_
                refine lv_iload_n hx hb dX12_know_53 rfl (lv_at hl 0 rfl) ?_
                refine va_zald hx hb hK hP 1 0 rfl rfl (z_vpin (by omega) (by omega)) dX12_know_54 ?_
                refine lv_topi (fun z_133 ez_133 => ?_)
                have kxz_133 : (z_133).toInt = (f_16 (i_15 : Int32).toNatClampNeg).toInt := by rw [ez_133]
                refine lv_if_eq (tgt := 70) hx hb dX12_know_55 (by decide) (fun c_134 => ?_) (fun c_134 => ?_)
                · have k_135 : (z_133).toInt = (0 : Int) := z_eq c_134
                  obtain rfl : z_133 = 0 := z_eq' (show (z_133).toInt = (0 : Int) by omega)
                  have kl_136 : (0 : Int32).toInt = (0 : Int) := by decide
                  obtain ⟨z_137, ez_137⟩ : ∃ y : Int32, y = i_15 + (-1) := ⟨_, rfl⟩
                  have kz_137 : (z_137).toInt = (i_15).toInt + (-1 : Int) := by rw [ez_137]; exact z_add (b := -1) rfl rfl (z_al hF_17.1 (by decide)) (z_ah hF_17.2 (by decide))
                  refine lv_iinc (v := z_137) (lv' := [(2, .int z_137), (0, .ref h0), (1, .int p1)]) hx hb dX12_know_70 hl (k := 0) rfl (by rw [ez_137]; rfl) (by decide) rfl (fun ls hl => ?_)
                  refine lv_goto (tgt := 34) hx hb dX12_know_73 (by decide) ?_
                  exact ih_14 z_137 f_16 _ _ _ (show ((z_137).toInt + 2).toNat < n_13 by omega) (show ((-1 : Int) ≤ (z_137).toInt ∧ (z_137).toInt ≤ (79 : Int)) by omega) (show k_sl (kN9 fhs) fha (p1).toInt (z_137).toInt (k_iv f_16) from k_slr_n (i := i_15) hF_18 (by omega) (by omega) (Or.inr (by omega))) (show k_ge (p1).toInt f_16 from hF_19) (show (z_137).toInt < (p1).toInt by omega) hP hD hS (lv_sub hl [0, 1, 2] rfl)
                · have k_138 : (z_133).toInt ≠ (0 : Int) := z_ne c_134
                  refine lv_aload_n hx hb dX12_know_58 rfl (lv_at hl 1 rfl) ?_
                  refine va_get (D := (dC, dI)) (ci := 12) (v := .ref hct) (C := RX12) (T := TX12) (N := 70) hx hb hts hiX12 hown hK hP 0 rfl rfl 9 (by decide) w__fieldLink_RX12_25_ShellHeapModel_counts_Z_ (fun _ h9 => h9) rfl dX12_know_59 ?_
                  refine lv_aload_n hx hb dX12_know_62 rfl (lv_at hl 1 rfl) ?_
                  refine va_get (D := (dC, dI)) (ci := 12) (v := .ref ha) (C := RX12) (T := TX12) (N := 70) hx hb hts hiX12 hown hK hP 0 rfl rfl 6 (by decide) w__fieldLink_RX12_16_ShellHeapModel_noteA_I_ (fun _ h9 => h9) rfl dX12_know_63 ?_
                  refine lv_iload_n hx hb dX12_know_66 rfl (lv_at hl 0 rfl) ?_
                  refine va_iald hx hb hK hP 3 2 rfl rfl (z_vpin (by omega) (by omega)) dX12_know_67 ?_
                  refine lv_topi (fun z_139 ez_139 => ?_)
                  have kz_139 : ((0 : Int) ≤ (z_139).toInt ∧ (z_139).toInt ≤ (79 : Int)) := by rw [ez_139]; exact hI_ha _
                  have kxz_139 : (z_139).toInt = (fha (i_15 : Int32).toNatClampNeg).toInt := by rw [ez_139]
                  refine lv_iconst (v := 0) hx hb dX12_know_68 (by decide) ?_
                  refine va_zast hx hb hK hP hD hS 1 0 rfl rfl (z_vpinB kz_139 (by decide) (by decide)) dX12_know_69 (fun H_140 locs hP hD hS => ?_)
                  obtain ⟨hP, hD⟩ := z_s_1 hP hD
                  obtain ⟨z_142, ez_142⟩ : ∃ y : Int32, y = i_15 + (-1) := ⟨_, rfl⟩
                  have kz_142 : (z_142).toInt = (i_15).toInt + (-1 : Int) := by rw [ez_142]; exact z_add (b := -1) rfl rfl (z_al hF_17.1 (by decide)) (z_ah hF_17.2 (by decide))
                  refine lv_iinc (v := z_142) (lv' := [(2, .int z_142), (0, .ref h0), (1, .int p1)]) hx hb dX12_know_70 hl (k := 0) rfl (by rw [ez_142]; rfl) (by decide) rfl (fun ls hl => ?_)
                  refine lv_goto (tgt := 34) hx hb dX12_know_73 (by decide) ?_
                  exact ih_14 z_142 (upd f_16 (z_139 : Int32).toNatClampNeg (vp_nar .boolean 0)) _ _ _ (show ((z_142).toInt + 2).toNat < n_13 by omega) (show ((-1 : Int) ≤ (z_142).toInt ∧ (z_142).toInt ≤ (79 : Int)) by omega) (show k_sl (kN9 fhs) fha (p1).toInt (z_142).toInt (k_iv (upd f_16 (z_139 : Int32).toNatClampNeg (vp_nar .boolean 0))) from k_slr_y (i := i_15) (x := z_139) hF_18 (by omega) (by omega) (by omega) (by omega) (by omega) ez_139 (by omega) (k_sr_a hSR (by omega) (by omega) (by omega) ez_139) (by decide)) (show k_ge (p1).toInt (upd f_16 (z_139 : Int32).toNatClampNeg (vp_nar .boolean 0)) from k_ge_u hF_19 (by decide)) (show (z_142).toInt < (p1).toInt by omega) hP hD hS (lv_sub hl [0, 1, 2] rfl)
        exact loop_12 _ z_11 f_5 _ _ _ (Nat.lt_succ_self _) (show ((-1 : Int) ≤ (z_11).toInt ∧ (z_11).toInt ≤ (79 : Int)) by omega) (show k_sl (kN9 fhs) fha (p1).toInt (z_11).toInt (k_iv f_5) from k_ct_sl hF_7 (by omega) (by omega)) (show k_ge (p1).toInt f_5 from k_ct_ge hF_7 (by omega)) (show (z_11).toInt < (p1).toInt by omega) hP hD hS hl
      · have k_143 : (80 : Int) > (i_4).toInt := z_nle c_8
        refine lv_aload_n hx hb dX12_know_8 rfl (lv_at hl 1 rfl) ?_
        refine va_get (D := (dC, dI)) (ci := 12) (v := .ref hct) (C := RX12) (T := TX12) (N := 70) hx hb hts hiX12 hown hK hP 0 rfl rfl 9 (by decide) w__fieldLink_RX12_25_ShellHeapModel_counts_Z_ (fun _ h9 => h9) rfl dX12_know_9 ?_
        refine lv_iload_n hx hb dX12_know_12 rfl (lv_at hl 0 rfl) ?_
        refine lv_iload_n hx hb dX12_know_13 rfl (lv_at hl 0 rfl) ?_
        refine lv_iload_n hx hb dX12_know_14 rfl (lv_at hl 2 rfl) ?_
        refine lv_icmp_ge (tgt := 22) hx hb dX12_know_15 (by decide) (fun c_144 => ?_) (fun c_144 => ?_)
        · have k_145 : (p1).toInt ≤ (i_4).toInt := z_le c_144
          refine lv_iconst (v := 0) hx hb dX12_know_22 (by decide) ?_
          refine va_zast hx hb hK hP hD hS 1 0 rfl rfl (z_vpin (by omega) (by omega)) dX12_know_23 (fun H_146 locs hP hD hS => ?_)
          obtain ⟨hP, hD⟩ := z_s_1 hP hD
          obtain ⟨z_148, ez_148⟩ : ∃ y : Int32, y = i_4 + 1 := ⟨_, rfl⟩
          have kz_148 : (z_148).toInt = (i_4).toInt + (1 : Int) := by rw [ez_148]; exact z_add (b := 1) rfl rfl (z_al hF_6.1 (by decide)) (z_ah hF_6.2 (by decide))
          refine lv_iinc (v := z_148) (lv' := [(2, .int z_148), (0, .ref h0), (1, .int p1)]) hx hb dX12_know_24 hl (k := 0) rfl (by rw [ez_148]; rfl) (by decide) rfl (fun ls hl => ?_)
          refine lv_goto (tgt := 2) hx hb dX12_know_27 (by decide) ?_
          exact ih_3 z_148 (upd f_5 (i_4 : Int32).toNatClampNeg (vp_nar .boolean 0)) _ _ _ (show (81 - (z_148).toInt).toNat < n_2 by omega) (show ((0 : Int) ≤ (z_148).toInt ∧ (z_148).toInt ≤ (80 : Int)) by omega) (show k_ct (z_148).toInt (p1).toInt (upd f_5 (i_4 : Int32).toNatClampNeg (vp_nar .boolean 0)) from k_ct_s (i := i_4) hF_7 (by omega) (by omega) (⟨fun h9 => absurd h9 (by decide), fun h9 => by omega⟩)) hP hD hS (lv_sub hl [0, 1, 2] rfl)
        · have k_149 : (p1).toInt > (i_4).toInt := z_nle c_144
          refine lv_iconst (v := 1) hx hb dX12_know_18 (by decide) ?_
          refine lv_goto (tgt := 23) hx hb dX12_know_19 (by decide) ?_
          refine va_zast hx hb hK hP hD hS 1 0 rfl rfl (z_vpin (by omega) (by omega)) dX12_know_23 (fun H_150 locs hP hD hS => ?_)
          obtain ⟨hP, hD⟩ := z_s_1 hP hD
          obtain ⟨z_152, ez_152⟩ : ∃ y : Int32, y = i_4 + 1 := ⟨_, rfl⟩
          have kz_152 : (z_152).toInt = (i_4).toInt + (1 : Int) := by rw [ez_152]; exact z_add (b := 1) rfl rfl (z_al hF_6.1 (by decide)) (z_ah hF_6.2 (by decide))
          refine lv_iinc (v := z_152) (lv' := [(2, .int z_152), (0, .ref h0), (1, .int p1)]) hx hb dX12_know_24 hl (k := 0) rfl (by rw [ez_152]; rfl) (by decide) rfl (fun ls hl => ?_)
          refine lv_goto (tgt := 2) hx hb dX12_know_27 (by decide) ?_
          exact ih_3 z_152 (upd f_5 (i_4 : Int32).toNatClampNeg (vp_nar .boolean 1)) _ _ _ (show (81 - (z_152).toInt).toNat < n_2 by omega) (show ((0 : Int) ≤ (z_152).toInt ∧ (z_152).toInt ≤ (80 : Int)) by omega) (show k_ct (z_152).toInt (p1).toInt (upd f_5 (i_4 : Int32).toNatClampNeg (vp_nar .boolean 1)) from k_ct_s (i := i_4) hF_7 (by omega) (by omega) (⟨fun _ => by omega, fun _ => by decide⟩)) hP hD hS (lv_sub hl [0, 1, 2] rfl)
  exact loop_1 _ 0 fhct _ _ _ (Nat.lt_succ_self _) (show ((0 : Int) ≤ (0 : Int) ∧ (0 : Int) ≤ (80 : Int)) by omega) (show k_ct (0 : Int) (p1).toInt fhct from k_ct_0) hP hD hS hl
def u_s_X12_isKnownA : List Cond := .code yX12_isKnown cX12_isKnown 2 (some .boolean) :: ([.fieldLink RX12 154 "ShellHeapModel" "notes" "I"] ++ (wsX120 ++ []))
theorem gd_s_X12_isKnownA : z_gd u_s_X12_isKnownA := z_gdc (by decide +kernel) (z_gda gdX12 (z_gd0))
set_option maxHeartbeats 4000000 in
set_option maxRecDepth 100000 in
theorem s_X12_isKnownA (l : Launch) (dC : Nat → ClassId) (dI : Nat → Nat → Nat) (sz : Nat) (h0 : Nat) (p1 : Int32) (h0_0 : Value) (h0_1 : Value) (h0_2 : Value) (h0_3 : Value) (mn : Int32) (h0_5 : Value) (h0_6 : Value) (h0_7 : Value) (h0_8 : Value) (h0_9 : Value) (h0_10 : Value) (h0_11 : Value) (h0_12 : Value) (h0_13 : Value) (h0_14 : Value) (h0_15 : Value) (h0_16 : Value) (h0_17 : Value) (h0_18 : Value) (h0_19 : Value) (h0_20 : Value) (h0_21 : Value) (h0_22 : Value) (h0_23 : Value) (h0_24 : Value) (h0_25 : Value) (h0_26 : Value) (h0_27 : Value) (h0_28 : Value) (h0_29 : Value) (h0_30 : Value) (h0_31 : Value) (h0_32 : Value) (h0_33 : Value) (h0_34 : Value) (h0_35 : Value) (h0_36 : Value) (h0_37 : Value) (h0_38 : Value) (h0_39 : Value) (h0_40 : Value) (h0_41 : Value) (h0_42 : Value) (h0_43 : Value) (h0_44 : Value) (h0_45 : Value) (h0_46 : Value) (h0_47 : Value) (h0_48 : Value) (h0_49 : Value) (h0_50 : Value) (h0_51 : Value) (h0_52 : Value) (h0_53 : Value) (h0_54 : Value) (h0_55 : Value) (h0_56 : Value) (h0_57 : Value) (h0_58 : Value) (h0_59 : Value) (h0_60 : Value) (h0_61 : Value) (h0_62 : Value) (h0_63 : Value) (h0_64 : Value) (h0_65 : Value) (h0_66 : Value) (h0_67 : Value) (h0_68 : Value) (h0_69 : Value) (hB_mn : ((0 : Int) ≤ (mn).toInt ∧ (mn).toInt ≤ (80 : Int))) : Met l yX12_isKnown u_s_X12_isKnownA ({ frames := 0, cells := 0, slots := 0, locals := 0 }) (va_Pc [.ref h0, .int p1] (z_C (dC, dI) vwCl [(h0, .inr (12, [h0_0, h0_1, h0_2, h0_3, .int mn, h0_5, h0_6, h0_7, h0_8, h0_9, h0_10, h0_11, h0_12, h0_13, h0_14, h0_15, h0_16, h0_17, h0_18, h0_19, h0_20, h0_21, h0_22, h0_23, h0_24, h0_25, h0_26, h0_27, h0_28, h0_29, h0_30, h0_31, h0_32, h0_33, h0_34, h0_35, h0_36, h0_37, h0_38, h0_39, h0_40, h0_41, h0_42, h0_43, h0_44, h0_45, h0_46, h0_47, h0_48, h0_49, h0_50, h0_51, h0_52, h0_53, h0_54, h0_55, h0_56, h0_57, h0_58, h0_59, h0_60, h0_61, h0_62, h0_63, h0_64, h0_65, h0_66, h0_67, h0_68, h0_69]))] [] sz)) (va_Qi (fun (r : Int32) (_ : Unit) => (r = 1 ∧ (0 ≤ p1.toInt ∧ p1.toInt ≤ mn.toInt)) ∨ (r = 0 ∧ ¬ (0 ≤ p1.toInt ∧ p1.toInt ≤ mn.toInt))) (fun (_ : Unit) (_ : State) => True) (va_A [] sz)) 0 0 (va_A [] sz) := by
  refine Met.ofW (cc := cX12_isKnown) (maxL := 2) (ret := (some .boolean)) (by decide) rfl ?_
  intro p e s m args below meth c s₁ B hml hv
  obtain ⟨rfl, hsz, hP, hK, hD0⟩ := hv
  have hx := B.exec
  have hb := B.bytes
  have hr := B.returns
  have hts := atoms_spec (ws := u_s_X12_isKnownA) B.pre
  have hown : s.vm.findClass RX12 = some m.cls := findClass_of_methodNamed B.named
  have hlocks := B.notSynchronized
  subst hsz
  have hD := hD0
  generalize hAe : va_A [] s.heap.size = A
  have hA : ∀ q : Nat, s.heap.size ≤ q → A q := fun q h => by rw [← hAe]; exact Or.inr h
  have hS : va_S A s.heap s.heap [] := va_S.rf
  have hP : va_P (dC, dI) vwCl [(h0, .inr (12, [h0_0, h0_1, h0_2, h0_3, .int mn, h0_5, h0_6, h0_7, h0_8, h0_9, h0_10, h0_11, h0_12, h0_13, h0_14, h0_15, h0_16, h0_17, h0_18, h0_19, h0_20, h0_21, h0_22, h0_23, h0_24, h0_25, h0_26, h0_27, h0_28, h0_29, h0_30, h0_31, h0_32, h0_33, h0_34, h0_35, h0_36, h0_37, h0_38, h0_39, h0_40, h0_41, h0_42, h0_43, h0_44, h0_45, h0_46, h0_47, h0_48, h0_49, h0_50, h0_51, h0_52, h0_53, h0_54, h0_55, h0_56, h0_57, h0_58, h0_59, h0_60, h0_61, h0_62, h0_63, h0_64, h0_65, h0_66, h0_67, h0_68, h0_69]))] s.heap := hP
  have w__fieldLink_RX12_154_ShellHeapModel_notes_I_ := hts (.fieldLink RX12 154 "ShellHeapModel" "notes" "I") (z_mc (z_ml z_m0))
  have hiX12 := show ∀ w ∈ u_ws RX12 TX12 70, w ∈ u_s_X12_isKnownA from fun w h => z_mc (z_mr (z_ml h))
  have krr_p1 := z_rng p1
  have hl := lv_entry ([.ref h0, .int p1]) (n := 2) (Nat.le_of_ble_eq_true rfl)
  rw [lg_entry_eq]
  generalize (lg_sl ([.ref h0, .int p1]) ++ List.replicate (2 - (lg_sl ([.ref h0, .int p1])).length) Slot.unset).toArray = ls at hl ⊢
  have hl : lv_has ls 2 [(0, .ref h0), (1, .int p1)] := hl
  refine lv_iload_n hx hb dX12_isKnown_0 rfl (lv_at hl 1 rfl) ?_
  refine lv_if_lt (tgt := 16) hx hb dX12_isKnown_1 (by decide) (fun c_1 => ?_) (fun c_1 => ?_)
  · have k_2 : (p1).toInt < (0 : Int) := z_lt c_1
    refine lv_iconst (v := 0) hx hb dX12_isKnown_16 (by decide) ?_
    refine W.widen (k := 0) (n := 0) (Nat.le_of_ble_eq_true rfl) (Nat.le_of_ble_eq_true rfl) ?_
    exact W.zret (v := 0) hx hb hr (by rfl) (fun t ht hW => ⟨⟨0, (), rfl, (Or.inr (⟨rfl, by first | omega | decide⟩)), trivial⟩, hS.F ht⟩) hS.2.2 dX12_isKnown_17
  · have k_3 : (p1).toInt ≥ (0 : Int) := z_nlt c_1
    refine lv_iload_n hx hb dX12_isKnown_4 rfl (lv_at hl 1 rfl) ?_
    refine lv_aload_n hx hb dX12_isKnown_5 rfl (lv_at hl 0 rfl) ?_
    refine va_get (D := (dC, dI)) (ci := 12) (v := .int mn) (C := RX12) (T := TX12) (N := 70) hx hb hts hiX12 hown hK hP 0 rfl rfl 4 (by decide) w__fieldLink_RX12_154_ShellHeapModel_notes_I_ (fun _ h9 => h9) rfl dX12_isKnown_6 ?_
    refine lv_icmp_gt (tgt := 16) hx hb dX12_isKnown_9 (by decide) (fun c_4 => ?_) (fun c_4 => ?_)
    · have k_5 : (mn).toInt < (p1).toInt := z_lt c_4
      refine lv_iconst (v := 0) hx hb dX12_isKnown_16 (by decide) ?_
      refine W.widen (k := 0) (n := 0) (Nat.le_of_ble_eq_true rfl) (Nat.le_of_ble_eq_true rfl) ?_
      exact W.zret (v := 0) hx hb hr (by rfl) (fun t ht hW => ⟨⟨0, (), rfl, (Or.inr (⟨rfl, by first | omega | decide⟩)), trivial⟩, hS.F ht⟩) hS.2.2 dX12_isKnown_17
    · have k_6 : (mn).toInt ≥ (p1).toInt := z_nlt c_4
      refine lv_iconst (v := 1) hx hb dX12_isKnown_12 (by decide) ?_
      refine lv_goto (tgt := 17) hx hb dX12_isKnown_13 (by decide) ?_
      refine W.widen (k := 0) (n := 0) (Nat.le_of_ble_eq_true rfl) (Nat.le_of_ble_eq_true rfl) ?_
      exact W.zret (v := 1) hx hb hr (by rfl) (fun t ht hW => ⟨⟨1, (), rfl, (Or.inl (⟨rfl, by first | omega | decide⟩)), trivial⟩, hS.F ht⟩) hS.2.2 dX12_isKnown_17
def u_s_X12_sizeK : List Cond := .code yX12_size cX12_size 4 (some .int) :: ([.fieldLink RX12 151 "ShellHeapModel" "layers" "I", .fieldLink RX12 32 "ShellHeapModel" "bedOf" "[I"] ++ (wsX120 ++ []))
theorem gd_s_X12_sizeK : z_gd u_s_X12_sizeK := z_gdc (by decide +kernel) (z_gda gdX12 (z_gd0))
set_option maxHeartbeats 4000000 in
set_option maxRecDepth 100000 in
theorem s_X12_sizeK (l : Launch) (dC : Nat → ClassId) (dI : Nat → Nat → Nat) (sz : Nat) (h0 : Nat) (p1 : Int32) (h0_0 : Value) (h0_1 : Value) (h0_2 : Value) (ml : Int32) (h0_4 : Value) (h0_5 : Value) (h0_6 : Value) (h0_7 : Value) (h0_8 : Value) (h0_9 : Value) (h0_10 : Value) (h1 : Nat) (h0_12 : Value) (h0_13 : Value) (h0_14 : Value) (h0_15 : Value) (h0_16 : Value) (h0_17 : Value) (h0_18 : Value) (h0_19 : Value) (h0_20 : Value) (h0_21 : Value) (h0_22 : Value) (h0_23 : Value) (h0_24 : Value) (h0_25 : Value) (h0_26 : Value) (h0_27 : Value) (h0_28 : Value) (h0_29 : Value) (h0_30 : Value) (h0_31 : Value) (h0_32 : Value) (h0_33 : Value) (h0_34 : Value) (h0_35 : Value) (h0_36 : Value) (h0_37 : Value) (h0_38 : Value) (h0_39 : Value) (h0_40 : Value) (h0_41 : Value) (h0_42 : Value) (h0_43 : Value) (h0_44 : Value) (h0_45 : Value) (h0_46 : Value) (h0_47 : Value) (h0_48 : Value) (h0_49 : Value) (h0_50 : Value) (h0_51 : Value) (h0_52 : Value) (h0_53 : Value) (h0_54 : Value) (h0_55 : Value) (h0_56 : Value) (h0_57 : Value) (h0_58 : Value) (h0_59 : Value) (h0_60 : Value) (h0_61 : Value) (h0_62 : Value) (h0_63 : Value) (h0_64 : Value) (h0_65 : Value) (h0_66 : Value) (h0_67 : Value) (h0_68 : Value) (h0_69 : Value) (ch1 : ClassId) (fh1 : Nat → Int32) (hB_ml : ((0 : Int) ≤ (ml).toInt ∧ (ml).toInt ≤ (12 : Int))) (hI_h1 : ∀ j : Nat, ((0 : Int) ≤ (fh1 j).toInt ∧ (fh1 j).toInt ≤ (11 : Int))) : Met l yX12_size u_s_X12_sizeK ({ frames := 0, cells := 0, slots := 0, locals := 0 }) (va_Pc [.ref h0, .int p1] (z_C (dC, dI) vwCl [(h0, .inr (12, [h0_0, h0_1, h0_2, .int ml, h0_4, h0_5, h0_6, h0_7, h0_8, h0_9, h0_10, .ref h1, h0_12, h0_13, h0_14, h0_15, h0_16, h0_17, h0_18, h0_19, h0_20, h0_21, h0_22, h0_23, h0_24, h0_25, h0_26, h0_27, h0_28, h0_29, h0_30, h0_31, h0_32, h0_33, h0_34, h0_35, h0_36, h0_37, h0_38, h0_39, h0_40, h0_41, h0_42, h0_43, h0_44, h0_45, h0_46, h0_47, h0_48, h0_49, h0_50, h0_51, h0_52, h0_53, h0_54, h0_55, h0_56, h0_57, h0_58, h0_59, h0_60, h0_61, h0_62, h0_63, h0_64, h0_65, h0_66, h0_67, h0_68, h0_69])), (h1, .inl (ch1, 12, .inl fh1))] [(ch1, .int)] sz)) (va_Qi (fun (r : Int32) (_ : Unit) => r.toInt = ((k_card (fun x => kI fh1 x.toNat = p1.toInt) (ml.toInt).toNat : Nat) : Int)) (fun (_ : Unit) (_ : State) => True) (va_A [] sz)) 0 0 (va_A [] sz) := by
  refine Met.ofW (cc := cX12_size) (maxL := 4) (ret := (some .int)) (by decide) rfl ?_
  intro p e s m args below meth c s₁ B hml hv
  obtain ⟨rfl, hsz, hP, hK, hD0⟩ := hv
  have hx := B.exec
  have hb := B.bytes
  have hr := B.returns
  have hts := atoms_spec (ws := u_s_X12_sizeK) B.pre
  have hown : s.vm.findClass RX12 = some m.cls := findClass_of_methodNamed B.named
  have hlocks := B.notSynchronized
  subst hsz
  have hD := hD0
  generalize hAe : va_A [] s.heap.size = A
  have hA : ∀ q : Nat, s.heap.size ≤ q → A q := fun q h => by rw [← hAe]; exact Or.inr h
  have hS : va_S A s.heap s.heap [] := va_S.rf
  have hP : va_P (dC, dI) vwCl [(h0, .inr (12, [h0_0, h0_1, h0_2, .int ml, h0_4, h0_5, h0_6, h0_7, h0_8, h0_9, h0_10, .ref h1, h0_12, h0_13, h0_14, h0_15, h0_16, h0_17, h0_18, h0_19, h0_20, h0_21, h0_22, h0_23, h0_24, h0_25, h0_26, h0_27, h0_28, h0_29, h0_30, h0_31, h0_32, h0_33, h0_34, h0_35, h0_36, h0_37, h0_38, h0_39, h0_40, h0_41, h0_42, h0_43, h0_44, h0_45, h0_46, h0_47, h0_48, h0_49, h0_50, h0_51, h0_52, h0_53, h0_54, h0_55, h0_56, h0_57, h0_58, h0_59, h0_60, h0_61, h0_62, h0_63, h0_64, h0_65, h0_66, h0_67, h0_68, h0_69])), (h1, .inl (ch1, 12, .inl fh1))] s.heap := hP
  have w__fieldLink_RX12_151_ShellHeapModel_layers_I_ := hts (.fieldLink RX12 151 "ShellHeapModel" "layers" "I") (z_mc (z_ml z_m0))
  have hiX12 := show ∀ w ∈ u_ws RX12 TX12 70, w ∈ u_s_X12_sizeK from fun w h => z_mc (z_mr (z_ml h))
  have w__fieldLink_RX12_32_ShellHeapModel_bedOf_I_ := hts (.fieldLink RX12 32 "ShellHeapModel" "bedOf" "[I") (z_mc (z_ml z_m1))
  have krr_p1 := z_rng p1
  have hl := lv_entry ([.ref h0, .int p1]) (n := 4) (Nat.le_of_ble_eq_true rfl)
  rw [lg_entry_eq]
  generalize (lg_sl ([.ref h0, .int p1]) ++ List.replicate (4 - (lg_sl ([.ref h0, .int p1])).length) Slot.unset).toArray = ls at hl ⊢
  have hl : lv_has ls 4 [(0, .ref h0), (1, .int p1)] := hl
  refine z_nameQ (fun QQ hQQ => ?_)
  refine lv_iconst (v := 0) hx hb dX12_size_0 (by decide) ?_
  refine lv_istore_n (lv' := [(2, .int 0), (0, .ref h0), (1, .int p1)]) hx hb dX12_size_1 rfl hl (by decide) rfl (fun ls hl => ?_)
  refine lv_iconst (v := 0) hx hb dX12_size_2 (by decide) ?_
  refine lv_istore_n (lv' := [(3, .int 0), (2, .int 0), (0, .ref h0), (1, .int p1)]) hx hb dX12_size_3 rfl hl (by decide) rfl (fun ls hl => ?_)
  have loop_1 : ∀ (n_2 : Nat) (i_4 : Int32) (n_5 : Int32) (H : Heap) (locs : List Loc) (ls : Array Slot), (13 - (i_4).toInt).toNat < n_2 → (((0 : Int) ≤ (i_4).toInt ∧ (i_4).toInt ≤ (12 : Int))) → (((0 : Int) ≤ (n_5).toInt ∧ (n_5).toInt ≤ (12 : Int))) → ((n_5).toInt = ((k_card (fun x => kI fh1 x.toNat = (p1).toInt) ((i_4).toInt).toNat : Nat) : Int)) → ((n_5).toInt ≤ (i_4).toInt) → ((i_4).toInt ≤ (ml).toInt) → va_P (dC, dI) vwCl [(h0, .inr (12, [h0_0, h0_1, h0_2, .int ml, h0_4, h0_5, h0_6, h0_7, h0_8, h0_9, h0_10, .ref h1, h0_12, h0_13, h0_14, h0_15, h0_16, h0_17, h0_18, h0_19, h0_20, h0_21, h0_22, h0_23, h0_24, h0_25, h0_26, h0_27, h0_28, h0_29, h0_30, h0_31, h0_32, h0_33, h0_34, h0_35, h0_36, h0_37, h0_38, h0_39, h0_40, h0_41, h0_42, h0_43, h0_44, h0_45, h0_46, h0_47, h0_48, h0_49, h0_50, h0_51, h0_52, h0_53, h0_54, h0_55, h0_56, h0_57, h0_58, h0_59, h0_60, h0_61, h0_62, h0_63, h0_64, h0_65, h0_66, h0_67, h0_68, h0_69])), (h1, .inl (ch1, 12, .inl fh1))] H → va_D (fun _ => True) [(h0, .inr (12, [h0_0, h0_1, h0_2, .int ml, h0_4, h0_5, h0_6, h0_7, h0_8, h0_9, h0_10, .ref h1, h0_12, h0_13, h0_14, h0_15, h0_16, h0_17, h0_18, h0_19, h0_20, h0_21, h0_22, h0_23, h0_24, h0_25, h0_26, h0_27, h0_28, h0_29, h0_30, h0_31, h0_32, h0_33, h0_34, h0_35, h0_36, h0_37, h0_38, h0_39, h0_40, h0_41, h0_42, h0_43, h0_44, h0_45, h0_46, h0_47, h0_48, h0_49, h0_50, h0_51, h0_52, h0_53, h0_54, h0_55, h0_56, h0_57, h0_58, h0_59, h0_60, h0_61, h0_62, h0_63, h0_64, h0_65, h0_66, h0_67, h0_68, h0_69])), (h1, .inl (ch1, 12, .inl fh1))] → va_S A s.heap H locs → lv_has ls 4 [(3, .int i_4), (2, .int n_5), (0, .ref h0), (1, .int p1)] → W p l e ({ frames := 0, cells := 0, slots := 0, locals := 0 } : Room) s m ([.ref h0, .int p1] : List Value).toArray below meth c H locs 0 0 QQ (F0 m 4 ls []) := by
    intro n_2
    induction n_2 with
    | zero => intro i_4 n_5 H locs ls hm; exact absurd hm (Nat.not_lt_zero _)
    | succ n_2 ih_3 =>
      intro i_4 n_5 H locs ls hm hF_6 hF_7 hF_8 hF_9 hF_10 hP hD hS hl
      refine lv_iload_n hx hb dX12_size_4 rfl (lv_at hl 0 rfl) ?_
      refine lv_aload_n hx hb dX12_size_5 rfl (lv_at hl 2 rfl) ?_
      refine va_get (D := (dC, dI)) (ci := 12) (v := .int ml) (C := RX12) (T := TX12) (N := 70) hx hb hts hiX12 hown hK hP 0 rfl rfl 3 (by decide) w__fieldLink_RX12_151_ShellHeapModel_layers_I_ (fun _ h9 => h9) rfl dX12_size_6 ?_
      refine lv_icmp_ge (tgt := 36) hx hb dX12_size_9 (by decide) (fun c_11 => ?_) (fun c_11 => ?_)
      · have k_12 : (ml).toInt ≤ (i_4).toInt := z_le c_11
        refine lv_iload_n hx hb dX12_size_36 rfl (lv_at hl 1 rfl) ?_
        refine z_backQ hQQ ?_
        refine W.widen (k := 0) (n := 0) (Nat.le_of_ble_eq_true rfl) (Nat.le_of_ble_eq_true rfl) ?_
        exact W.iret (v := n_5) hx hb hr (fun t ht hW => ⟨⟨n_5, (), rfl, (show (n_5).toInt = ((k_card (fun x => kI fh1 x.toNat = p1.toInt) (ml.toInt).toNat : Nat) : Int) by have h9 : (i_4).toInt = (ml).toInt := (by omega); rw [← h9]; exact hF_8), trivial⟩, hS.F ht⟩) hS.2.2 dX12_size_37
      · have k_13 : (ml).toInt > (i_4).toInt := z_nle c_11
        refine lv_iload_n hx hb dX12_size_12 rfl (lv_at hl 1 rfl) ?_
        refine lv_aload_n hx hb dX12_size_13 rfl (lv_at hl 2 rfl) ?_
        refine va_get (D := (dC, dI)) (ci := 12) (v := .ref h1) (C := RX12) (T := TX12) (N := 70) hx hb hts hiX12 hown hK hP 0 rfl rfl 11 (by decide) w__fieldLink_RX12_32_ShellHeapModel_bedOf_I_ (fun _ h9 => h9) rfl dX12_size_14 ?_
        refine lv_iload_n hx hb dX12_size_17 rfl (lv_at hl 0 rfl) ?_
        refine va_iald hx hb hK hP 1 0 rfl rfl (z_vpin (by omega) (by omega)) dX12_size_18 ?_
        refine lv_topi (fun z_14 ez_14 => ?_)
        have kz_14 : ((0 : Int) ≤ (z_14).toInt ∧ (z_14).toInt ≤ (11 : Int)) := by rw [ez_14]; exact hI_h1 _
        have kxz_14 : (z_14).toInt = (fh1 (i_4 : Int32).toNatClampNeg).toInt := by rw [ez_14]
        refine lv_iload_n hx hb dX12_size_19 rfl (lv_at hl 3 rfl) ?_
        refine lv_icmp_ne (tgt := 27) hx hb dX12_size_20 (by decide) (fun c_15 => ?_) (fun c_15 => ?_)
        · have k_16 : (z_14).toInt ≠ (p1).toInt := z_ne c_15
          refine lv_iconst (v := 0) hx hb dX12_size_27 (by decide) ?_
          refine lv_iadd hx hb dX12_size_28 ?_
          refine lv_topi (fun z_17 ez_17 => ?_)
          have kz_17 : (z_17).toInt = (n_5).toInt + (0 : Int) := by rw [ez_17]; exact z_add (a := (n_5).toInt) (b := (0 : Int)) rfl rfl (z_al hF_7.1 (by decide)) (z_ah hF_7.2 (by decide))
          refine lv_istore_n (lv' := [(2, .int z_17), (3, .int i_4), (0, .ref h0), (1, .int p1)]) hx hb dX12_size_29 rfl hl (by decide) rfl (fun ls hl => ?_)
          obtain ⟨z_18, ez_18⟩ : ∃ y : Int32, y = i_4 + 1 := ⟨_, rfl⟩
          have kz_18 : (z_18).toInt = (i_4).toInt + (1 : Int) := by rw [ez_18]; exact z_add (b := 1) rfl rfl (z_al hF_6.1 (by decide)) (z_ah hF_6.2 (by decide))
          refine lv_iinc (v := z_18) (lv' := [(3, .int z_18), (2, .int z_17), (0, .ref h0), (1, .int p1)]) hx hb dX12_size_30 hl (k := 1) rfl (by rw [ez_18]; rfl) (by decide) rfl (fun ls hl => ?_)
          refine lv_goto (tgt := 4) hx hb dX12_size_33 (by decide) ?_
          exact ih_3 z_18 z_17 _ _ _ (show (13 - (z_18).toInt).toNat < n_2 by omega) (show ((0 : Int) ≤ (z_18).toInt ∧ (z_18).toInt ≤ (12 : Int)) by omega) (show ((0 : Int) ≤ (z_17).toInt ∧ (z_17).toInt ≤ (12 : Int)) by omega) (show (z_17).toInt = ((k_card (fun x => kI fh1 x.toNat = (p1).toInt) ((z_18).toInt).toNat : Nat) : Int) from k_sz_n (i := i_4) (by omega) (by omega) (by omega) (fun h9 => absurd (show (fh1 (i_4 : Int32).toNatClampNeg).toInt = (p1).toInt from h9) (by omega))) (show (z_17).toInt ≤ (z_18).toInt by omega) (show (z_18).toInt ≤ (ml).toInt by omega) hP hD hS (lv_sub hl [0, 1, 2, 3] rfl)
        · have k_19 : (z_14).toInt = (p1).toInt := z_eq c_15
          refine lv_iconst (v := 1) hx hb dX12_size_23 (by decide) ?_
          refine lv_goto (tgt := 28) hx hb dX12_size_24 (by decide) ?_
          refine lv_iadd hx hb dX12_size_28 ?_
          refine lv_topi (fun z_20 ez_20 => ?_)
          have kz_20 : (z_20).toInt = (n_5).toInt + (1 : Int) := by rw [ez_20]; exact z_add (a := (n_5).toInt) (b := (1 : Int)) rfl rfl (z_al hF_7.1 (by decide)) (z_ah hF_7.2 (by decide))
          refine lv_istore_n (lv' := [(2, .int z_20), (3, .int i_4), (0, .ref h0), (1, .int p1)]) hx hb dX12_size_29 rfl hl (by decide) rfl (fun ls hl => ?_)
          obtain ⟨z_21, ez_21⟩ : ∃ y : Int32, y = i_4 + 1 := ⟨_, rfl⟩
          have kz_21 : (z_21).toInt = (i_4).toInt + (1 : Int) := by rw [ez_21]; exact z_add (b := 1) rfl rfl (z_al hF_6.1 (by decide)) (z_ah hF_6.2 (by decide))
          refine lv_iinc (v := z_21) (lv' := [(3, .int z_21), (2, .int z_20), (0, .ref h0), (1, .int p1)]) hx hb dX12_size_30 hl (k := 1) rfl (by rw [ez_21]; rfl) (by decide) rfl (fun ls hl => ?_)
          refine lv_goto (tgt := 4) hx hb dX12_size_33 (by decide) ?_
          exact ih_3 z_21 z_20 _ _ _ (show (13 - (z_21).toInt).toNat < n_2 by omega) (show ((0 : Int) ≤ (z_21).toInt ∧ (z_21).toInt ≤ (12 : Int)) by omega) (show ((0 : Int) ≤ (z_20).toInt ∧ (z_20).toInt ≤ (12 : Int)) by omega) (show (z_20).toInt = ((k_card (fun x => kI fh1 x.toNat = (p1).toInt) ((z_21).toInt).toNat : Nat) : Int) from k_sz_y (i := i_4) (n := n_5) hF_8 (by omega) (by omega) (by omega) (show (fh1 (i_4 : Int32).toNatClampNeg).toInt = (p1).toInt by omega)) (show (z_20).toInt ≤ (z_21).toInt by omega) (show (z_21).toInt ≤ (ml).toInt by omega) hP hD hS (lv_sub hl [0, 1, 2, 3] rfl)
  exact loop_1 _ 0 0 _ _ _ (Nat.lt_succ_self _) (show ((0 : Int) ≤ (0 : Int) ∧ (0 : Int) ≤ (12 : Int)) by omega) (show ((0 : Int) ≤ (0 : Int) ∧ (0 : Int) ≤ (12 : Int)) by omega) (show (0 : Int) = ((k_card (fun x => kI fh1 x.toNat = (p1).toInt) ((0 : Int)).toNat : Nat) : Int) from rfl) (show (0 : Int) ≤ (0 : Int) by omega) (show (0 : Int) ≤ (ml).toInt by omega) hP hD hS hl
