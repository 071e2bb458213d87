def u_s_X12_know : List Cond := .code yX12_know cX12_know 5 none :: ([.methodLink RX12 161 yX12_orders, .instanceMethod yX12_orders, .selects RX12 yX12_orders yX12_orders, .initialized RX12, .methodLink RX12 164 yX12_spans, .instanceMethod yX12_spans, .selects RX12 yX12_spans yX12_spans, .fieldLink RX12 154 "ShellHeapModel" "notes" "I", .fieldLink RX12 25 "ShellHeapModel" "counts" "[Z", .fieldLink RX12 13 "ShellHeapModel" "sort" "[I", .fieldLink RX12 32 "ShellHeapModel" "bedOf" "[I", .fieldLink RX12 16 "ShellHeapModel" "noteA" "[I", .fieldLink RX12 19 "ShellHeapModel" "noteB" "[I"] ++ (wsX120 ++ (u_s_X12_orders ++ (u_s_X12_spans ++ []))))
theorem gd_s_X12_know : z_gd u_s_X12_know := z_gdc (by decide +kernel) (z_gda gdX12 (z_gda gd_s_X12_orders (z_gda gd_s_X12_spans (z_gd0))))
set_option maxRecDepth 20000 in
theorem gw_s_X12_know_s_X12_orders_161 : GoodIn u_s_X12_know (wsV RX12 161 RX12 yX12_orders u_s_X12_orders) := z_gV (z_gr _ [1, 2, 3, 4] rfl (by decide +kernel)) (fun w h => ⟨z_mc (z_mr (z_mr (z_ml h))), gd_s_X12_orders w h⟩)
set_option maxRecDepth 20000 in
theorem gw_s_X12_know_s_X12_spans_164 : GoodIn u_s_X12_know (wsV RX12 164 RX12 yX12_spans u_s_X12_spans) := z_gV (z_gr _ [5, 6, 7, 4] rfl (by decide +kernel)) (fun w h => ⟨z_mc (z_mr (z_mr (z_mr (z_ml h)))), gd_s_X12_spans w h⟩)
set_option maxHeartbeats 4000000 in
set_option maxRecDepth 100000 in
theorem s_X12_know (l : Launch) (dC : Nat → ClassId) (dI : Nat → Nat → Nat) (sz : Nat) (h0 : Nat) (p1 : Int32) (h0_0 : Value) (h0_1 : Value) (h0_2 : Value) (h0_3 : Value) (mn : Int32) (hs : Nat) (ha : Nat) (hb9 : Nat) (hc9 : Nat) (hct : Nat) (h0_10 : Value) (hbd : Nat) (hlt : Nat) (hrk : Nat) (hfi : Nat) (hla : Nat) (mq : Int32) (h0_17 : Value) (h0_18 : Value) (h0_19 : Value) (h0_20 : Value) (h0_21 : Value) (h0_22 : Value) (h0_23 : Value) (h0_24 : Value) (h0_25 : Value) (h0_26 : Value) (h0_27 : Value) (h0_28 : Value) (h0_29 : Value) (h0_30 : Value) (h0_31 : Value) (h0_32 : Value) (h0_33 : Value) (h0_34 : Value) (h0_35 : Value) (h0_36 : Value) (h0_37 : Value) (h0_38 : Value) (h0_39 : Value) (h0_40 : Value) (h0_41 : Value) (h0_42 : Value) (h0_43 : Value) (h0_44 : Value) (h0_45 : Value) (h0_46 : Value) (h0_47 : Value) (h0_48 : Value) (h0_49 : Value) (h0_50 : Value) (h0_51 : Value) (h0_52 : Value) (h0_53 : Value) (h0_54 : Value) (h0_55 : Value) (h0_56 : Value) (h0_57 : Value) (h0_58 : Value) (h0_59 : Value) (h0_60 : Value) (h0_61 : Value) (h0_62 : Value) (h0_63 : Value) (h0_64 : Value) (h0_65 : Value) (h0_66 : Value) (h0_67 : Value) (h0_68 : Value) (h0_69 : Value) (chct : ClassId) (fhct : Nat → Int32) (chs : ClassId) (fhs : Nat → Int32) (cha : ClassId) (fha : Nat → Int32) (chb9 : ClassId) (fhb9 : Nat → Int32) (chc9 : ClassId) (fhc9 : Nat → Int32) (chbd : ClassId) (fhbd : Nat → Int32) (chlt : ClassId) (fhlt : Nat → Int32) (chrk : ClassId) (fhrk : Nat → Int32) (chfi : ClassId) (fhfi : Nat → Int32) (chla : ClassId) (fhla : Nat → Int32) (hB_mq : ((0 : Int) ≤ (mq).toInt ∧ (mq).toInt ≤ (2 : Int))) (hB_p1 : ((0 : Int) ≤ (p1).toInt ∧ (p1).toInt ≤ (80 : Int))) (hB_mn : ((0 : Int) ≤ (mn).toInt ∧ (mn).toInt ≤ (80 : Int))) (hI_ha : ∀ j : Nat, ((0 : Int) ≤ (fha j).toInt ∧ (fha j).toInt ≤ (79 : Int))) (hI_hbd : ∀ j : Nat, ((0 : Int) ≤ (fhbd j).toInt ∧ (fhbd j).toInt ≤ (11 : Int))) (hR : ∀ j : Nat, z_relm (fhs j) (fha j) (fhb9 j)) : Met l yX12_know u_s_X12_know ({ frames := 1, cells := 0, slots := 0, locals := 23 }) (va_Pc [.ref h0, .int p1] (z_C (dC, dI) vwCl [(h0, .inr (12, [h0_0, h0_1, h0_2, h0_3, .int mn, .ref hs, .ref ha, .ref hb9, .ref hc9, .ref hct, h0_10, .ref hbd, .ref hlt, .ref hrk, .ref hfi, .ref hla, .int mq, h0_17, h0_18, h0_19, h0_20, h0_21, h0_22, h0_23, h0_24, h0_25, h0_26, h0_27, h0_28, h0_29, h0_30, h0_31, h0_32, h0_33, h0_34, h0_35, h0_36, h0_37, h0_38, h0_39, h0_40, h0_41, h0_42, h0_43, h0_44, h0_45, h0_46, h0_47, h0_48, h0_49, h0_50, h0_51, h0_52, h0_53, h0_54, h0_55, h0_56, h0_57, h0_58, h0_59, h0_60, h0_61, h0_62, h0_63, h0_64, h0_65, h0_66, h0_67, h0_68, h0_69])), (hct, .inl (chct, 80, .inl fhct)), (hs, .inl (chs, 80, .inl fhs)), (ha, .inl (cha, 80, .inl fha)), (hb9, .inl (chb9, 80, .inl fhb9)), (hc9, .inl (chc9, 80, .inl fhc9)), (hbd, .inl (chbd, 12, .inl fhbd)), (hlt, .inl (chlt, 144, .inl fhlt)), (hrk, .inl (chrk, 12, .inl fhrk)), (hfi, .inl (chfi, 12, .inl fhfi)), (hla, .inl (chla, 12, .inl fhla))] [(chct, .boolean), (chs, .int), (cha, .int), (chb9, .int), (chc9, .int), (chbd, .int), (chlt, .boolean), (chrk, .int), (chfi, .int), (chla, .int)] sz)) (va_Qv (fun (_ : Unit) => True) (fun (_ : Unit) (t : State) => ∃ (n_h0_quarrelNow : Int32), ∃ (g_hct : Nat → Int32), ∃ (g_hbd : Nat → Int32), ∃ (g_hlt : Nat → Int32), ∃ (g_hrk : Nat → Int32), ∃ (g_hfi : Nat → Int32), ∃ (g_hla : Nat → Int32), ((0 : Int) ≤ (n_h0_quarrelNow).toInt ∧ (n_h0_quarrelNow).toInt ≤ (2 : Int)) ∧ (∀ j : Nat, ((0 : Int) ≤ (g_hbd j).toInt ∧ (g_hbd j).toInt ≤ (11 : Int))) ∧ va_P (dC, dI) vwCl [(h0, .inr (12, [h0_0, h0_1, h0_2, h0_3, .int mn, .ref hs, .ref ha, .ref hb9, .ref hc9, .ref hct, h0_10, .ref hbd, .ref hlt, .ref hrk, .ref hfi, .ref hla, .int n_h0_quarrelNow, h0_17, h0_18, h0_19, h0_20, h0_21, h0_22, h0_23, h0_24, h0_25, h0_26, h0_27, h0_28, h0_29, h0_30, h0_31, h0_32, h0_33, h0_34, h0_35, h0_36, h0_37, h0_38, h0_39, h0_40, h0_41, h0_42, h0_43, h0_44, h0_45, h0_46, h0_47, h0_48, h0_49, h0_50, h0_51, h0_52, h0_53, h0_54, h0_55, h0_56, h0_57, h0_58, h0_59, h0_60, h0_61, h0_62, h0_63, h0_64, h0_65, h0_66, h0_67, h0_68, h0_69])), (hct, .inl (chct, 80, .inl g_hct)), (hs, .inl (chs, 80, .inl fhs)), (ha, .inl (cha, 80, .inl fha)), (hb9, .inl (chb9, 80, .inl fhb9)), (hc9, .inl (chc9, 80, .inl fhc9)), (hbd, .inl (chbd, 12, .inl g_hbd)), (hlt, .inl (chlt, 144, .inl g_hlt)), (hrk, .inl (chrk, 12, .inl g_hrk)), (hfi, .inl (chfi, 12, .inl g_hfi)), (hla, .inl (chla, 12, .inl g_hla))] t.heap ∧ va_K (dC, dI) vwCl [] t ∧ va_D (va_A [(h0, .inr (12, [h0_0, h0_1, h0_2, h0_3, .int mn, .ref hs, .ref ha, .ref hb9, .ref hc9, .ref hct, h0_10, .ref hbd, .ref hlt, .ref hrk, .ref hfi, .ref hla, .int mq, h0_17, h0_18, h0_19, h0_20, h0_21, h0_22, h0_23, h0_24, h0_25, h0_26, h0_27, h0_28, h0_29, h0_30, h0_31, h0_32, h0_33, h0_34, h0_35, h0_36, h0_37, h0_38, h0_39, h0_40, h0_41, h0_42, h0_43, h0_44, h0_45, h0_46, h0_47, h0_48, h0_49, h0_50, h0_51, h0_52, h0_53, h0_54, h0_55, h0_56, h0_57, h0_58, h0_59, h0_60, h0_61, h0_62, h0_63, h0_64, h0_65, h0_66, h0_67, h0_68, h0_69])), (hct, .inl (chct, 80, .inl fhct)), (hs, .inl (chs, 80, .inl fhs)), (ha, .inl (cha, 80, .inl fha)), (hb9, .inl (chb9, 80, .inl fhb9)), (hc9, .inl (chc9, 80, .inl fhc9)), (hbd, .inl (chbd, 12, .inl fhbd)), (hlt, .inl (chlt, 144, .inl fhlt)), (hrk, .inl (chrk, 12, .inl fhrk)), (hfi, .inl (chfi, 12, .inl fhfi)), (hla, .inl (chla, 12, .inl fhla))] sz) [(h0, .inr (12, [h0_0, h0_1, h0_2, h0_3, .int mn, .ref hs, .ref ha, .ref hb9, .ref hc9, .ref hct, h0_10, .ref hbd, .ref hlt, .ref hrk, .ref hfi, .ref hla, .int n_h0_quarrelNow, h0_17, h0_18, h0_19, h0_20, h0_21, h0_22, h0_23, h0_24, h0_25, h0_26, h0_27, h0_28, h0_29, h0_30, h0_31, h0_32, h0_33, h0_34, h0_35, h0_36, h0_37, h0_38, h0_39, h0_40, h0_41, h0_42, h0_43, h0_44, h0_45, h0_46, h0_47, h0_48, h0_49, h0_50, h0_51, h0_52, h0_53, h0_54, h0_55, h0_56, h0_57, h0_58, h0_59, h0_60, h0_61, h0_62, h0_63, h0_64, h0_65, h0_66, h0_67, h0_68, h0_69])), (hct, .inl (chct, 80, .inl g_hct)), (hs, .inl (chs, 80, .inl fhs)), (ha, .inl (cha, 80, .inl fha)), (hb9, .inl (chb9, 80, .inl fhb9)), (hc9, .inl (chc9, 80, .inl fhc9)), (hbd, .inl (chbd, 12, .inl g_hbd)), (hlt, .inl (chlt, 144, .inl g_hlt)), (hrk, .inl (chrk, 12, .inl g_hrk)), (hfi, .inl (chfi, 12, .inl g_hfi)), (hla, .inl (chla, 12, .inl g_hla))]) (va_A [(h0, .inr (12, [h0_0, h0_1, h0_2, h0_3, .int mn, .ref hs, .ref ha, .ref hb9, .ref hc9, .ref hct, h0_10, .ref hbd, .ref hlt, .ref hrk, .ref hfi, .ref hla, .int mq, h0_17, h0_18, h0_19, h0_20, h0_21, h0_22, h0_23, h0_24, h0_25, h0_26, h0_27, h0_28, h0_29, h0_30, h0_31, h0_32, h0_33, h0_34, h0_35, h0_36, h0_37, h0_38, h0_39, h0_40, h0_41, h0_42, h0_43, h0_44, h0_45, h0_46, h0_47, h0_48, h0_49, h0_50, h0_51, h0_52, h0_53, h0_54, h0_55, h0_56, h0_57, h0_58, h0_59, h0_60, h0_61, h0_62, h0_63, h0_64, h0_65, h0_66, h0_67, h0_68, h0_69])), (hct, .inl (chct, 80, .inl fhct)), (hs, .inl (chs, 80, .inl fhs)), (ha, .inl (cha, 80, .inl fha)), (hb9, .inl (chb9, 80, .inl fhb9)), (hc9, .inl (chc9, 80, .inl fhc9)), (hbd, .inl (chbd, 12, .inl fhbd)), (hlt, .inl (chlt, 144, .inl fhlt)), (hrk, .inl (chrk, 12, .inl fhrk)), (hfi, .inl (chfi, 12, .inl fhfi)), (hla, .inl (chla, 12, .inl fhla))] sz)) 0 0 (va_A [(h0, .inr (12, [h0_0, h0_1, h0_2, h0_3, .int mn, .ref hs, .ref ha, .ref hb9, .ref hc9, .ref hct, h0_10, .ref hbd, .ref hlt, .ref hrk, .ref hfi, .ref hla, .int mq, h0_17, h0_18, h0_19, h0_20, h0_21, h0_22, h0_23, h0_24, h0_25, h0_26, h0_27, h0_28, h0_29, h0_30, h0_31, h0_32, h0_33, h0_34, h0_35, h0_36, h0_37, h0_38, h0_39, h0_40, h0_41, h0_42, h0_43, h0_44, h0_45, h0_46, h0_47, h0_48, h0_49, h0_50, h0_51, h0_52, h0_53, h0_54, h0_55, h0_56, h0_57, h0_58, h0_59, h0_60, h0_61, h0_62, h0_63, h0_64, h0_65, h0_66, h0_67, h0_68, h0_69])), (hct, .inl (chct, 80, .inl fhct)), (hs, .inl (chs, 80, .inl fhs)), (ha, .inl (cha, 80, .inl fha)), (hb9, .inl (chb9, 80, .inl fhb9)), (hc9, .inl (chc9, 80, .inl fhc9)), (hbd, .inl (chbd, 12, .inl fhbd)), (hlt, .inl (chlt, 144, .inl fhlt)), (hrk, .inl (chrk, 12, .inl fhrk)), (hfi, .inl (chfi, 12, .inl fhfi)), (hla, .inl (chla, 12, .inl fhla))] sz) := by
  refine Met.ofW (cc := cX12_know) (maxL := 5) (ret := none) (by decide) rfl ?_
  intro p e s m args below meth c s₁ B hml hv
  obtain ⟨rfl, hsz, hP, hK, hD0⟩ := hv
  have hx := B.exec
  have hb := B.bytes
  have hr := B.returns
  have hts := atoms_spec (ws := u_s_X12_know) B.pre
  have hown : s.vm.findClass RX12 = some m.cls := findClass_of_methodNamed B.named
  have hlocks := B.notSynchronized
  subst hsz
  have hD := hD0.self (sz := s.heap.size)
  generalize hAe : va_A [(h0, .inr (12, [h0_0, h0_1, h0_2, h0_3, .int mn, .ref hs, .ref ha, .ref hb9, .ref hc9, .ref hct, h0_10, .ref hbd, .ref hlt, .ref hrk, .ref hfi, .ref hla, .int mq, h0_17, h0_18, h0_19, h0_20, h0_21, h0_22, h0_23, h0_24, h0_25, h0_26, h0_27, h0_28, h0_29, h0_30, h0_31, h0_32, h0_33, h0_34, h0_35, h0_36, h0_37, h0_38, h0_39, h0_40, h0_41, h0_42, h0_43, h0_44, h0_45, h0_46, h0_47, h0_48, h0_49, h0_50, h0_51, h0_52, h0_53, h0_54, h0_55, h0_56, h0_57, h0_58, h0_59, h0_60, h0_61, h0_62, h0_63, h0_64, h0_65, h0_66, h0_67, h0_68, h0_69])), (hct, .inl (chct, 80, .inl fhct)), (hs, .inl (chs, 80, .inl fhs)), (ha, .inl (cha, 80, .inl fha)), (hb9, .inl (chb9, 80, .inl fhb9)), (hc9, .inl (chc9, 80, .inl fhc9)), (hbd, .inl (chbd, 12, .inl fhbd)), (hlt, .inl (chlt, 144, .inl fhlt)), (hrk, .inl (chrk, 12, .inl fhrk)), (hfi, .inl (chfi, 12, .inl fhfi)), (hla, .inl (chla, 12, .inl fhla))] s.heap.size = A at hD ⊢
  have hA : ∀ q : Nat, s.heap.size ≤ q → A q := fun q h => by rw [← hAe]; exact Or.inr h
  have hS : va_S A s.heap s.heap [] := va_S.rf
  have hP : va_P (dC, dI) vwCl [(h0, .inr (12, [h0_0, h0_1, h0_2, h0_3, .int mn, .ref hs, .ref ha, .ref hb9, .ref hc9, .ref hct, h0_10, .ref hbd, .ref hlt, .ref hrk, .ref hfi, .ref hla, .int mq, h0_17, h0_18, h0_19, h0_20, h0_21, h0_22, h0_23, h0_24, h0_25, h0_26, h0_27, h0_28, h0_29, h0_30, h0_31, h0_32, h0_33, h0_34, h0_35, h0_36, h0_37, h0_38, h0_39, h0_40, h0_41, h0_42, h0_43, h0_44, h0_45, h0_46, h0_47, h0_48, h0_49, h0_50, h0_51, h0_52, h0_53, h0_54, h0_55, h0_56, h0_57, h0_58, h0_59, h0_60, h0_61, h0_62, h0_63, h0_64, h0_65, h0_66, h0_67, h0_68, h0_69])), (hct, .inl (chct, 80, .inl fhct)), (hs, .inl (chs, 80, .inl fhs)), (ha, .inl (cha, 80, .inl fha)), (hb9, .inl (chb9, 80, .inl fhb9)), (hc9, .inl (chc9, 80, .inl fhc9)), (hbd, .inl (chbd, 12, .inl fhbd)), (hlt, .inl (chlt, 144, .inl fhlt)), (hrk, .inl (chrk, 12, .inl fhrk)), (hfi, .inl (chfi, 12, .inl fhfi)), (hla, .inl (chla, 12, .inl fhla))] s.heap := hP
  have w__fieldLink_RX12_154_ShellHeapModel_notes_I_ := hts (.fieldLink RX12 154 "ShellHeapModel" "notes" "I") (z_mc (z_ml z_m7))
  have hiX12 := show ∀ w ∈ u_ws RX12 TX12 70, w ∈ u_s_X12_know from fun w h => z_mc (z_mr (z_ml h))
  have w__fieldLink_RX12_25_ShellHeapModel_counts_Z_ := hts (.fieldLink RX12 25 "ShellHeapModel" "counts" "[Z") (z_mc (z_ml z_m8))
  have w__fieldLink_RX12_13_ShellHeapModel_sort_I_ := hts (.fieldLink RX12 13 "ShellHeapModel" "sort" "[I") (z_mc (z_ml z_m9))
  have w__fieldLink_RX12_32_ShellHeapModel_bedOf_I_ := hts (.fieldLink RX12 32 "ShellHeapModel" "bedOf" "[I") (z_mc (z_ml z_m10))
  have w__fieldLink_RX12_16_ShellHeapModel_noteA_I_ := hts (.fieldLink RX12 16 "ShellHeapModel" "noteA" "[I") (z_mc (z_ml z_m11))
  have w__fieldLink_RX12_19_ShellHeapModel_noteB_I_ := hts (.fieldLink RX12 19 "ShellHeapModel" "noteB" "[I") (z_mc (z_ml z_m12))
  have hl := lv_entry ([.ref h0, .int p1]) (n := 5) (Nat.le_of_ble_eq_true rfl)
  rw [lg_entry_eq]
  generalize (lg_sl ([.ref h0, .int p1]) ++ List.replicate (5 - (lg_sl ([.ref h0, .int p1])).length) Slot.unset).toArray = ls at hl ⊢
  have hl : lv_has ls 5 [(0, .ref h0), (1, .int p1)] := hl
  refine z_nameQ (fun QQ hQQ => ?_)
  refine lv_iconst (v := 0) hx hb dX12_know_0 (by decide) ?_
  refine lv_istore_n (lv' := [(2, .int 0), (0, .ref h0), (1, .int p1)]) hx hb dX12_know_1 rfl hl (by decide) rfl (fun ls hl => ?_)
  have loop_1 : ∀ (n_2 : Nat) (i_4 : Int32) (f_5 : Nat → Int32) (H : Heap) (locs : List Loc) (ls : Array Slot), (81 - (i_4).toInt).toNat < n_2 → (((0 : Int) ≤ (i_4).toInt ∧ (i_4).toInt ≤ (80 : Int))) → va_P (dC, dI) vwCl [(h0, .inr (12, [h0_0, h0_1, h0_2, h0_3, .int mn, .ref hs, .ref ha, .ref hb9, .ref hc9, .ref hct, h0_10, .ref hbd, .ref hlt, .ref hrk, .ref hfi, .ref hla, .int mq, h0_17, h0_18, h0_19, h0_20, h0_21, h0_22, h0_23, h0_24, h0_25, h0_26, h0_27, h0_28, h0_29, h0_30, h0_31, h0_32, h0_33, h0_34, h0_35, h0_36, h0_37, h0_38, h0_39, h0_40, h0_41, h0_42, h0_43, h0_44, h0_45, h0_46, h0_47, h0_48, h0_49, h0_50, h0_51, h0_52, h0_53, h0_54, h0_55, h0_56, h0_57, h0_58, h0_59, h0_60, h0_61, h0_62, h0_63, h0_64, h0_65, h0_66, h0_67, h0_68, h0_69])), (hct, .inl (chct, 80, .inl f_5)), (hs, .inl (chs, 80, .inl fhs)), (ha, .inl (cha, 80, .inl fha)), (hb9, .inl (chb9, 80, .inl fhb9)), (hc9, .inl (chc9, 80, .inl fhc9)), (hbd, .inl (chbd, 12, .inl fhbd)), (hlt, .inl (chlt, 144, .inl fhlt)), (hrk, .inl (chrk, 12, .inl fhrk)), (hfi, .inl (chfi, 12, .inl fhfi)), (hla, .inl (chla, 12, .inl fhla))] H → va_D A [(h0, .inr (12, [h0_0, h0_1, h0_2, h0_3, .int mn, .ref hs, .ref ha, .ref hb9, .ref hc9, .ref hct, h0_10, .ref hbd, .ref hlt, .ref hrk, .ref hfi, .ref hla, .int mq, h0_17, h0_18, h0_19, h0_20, h0_21, h0_22, h0_23, h0_24, h0_25, h0_26, h0_27, h0_28, h0_29, h0_30, h0_31, h0_32, h0_33, h0_34, h0_35, h0_36, h0_37, h0_38, h0_39, h0_40, h0_41, h0_42, h0_43, h0_44, h0_45, h0_46, h0_47, h0_48, h0_49, h0_50, h0_51, h0_52, h0_53, h0_54, h0_55, h0_56, h0_57, h0_58, h0_59, h0_60, h0_61, h0_62, h0_63, h0_64, h0_65, h0_66, h0_67, h0_68, h0_69])), (hct, .inl (chct, 80, .inl f_5)), (hs, .inl (chs, 80, .inl fhs)), (ha, .inl (cha, 80, .inl fha)), (hb9, .inl (chb9, 80, .inl fhb9)), (hc9, .inl (chc9, 80, .inl fhc9)), (hbd, .inl (chbd, 12, .inl fhbd)), (hlt, .inl (chlt, 144, .inl fhlt)), (hrk, .inl (chrk, 12, .inl fhrk)), (hfi, .inl (chfi, 12, .inl fhfi)), (hla, .inl (chla, 12, .inl fhla))] → va_S A s.heap H locs → lv_has ls 5 [(2, .int i_4), (0, .ref h0), (1, .int p1)] → W p l e ({ frames := 1, cells := 0, slots := 0, locals := 23 } : Room) s m ([.ref h0, .int p1] : List Value).toArray below meth c H locs 0 0 QQ (F0 m 2 ls []) := by
    intro n_2
    induction n_2 with
    | zero => intro i_4 f_5 H locs ls hm; exact absurd hm (Nat.not_lt_zero _)
    | succ n_2 ih_3 =>
      intro i_4 f_5 H locs ls hm hF_6 hP hD hS hl
      refine lv_iload_n hx hb dX12_know_2 rfl (lv_at hl 0 rfl) ?_
      refine lv_bipush (v := 80) hx hb dX12_know_3 (by decide) ?_
      refine lv_icmp_ge (tgt := 30) hx hb dX12_know_5 (by decide) (fun c_7 => ?_) (fun c_7 => ?_)
      · have k_8 : (80 : Int) ≤ (i_4).toInt := z_le c_7
        obtain rfl : i_4 = 80 := z_eq' (show (i_4).toInt = (80 : Int) by omega)
        have kl_9 : (80 : Int32).toInt = (80 : Int) := by decide
        refine lv_iload_n hx hb dX12_know_30 rfl (lv_at hl 2 rfl) ?_
        refine lv_iconst (v := 1) hx hb dX12_know_31 (by decide) ?_
        refine lv_isub hx hb dX12_know_32 ?_
        refine lv_topi (fun z_10 ez_10 => ?_)
        have kz_10 : (z_10).toInt = (p1).toInt - (1 : Int) := by rw [ez_10]; exact z_sub (a := (p1).toInt) (b := (1 : Int)) rfl rfl (z_mlo hB_p1.1 (by decide)) (z_mhi hB_p1.2 (by decide))
        refine lv_istore_n (lv' := [(2, .int z_10), (0, .ref h0), (1, .int p1)]) hx hb dX12_know_33 rfl hl (by decide) rfl (fun ls hl => ?_)
        have loop_11 : ∀ (n_12 : Nat) (i_14 : Int32) (f_15 : Nat → Int32) (H : Heap) (locs : List Loc) (ls : Array Slot), ((i_14).toInt + 2).toNat < n_12 → (((-1 : Int) ≤ (i_14).toInt ∧ (i_14).toInt ≤ (79 : Int))) → va_P (dC, dI) vwCl [(h0, .inr (12, [h0_0, h0_1, h0_2, h0_3, .int mn, .ref hs, .ref ha, .ref hb9, .ref hc9, .ref hct, h0_10, .ref hbd, .ref hlt, .ref hrk, .ref hfi, .ref hla, .int mq, h0_17, h0_18, h0_19, h0_20, h0_21, h0_22, h0_23, h0_24, h0_25, h0_26, h0_27, h0_28, h0_29, h0_30, h0_31, h0_32, h0_33, h0_34, h0_35, h0_36, h0_37, h0_38, h0_39, h0_40, h0_41, h0_42, h0_43, h0_44, h0_45, h0_46, h0_47, h0_48, h0_49, h0_50, h0_51, h0_52, h0_53, h0_54, h0_55, h0_56, h0_57, h0_58, h0_59, h0_60, h0_61, h0_62, h0_63, h0_64, h0_65, h0_66, h0_67, h0_68, h0_69])), (hct, .inl (chct, 80, .inl f_15)), (hs, .inl (chs, 80, .inl fhs)), (ha, .inl (cha, 80, .inl fha)), (hb9, .inl (chb9, 80, .inl fhb9)), (hc9, .inl (chc9, 80, .inl fhc9)), (hbd, .inl (chbd, 12, .inl fhbd)), (hlt, .inl (chlt, 144, .inl fhlt)), (hrk, .inl (chrk, 12, .inl fhrk)), (hfi, .inl (chfi, 12, .inl fhfi)), (hla, .inl (chla, 12, .inl fhla))] H → va_D A [(h0, .inr (12, [h0_0, h0_1, h0_2, h0_3, .int mn, .ref hs, .ref ha, .ref hb9, .ref hc9, .ref hct, h0_10, .ref hbd, .ref hlt, .ref hrk, .ref hfi, .ref hla, .int mq, h0_17, h0_18, h0_19, h0_20, h0_21, h0_22, h0_23, h0_24, h0_25, h0_26, h0_27, h0_28, h0_29, h0_30, h0_31, h0_32, h0_33, h0_34, h0_35, h0_36, h0_37, h0_38, h0_39, h0_40, h0_41, h0_42, h0_43, h0_44, h0_45, h0_46, h0_47, h0_48, h0_49, h0_50, h0_51, h0_52, h0_53, h0_54, h0_55, h0_56, h0_57, h0_58, h0_59, h0_60, h0_61, h0_62, h0_63, h0_64, h0_65, h0_66, h0_67, h0_68, h0_69])), (hct, .inl (chct, 80, .inl f_15)), (hs, .inl (chs, 80, .inl fhs)), (ha, .inl (cha, 80, .inl fha)), (hb9, .inl (chb9, 80, .inl fhb9)), (hc9, .inl (chc9, 80, .inl fhc9)), (hbd, .inl (chbd, 12, .inl fhbd)), (hlt, .inl (chlt, 144, .inl fhlt)), (hrk, .inl (chrk, 12, .inl fhrk)), (hfi, .inl (chfi, 12, .inl fhfi)), (hla, .inl (chla, 12, .inl fhla))] → va_S A s.heap H locs → lv_has ls 5 [(2, .int i_14), (0, .ref h0), (1, .int p1)] → W p l e ({ frames := 1, cells := 0, slots := 0, locals := 23 } : Room) s m ([.ref h0, .int p1] : List Value).toArray below meth c H locs 0 0 QQ (F0 m 34 ls []) := by
          intro n_12
          induction n_12 with
          | zero => intro i_14 f_15 H locs ls hm; exact absurd hm (Nat.not_lt_zero _)
          | succ n_12 ih_13 =>
            intro i_14 f_15 H locs ls hm hF_16 hP hD hS hl
            refine lv_iload_n hx hb dX12_know_34 rfl (lv_at hl 0 rfl) ?_
            refine lv_if_lt (tgt := 76) hx hb dX12_know_35 (by decide) (fun c_17 => ?_) (fun c_17 => ?_)
            · have k_18 : (i_14).toInt < (0 : Int) := z_lt c_17
              obtain rfl : i_14 = (-1) := z_eq' (show (i_14).toInt = (-1 : Int) by omega)
              have kl_19 : ((-1) : Int32).toInt = (-1 : Int) := by decide
              refine lv_iconst (v := 0) hx hb dX12_know_76 (by decide) ?_
              refine lv_istore_n (lv' := [(2, .int 0), (0, .ref h0), (1, .int p1)]) hx hb dX12_know_77 rfl hl (by decide) rfl (fun ls hl => ?_)
              have loop_20 : ∀ (n_21 : Nat) (i_23 : Int32) (f_24 : Nat → Int32) (H : Heap) (locs : List Loc) (ls : Array Slot), (13 - (i_23).toInt).toNat < n_21 → (((0 : Int) ≤ (i_23).toInt ∧ (i_23).toInt ≤ (12 : Int))) → (∀ j : Nat, ((0 : Int) ≤ (f_24 j).toInt ∧ (f_24 j).toInt ≤ (11 : Int))) → va_P (dC, dI) vwCl [(h0, .inr (12, [h0_0, h0_1, h0_2, h0_3, .int mn, .ref hs, .ref ha, .ref hb9, .ref hc9, .ref hct, h0_10, .ref hbd, .ref hlt, .ref hrk, .ref hfi, .ref hla, .int mq, h0_17, h0_18, h0_19, h0_20, h0_21, h0_22, h0_23, h0_24, h0_25, h0_26, h0_27, h0_28, h0_29, h0_30, h0_31, h0_32, h0_33, h0_34, h0_35, h0_36, h0_37, h0_38, h0_39, h0_40, h0_41, h0_42, h0_43, h0_44, h0_45, h0_46, h0_47, h0_48, h0_49, h0_50, h0_51, h0_52, h0_53, h0_54, h0_55, h0_56, h0_57, h0_58, h0_59, h0_60, h0_61, h0_62, h0_63, h0_64, h0_65, h0_66, h0_67, h0_68, h0_69])), (hct, .inl (chct, 80, .inl f_15)), (hs, .inl (chs, 80, .inl fhs)), (ha, .inl (cha, 80, .inl fha)), (hb9, .inl (chb9, 80, .inl fhb9)), (hc9, .inl (chc9, 80, .inl fhc9)), (hbd, .inl (chbd, 12, .inl f_24)), (hlt, .inl (chlt, 144, .inl fhlt)), (hrk, .inl (chrk, 12, .inl fhrk)), (hfi, .inl (chfi, 12, .inl fhfi)), (hla, .inl (chla, 12, .inl fhla))] H → va_D A [(h0, .inr (12, [h0_0, h0_1, h0_2, h0_3, .int mn, .ref hs, .ref ha, .ref hb9, .ref hc9, .ref hct, h0_10, .ref hbd, .ref hlt, .ref hrk, .ref hfi, .ref hla, .int mq, h0_17, h0_18, h0_19, h0_20, h0_21, h0_22, h0_23, h0_24, h0_25, h0_26, h0_27, h0_28, h0_29, h0_30, h0_31, h0_32, h0_33, h0_34, h0_35, h0_36, h0_37, h0_38, h0_39, h0_40, h0_41, h0_42, h0_43, h0_44, h0_45, h0_46, h0_47, h0_48, h0_49, h0_50, h0_51, h0_52, h0_53, h0_54, h0_55, h0_56, h0_57, h0_58, h0_59, h0_60, h0_61, h0_62, h0_63, h0_64, h0_65, h0_66, h0_67, h0_68, h0_69])), (hct, .inl (chct, 80, .inl f_15)), (hs, .inl (chs, 80, .inl fhs)), (ha, .inl (cha, 80, .inl fha)), (hb9, .inl (chb9, 80, .inl fhb9)), (hc9, .inl (chc9, 80, .inl fhc9)), (hbd, .inl (chbd, 12, .inl f_24)), (hlt, .inl (chlt, 144, .inl fhlt)), (hrk, .inl (chrk, 12, .inl fhrk)), (hfi, .inl (chfi, 12, .inl fhfi)), (hla, .inl (chla, 12, .inl fhla))] → va_S A s.heap H locs → lv_has ls 5 [(2, .int i_23), (0, .ref h0), (1, .int p1)] → W p l e ({ frames := 1, cells := 0, slots := 0, locals := 23 } : Room) s m ([.ref h0, .int p1] : List Value).toArray below meth c H locs 0 0 QQ (F0 m 78 ls []) := by
                intro n_21
                induction n_21 with
                | zero => intro i_23 f_24 H locs ls hm; exact absurd hm (Nat.not_lt_zero _)
                | succ n_21 ih_22 =>
                  intro i_23 f_24 H locs ls hm hF_25 hI_f_24 hP hD hS hl
                  refine lv_iload_n hx hb dX12_know_78 rfl (lv_at hl 0 rfl) ?_
                  refine lv_bipush (v := 12) hx hb dX12_know_79 (by decide) ?_
                  refine lv_icmp_ge (tgt := 97) hx hb dX12_know_81 (by decide) (fun c_26 => ?_) (fun c_26 => ?_)
                  · have k_27 : (12 : Int) ≤ (i_23).toInt := z_le c_26
                    obtain rfl : i_23 = 12 := z_eq' (show (i_23).toInt = (12 : Int) by omega)
                    have kl_28 : (12 : Int32).toInt = (12 : Int) := by decide
                    refine lv_iconst (v := 1) hx hb dX12_know_97 (by decide) ?_
                    refine lv_istore_n (lv' := [(2, .int 1), (0, .ref h0), (1, .int p1)]) hx hb dX12_know_98 rfl hl (by decide) rfl (fun ls hl => ?_)
                    have loop_29 : ∀ (n_30 : Nat) (more_32 : Int32) (f_33 : Nat → Int32) (H : Heap) (locs : List Loc) (ls : Array Slot), (2 * z_sm f_33 + (more_32).toInt).toNat < n_30 → (((0 : Int) ≤ (more_32).toInt ∧ (more_32).toInt ≤ (1 : Int))) → (∀ j : Nat, ((0 : Int) ≤ (f_33 j).toInt ∧ (f_33 j).toInt ≤ (11 : Int))) → ((0 : Int) ≤ z_sm f_33) → va_P (dC, dI) vwCl [(h0, .inr (12, [h0_0, h0_1, h0_2, h0_3, .int mn, .ref hs, .ref ha, .ref hb9, .ref hc9, .ref hct, h0_10, .ref hbd, .ref hlt, .ref hrk, .ref hfi, .ref hla, .int mq, h0_17, h0_18, h0_19, h0_20, h0_21, h0_22, h0_23, h0_24, h0_25, h0_26, h0_27, h0_28, h0_29, h0_30, h0_31, h0_32, h0_33, h0_34, h0_35, h0_36, h0_37, h0_38, h0_39, h0_40, h0_41, h0_42, h0_43, h0_44, h0_45, h0_46, h0_47, h0_48, h0_49, h0_50, h0_51, h0_52, h0_53, h0_54, h0_55, h0_56, h0_57, h0_58, h0_59, h0_60, h0_61, h0_62, h0_63, h0_64, h0_65, h0_66, h0_67, h0_68, h0_69])), (hct, .inl (chct, 80, .inl f_15)), (hs, .inl (chs, 80, .inl fhs)), (ha, .inl (cha, 80, .inl fha)), (hb9, .inl (chb9, 80, .inl fhb9)), (hc9, .inl (chc9, 80, .inl fhc9)), (hbd, .inl (chbd, 12, .inl f_33)), (hlt, .inl (chlt, 144, .inl fhlt)), (hrk, .inl (chrk, 12, .inl fhrk)), (hfi, .inl (chfi, 12, .inl fhfi)), (hla, .inl (chla, 12, .inl fhla))] H → va_D A [(h0, .inr (12, [h0_0, h0_1, h0_2, h0_3, .int mn, .ref hs, .ref ha, .ref hb9, .ref hc9, .ref hct, h0_10, .ref hbd, .ref hlt, .ref hrk, .ref hfi, .ref hla, .int mq, h0_17, h0_18, h0_19, h0_20, h0_21, h0_22, h0_23, h0_24, h0_25, h0_26, h0_27, h0_28, h0_29, h0_30, h0_31, h0_32, h0_33, h0_34, h0_35, h0_36, h0_37, h0_38, h0_39, h0_40, h0_41, h0_42, h0_43, h0_44, h0_45, h0_46, h0_47, h0_48, h0_49, h0_50, h0_51, h0_52, h0_53, h0_54, h0_55, h0_56, h0_57, h0_58, h0_59, h0_60, h0_61, h0_62, h0_63, h0_64, h0_65, h0_66, h0_67, h0_68, h0_69])), (hct, .inl (chct, 80, .inl f_15)), (hs, .inl (chs, 80, .inl fhs)), (ha, .inl (cha, 80, .inl fha)), (hb9, .inl (chb9, 80, .inl fhb9)), (hc9, .inl (chc9, 80, .inl fhc9)), (hbd, .inl (chbd, 12, .inl f_33)), (hlt, .inl (chlt, 144, .inl fhlt)), (hrk, .inl (chrk, 12, .inl fhrk)), (hfi, .inl (chfi, 12, .inl fhfi)), (hla, .inl (chla, 12, .inl fhla))] → va_S A s.heap H locs → lv_has ls 5 [(2, .int more_32), (0, .ref h0), (1, .int p1)] → W p l e ({ frames := 1, cells := 0, slots := 0, locals := 23 } : Room) s m ([.ref h0, .int p1] : List Value).toArray below meth c H locs 0 0 QQ (F0 m 99 ls []) := by
                      intro n_30
                      induction n_30 with
                      | zero => intro more_32 f_33 H locs ls hm; exact absurd hm (Nat.not_lt_zero _)
                      | succ n_30 ih_31 =>
                        intro more_32 f_33 H locs ls hm hF_34 hI_f_33 hF_35 hP hD hS hl
                        refine lv_iload_n hx hb dX12_know_99 rfl (lv_at hl 0 rfl) ?_
                        refine lv_if_eq (tgt := 251) hx hb dX12_know_100 (by decide) (fun c_36 => ?_) (fun c_36 => ?_)
                        · have k_37 : (more_32).toInt = (0 : Int) := z_eq c_36
                          obtain rfl : more_32 = 0 := z_eq' (show (more_32).toInt = (0 : Int) by omega)
                          have kl_38 : (0 : Int32).toInt = (0 : Int) := by decide
                          refine lv_aload_n hx hb dX12_know_251 rfl (lv_at hl 1 rfl) ?_
                          obtain ⟨hPc, hDc, hFc⟩ := z_sub3 (ws' := [(h0, .inr (12, [h0_0, h0_1, h0_2, h0_3, .int mn, .ref hs, .ref ha, .ref hb9, .ref hc9, .ref hct, h0_10, .ref hbd, .ref hlt, .ref hrk, .ref hfi, .ref hla, .int mq, h0_17, h0_18, h0_19, h0_20, h0_21, h0_22, h0_23, h0_24, h0_25, h0_26, h0_27, h0_28, h0_29, h0_30, h0_31, h0_32, h0_33, h0_34, h0_35, h0_36, h0_37, h0_38, h0_39, h0_40, h0_41, h0_42, h0_43, h0_44, h0_45, h0_46, h0_47, h0_48, h0_49, h0_50, h0_51, h0_52, h0_53, h0_54, h0_55, h0_56, h0_57, h0_58, h0_59, h0_60, h0_61, h0_62, h0_63, h0_64, h0_65, h0_66, h0_67, h0_68, h0_69])), (hct, .inl (chct, 80, .inl f_15)), (hs, .inl (chs, 80, .inl fhs)), (ha, .inl (cha, 80, .inl fha)), (hb9, .inl (chb9, 80, .inl fhb9)), (hbd, .inl (chbd, 12, .inl f_33)), (hlt, .inl (chlt, 144, .inl fhlt)), (hrk, .inl (chrk, 12, .inl fhrk))]) hP hD hS hA [0, 1, 2, 3, 4, 6, 7, 8] (by decide) rfl
                          have hKc := hK.sub (tys' := [(chct, .boolean), (chs, .int), (cha, .int), (chb9, .int), (chbd, .int), (chlt, .boolean), (chrk, .int)]) [0, 1, 2, 3, 5, 6, 7] rfl
                          refine va_callv (va_runV (As := []) (rest := []) ⟨hx, hb, hml, hown, hts⟩ (s_X12_orders l dC dI H.size h0 h0_0 h0_1 h0_2 h0_3 mn hs ha hb9 (.ref hc9) hct h0_10 hbd hlt hrk (.ref hfi) (.ref hla) mq h0_17 h0_18 h0_19 h0_20 h0_21 h0_22 h0_23 h0_24 h0_25 h0_26 h0_27 h0_28 h0_29 h0_30 h0_31 h0_32 h0_33 h0_34 h0_35 h0_36 h0_37 h0_38 h0_39 h0_40 h0_41 h0_42 h0_43 h0_44 h0_45 h0_46 h0_47 h0_48 h0_49 h0_50 h0_51 h0_52 h0_53 h0_54 h0_55 h0_56 h0_57 h0_58 h0_59 h0_60 h0_61 h0_62 h0_63 h0_64 h0_65 h0_66 h0_67 h0_68 h0_69 chct f_15 chs fhs cha fha chb9 fhb9 chbd f_33 chlt fhlt chrk fhrk hB_mq hB_mn hI_ha hI_f_33 hR) (cwV 0 hts gw_s_X12_know_s_X12_orders_161 rfl rfl rfl (by decide +kernel) ⟨Nat.le_of_ble_eq_true rfl, Nat.le_of_ble_eq_true rfl⟩) ⟨z_blind, va_recv hKc hPc (ci := 12) (q0 := 0) rfl rfl, z_pre hPc hKc hDc⟩ rfl rfl hl.1 rfl (lv_room (Nat.le_of_ble_eq_true rfl)) dX12_know_252 ⟨Nat.le_of_ble_eq_true rfl, Nat.le_of_ble_eq_true rfl⟩) hS (fun q _ h => hFc q h) hFc (fun u t H_39 locs ht hvm hw_41 hB hz1 hk1 hS => ?_)
                          obtain ⟨n_h0_quarrelNow_42, g_hlt_43, g_hrk_44, hp_45, hP1, hK1, hD1⟩ := hB
                          rw [ht] at hP1
                          have hK1 := va_K.moved hvm.symm hK1
                          obtain ⟨hP, hD⟩ := z_ap_3 (va_join (wr := [(hc9, .inl (chc9, 80, .inl fhc9)), (hfi, .inl (chfi, 12, .inl fhfi)), (hla, .inl (chla, 12, .inl fhla))]) hP hD [0, 1, 2, 3, 4, 6, 7, 8] [5, 9, 10] rfl rfl (by decide) (by decide) hk1 hFc hP1 hD1)
                          clear hPc hDc hKc
                          refine lv_aload_n hx hb dX12_know_255 rfl (lv_at hl 1 rfl) ?_
                          obtain ⟨hPc, hDc, hFc⟩ := z_sub3 (ws' := [(h0, .inr (12, [h0_0, h0_1, h0_2, h0_3, .int mn, .ref hs, .ref ha, .ref hb9, .ref hc9, .ref hct, h0_10, .ref hbd, .ref hlt, .ref hrk, .ref hfi, .ref hla, .int n_h0_quarrelNow_42, h0_17, h0_18, h0_19, h0_20, h0_21, h0_22, h0_23, h0_24, h0_25, h0_26, h0_27, h0_28, h0_29, h0_30, h0_31, h0_32, h0_33, h0_34, h0_35, h0_36, h0_37, h0_38, h0_39, h0_40, h0_41, h0_42, h0_43, h0_44, h0_45, h0_46, h0_47, h0_48, h0_49, h0_50, h0_51, h0_52, h0_53, h0_54, h0_55, h0_56, h0_57, h0_58, h0_59, h0_60, h0_61, h0_62, h0_63, h0_64, h0_65, h0_66, h0_67, h0_68, h0_69])), (hct, .inl (chct, 80, .inl f_15)), (hs, .inl (chs, 80, .inl fhs)), (ha, .inl (cha, 80, .inl fha)), (hb9, .inl (chb9, 80, .inl fhb9)), (hc9, .inl (chc9, 80, .inl fhc9)), (hbd, .inl (chbd, 12, .inl f_33)), (hlt, .inl (chlt, 144, .inl g_hlt_43)), (hfi, .inl (chfi, 12, .inl fhfi)), (hla, .inl (chla, 12, .inl fhla))]) hP hD hS hA [3, 4, 5, 6, 7, 0, 8, 9, 1, 2] (by decide) rfl
                          have hKc := hK.sub (tys' := [(chct, .boolean), (chs, .int), (cha, .int), (chb9, .int), (chc9, .int), (chbd, .int), (chlt, .boolean), (chfi, .int), (chla, .int)]) [0, 1, 2, 3, 4, 5, 6, 8, 9] rfl
                          refine va_callv (va_runV (As := []) (rest := []) ⟨hx, hb, hml, hown, hts⟩ (s_X12_spans l dC dI H_39.size h0 h0_0 h0_1 h0_2 h0_3 mn hs ha hb9 hc9 hct h0_10 hbd hlt (.ref hrk) hfi hla n_h0_quarrelNow_42 h0_17 h0_18 h0_19 h0_20 h0_21 h0_22 h0_23 h0_24 h0_25 h0_26 h0_27 h0_28 h0_29 h0_30 h0_31 h0_32 h0_33 h0_34 h0_35 h0_36 h0_37 h0_38 h0_39 h0_40 h0_41 h0_42 h0_43 h0_44 h0_45 h0_46 h0_47 h0_48 h0_49 h0_50 h0_51 h0_52 h0_53 h0_54 h0_55 h0_56 h0_57 h0_58 h0_59 h0_60 h0_61 h0_62 h0_63 h0_64 h0_65 h0_66 h0_67 h0_68 h0_69 chct f_15 chs fhs cha fha chb9 fhb9 chc9 fhc9 chbd f_33 chlt g_hlt_43 chfi fhfi chla fhla hp_45 hB_mn hI_ha hI_f_33 hR) (cwV 0 hts gw_s_X12_know_s_X12_spans_164 rfl rfl rfl (by decide +kernel) ⟨Nat.le_of_ble_eq_true rfl, Nat.le_of_ble_eq_true rfl⟩) ⟨z_blind, va_recv hKc hPc (ci := 12) (q0 := 0) rfl rfl, z_pre hPc hKc hDc⟩ rfl rfl hl.1 rfl (lv_room (Nat.le_of_ble_eq_true rfl)) dX12_know_256 ⟨Nat.le_of_ble_eq_true rfl, Nat.le_of_ble_eq_true rfl⟩) hS (fun q _ h => hFc q h) hFc (fun u t H_46 locs ht hvm hw_48 hB hz1 hk1 hS => ?_)
                          obtain ⟨n_h0_quarrelNow_49, g_hfi_50, g_hla_51, hp_52, hP1, hK1, hD1⟩ := hB
                          rw [ht] at hP1
                          have hK1 := va_K.moved hvm.symm hK1
                          obtain ⟨hP, hD⟩ := z_ap_1 (va_join (wr := [(hrk, .inl (chrk, 12, .inl g_hrk_44))]) hP hD [3, 4, 5, 6, 7, 0, 8, 9, 1, 2] [10] rfl rfl (by decide) (by decide) hk1 hFc hP1 hD1)
                          clear hPc hDc hKc
                          refine z_backQ hQQ ?_
                          obtain ⟨hP9, hD9⟩ := z_sub2 (ws' := [(h0, .inr (12, [h0_0, h0_1, h0_2, h0_3, .int mn, .ref hs, .ref ha, .ref hb9, .ref hc9, .ref hct, h0_10, .ref hbd, .ref hlt, .ref hrk, .ref hfi, .ref hla, .int n_h0_quarrelNow_49, h0_17, h0_18, h0_19, h0_20, h0_21, h0_22, h0_23, h0_24, h0_25, h0_26, h0_27, h0_28, h0_29, h0_30, h0_31, h0_32, h0_33, h0_34, h0_35, h0_36, h0_37, h0_38, h0_39, h0_40, h0_41, h0_42, h0_43, h0_44, h0_45, h0_46, h0_47, h0_48, h0_49, h0_50, h0_51, h0_52, h0_53, h0_54, h0_55, h0_56, h0_57, h0_58, h0_59, h0_60, h0_61, h0_62, h0_63, h0_64, h0_65, h0_66, h0_67, h0_68, h0_69])), (hct, .inl (chct, 80, .inl f_15)), (hs, .inl (chs, 80, .inl fhs)), (ha, .inl (cha, 80, .inl fha)), (hb9, .inl (chb9, 80, .inl fhb9)), (hc9, .inl (chc9, 80, .inl fhc9)), (hbd, .inl (chbd, 12, .inl f_33)), (hlt, .inl (chlt, 144, .inl g_hlt_43)), (hrk, .inl (chrk, 12, .inl g_hrk_44)), (hfi, .inl (chfi, 12, .inl g_hfi_50)), (hla, .inl (chla, 12, .inl g_hla_51))]) hP hD [1, 2, 3, 4, 5, 6, 7, 8, 0, 9, 10] (by decide) rfl
                          have hK9 := hK.sub (tys' := []) [] rfl
                          refine W.widen (k := 0) (n := 0) (Nat.le_of_ble_eq_true rfl) (Nat.le_of_ble_eq_true rfl) ?_
                          exact W.vret hx hb hr (fun t ht hW => ⟨⟨(), rfl, trivial, ⟨n_h0_quarrelNow_49, f_15, f_33, g_hlt_43, g_hrk_44, g_hfi_50, g_hla_51, hp_52, hI_f_33, by rw [ht]; exact hP9, va_K.moved hW.alike hK9, hD9⟩⟩, hS.F ht⟩) hS.2.2 dX12_know_259
                        · have k_53 : (more_32).toInt ≠ (0 : Int) := z_ne c_36
                          obtain rfl : more_32 = 1 := z_eq' (show (more_32).toInt = (1 : Int) by omega)
                          have kl_54 : (1 : Int32).toInt = (1 : Int) := by decide
                          refine lv_iconst (v := 0) hx hb dX12_know_103 (by decide) ?_
                          refine lv_istore_n (lv' := [(2, .int 0), (0, .ref h0), (1, .int p1)]) hx hb dX12_know_104 rfl hl (by decide) rfl (fun ls hl => ?_)
                          refine lv_iconst (v := 0) hx hb dX12_know_105 (by decide) ?_
                          refine lv_istore_n (lv' := [(3, .int 0), (2, .int 0), (0, .ref h0), (1, .int p1)]) hx hb dX12_know_106 rfl hl (by decide) rfl (fun ls hl => ?_)
                          have loop_55 : ∀ (n_56 : Nat) (k_58 : Int32) (more_59 : Int32) (f_60 : Nat → Int32) (H : Heap) (locs : List Loc) (ls : Array Slot), (81 - (k_58).toInt).toNat < n_56 → (((0 : Int) ≤ (k_58).toInt ∧ (k_58).toInt ≤ (80 : Int))) → (((0 : Int) ≤ (more_59).toInt ∧ (more_59).toInt ≤ (1 : Int))) → (∀ j : Nat, ((0 : Int) ≤ (f_60 j).toInt ∧ (f_60 j).toInt ≤ (11 : Int))) → ((0 : Int) ≤ z_sm f_60) → (z_sm f_60 + (more_59).toInt ≤ z_sm f_33) → va_P (dC, dI) vwCl [(h0, .inr (12, [h0_0, h0_1, h0_2, h0_3, .int mn, .ref hs, .ref ha, .ref hb9, .ref hc9, .ref hct, h0_10, .ref hbd, .ref hlt, .ref hrk, .ref hfi, .ref hla, .int mq, h0_17, h0_18, h0_19, h0_20, h0_21, h0_22, h0_23, h0_24, h0_25, h0_26, h0_27, h0_28, h0_29, h0_30, h0_31, h0_32, h0_33, h0_34, h0_35, h0_36, h0_37, h0_38, h0_39, h0_40, h0_41, h0_42, h0_43, h0_44, h0_45, h0_46, h0_47, h0_48, h0_49, h0_50, h0_51, h0_52, h0_53, h0_54, h0_55, h0_56, h0_57, h0_58, h0_59, h0_60, h0_61, h0_62, h0_63, h0_64, h0_65, h0_66, h0_67, h0_68, h0_69])), (hct, .inl (chct, 80, .inl f_15)), (hs, .inl (chs, 80, .inl fhs)), (ha, .inl (cha, 80, .inl fha)), (hb9, .inl (chb9, 80, .inl fhb9)), (hc9, .inl (chc9, 80, .inl fhc9)), (hbd, .inl (chbd, 12, .inl f_60)), (hlt, .inl (chlt, 144, .inl fhlt)), (hrk, .inl (chrk, 12, .inl fhrk)), (hfi, .inl (chfi, 12, .inl fhfi)), (hla, .inl (chla, 12, .inl fhla))] H → va_D A [(h0, .inr (12, [h0_0, h0_1, h0_2, h0_3, .int mn, .ref hs, .ref ha, .ref hb9, .ref hc9, .ref hct, h0_10, .ref hbd, .ref hlt, .ref hrk, .ref hfi, .ref hla, .int mq, h0_17, h0_18, h0_19, h0_20, h0_21, h0_22, h0_23, h0_24, h0_25, h0_26, h0_27, h0_28, h0_29, h0_30, h0_31, h0_32, h0_33, h0_34, h0_35, h0_36, h0_37, h0_38, h0_39, h0_40, h0_41, h0_42, h0_43, h0_44, h0_45, h0_46, h0_47, h0_48, h0_49, h0_50, h0_51, h0_52, h0_53, h0_54, h0_55, h0_56, h0_57, h0_58, h0_59, h0_60, h0_61, h0_62, h0_63, h0_64, h0_65, h0_66, h0_67, h0_68, h0_69])), (hct, .inl (chct, 80, .inl f_15)), (hs, .inl (chs, 80, .inl fhs)), (ha, .inl (cha, 80, .inl fha)), (hb9, .inl (chb9, 80, .inl fhb9)), (hc9, .inl (chc9, 80, .inl fhc9)), (hbd, .inl (chbd, 12, .inl f_60)), (hlt, .inl (chlt, 144, .inl fhlt)), (hrk, .inl (chrk, 12, .inl fhrk)), (hfi, .inl (chfi, 12, .inl fhfi)), (hla, .inl (chla, 12, .inl fhla))] → va_S A s.heap H locs → lv_has ls 5 [(3, .int k_58), (2, .int more_59), (0, .ref h0), (1, .int p1)] → W p l e ({ frames := 1, cells := 0, slots := 0, locals := 23 } : Room) s m ([.ref h0, .int p1] : List Value).toArray below meth c H locs 0 0 QQ (F0 m 107 ls []) := by
                            intro n_56
                            induction n_56 with
                            | zero => intro k_58 more_59 f_60 H locs ls hm; exact absurd hm (Nat.not_lt_zero _)
                            | succ n_56 ih_57 =>
                              intro k_58 more_59 f_60 H locs ls hm hF_61 hF_62 hI_f_60 hF_63 hF_64 hP hD hS hl
                              refine lv_iload_n hx hb dX12_know_107 rfl (lv_at hl 0 rfl) ?_
                              refine lv_aload_n hx hb dX12_know_108 rfl (lv_at hl 2 rfl) ?_
                              refine va_get (D := (dC, dI)) (ci := 12) (v := .int mn) (C := RX12) (T := TX12) (N := 70) hx hb hts hiX12 hown hK hP 0 rfl rfl 4 (by decide) w__fieldLink_RX12_154_ShellHeapModel_notes_I_ (fun _ h9 => h9) rfl dX12_know_109 ?_
                              refine lv_icmp_ge (tgt := 248) hx hb dX12_know_112 (by decide) (fun c_65 => ?_) (fun c_65 => ?_)
                              · have k_66 : (mn).toInt ≤ (k_58).toInt := z_le c_65
                                refine lv_goto (tgt := 99) hx hb dX12_know_248 (by decide) ?_
                                exact ih_31 more_59 f_60 _ _ _ (show (2 * z_sm f_60 + (more_59).toInt).toNat < n_30 by omega) (show ((0 : Int) ≤ (more_59).toInt ∧ (more_59).toInt ≤ (1 : Int)) by omega) hI_f_60 (z_sm_nn hI_f_60) hP hD hS (lv_sub hl [1, 2, 3] rfl)
                              · have k_67 : (mn).toInt > (k_58).toInt := z_nle c_65
                                refine lv_aload_n hx hb dX12_know_115 rfl (lv_at hl 2 rfl) ?_
                                refine va_get (D := (dC, dI)) (ci := 12) (v := .ref hct) (C := RX12) (T := TX12) (N := 70) hx hb hts hiX12 hown hK hP 0 rfl rfl 9 (by decide) w__fieldLink_RX12_25_ShellHeapModel_counts_Z_ (fun _ h9 => h9) rfl dX12_know_116 ?_
                                refine lv_iload_n hx hb dX12_know_119 rfl (lv_at hl 0 rfl) ?_
                                refine va_zald hx hb hK hP 1 0 rfl rfl (z_vpin (by omega) (by omega)) dX12_know_120 ?_
                                refine lv_topi (fun z_68 ez_68 => ?_)
                                refine lv_if_eq (tgt := 242) hx hb dX12_know_121 (by decide) (fun c_69 => ?_) (fun c_69 => ?_)
                                · have k_70 : (z_68).toInt = (0 : Int) := z_eq c_69
                                  obtain rfl : z_68 = 0 := z_eq' (show (z_68).toInt = (0 : Int) by omega)
                                  have kl_71 : (0 : Int32).toInt = (0 : Int) := by decide
                                  obtain ⟨z_72, ez_72⟩ : ∃ y : Int32, y = k_58 + 1 := ⟨_, rfl⟩
                                  have kz_72 : (z_72).toInt = (k_58).toInt + (1 : Int) := by rw [ez_72]; exact z_add (b := 1) rfl rfl (z_al hF_61.1 (by decide)) (z_ah hF_61.2 (by decide))
                                  refine lv_iinc (v := z_72) (lv' := [(3, .int z_72), (2, .int more_59), (0, .ref h0), (1, .int p1)]) hx hb dX12_know_242 hl (k := 0) rfl (by rw [ez_72]; rfl) (by decide) rfl (fun ls hl => ?_)
                                  refine lv_goto (tgt := 107) hx hb dX12_know_245 (by decide) ?_
                                  exact ih_57 z_72 more_59 f_60 _ _ _ (show (81 - (z_72).toInt).toNat < n_56 by omega) (show ((0 : Int) ≤ (z_72).toInt ∧ (z_72).toInt ≤ (80 : Int)) by omega) (show ((0 : Int) ≤ (more_59).toInt ∧ (more_59).toInt ≤ (1 : Int)) by omega) hI_f_60 (z_sm_nn hI_f_60) (show z_sm f_60 + (more_59).toInt ≤ z_sm f_33 by omega) hP hD hS (lv_sub hl [0, 1, 2, 3] rfl)
                                · have k_73 : (z_68).toInt ≠ (0 : Int) := z_ne c_69
                                  refine lv_aload_n hx hb dX12_know_124 rfl (lv_at hl 2 rfl) ?_
                                  refine va_get (D := (dC, dI)) (ci := 12) (v := .ref hs) (C := RX12) (T := TX12) (N := 70) hx hb hts hiX12 hown hK hP 0 rfl rfl 5 (by decide) w__fieldLink_RX12_13_ShellHeapModel_sort_I_ (fun _ h9 => h9) rfl dX12_know_125 ?_
                                  refine lv_iload_n hx hb dX12_know_128 rfl (lv_at hl 0 rfl) ?_
                                  refine va_iald hx hb hK hP 2 1 rfl rfl (z_vpin (by omega) (by omega)) dX12_know_129 ?_
                                  refine lv_topi (fun z_74 ez_74 => ?_)
                                  refine lv_iconst (v := 2) hx hb dX12_know_130 (by decide) ?_
                                  refine lv_icmp_ne (tgt := 242) hx hb dX12_know_131 (by decide) (fun c_75 => ?_) (fun c_75 => ?_)
                                  · have k_76 : (z_74).toInt ≠ (2 : Int) := z_ne c_75
                                    obtain ⟨z_77, ez_77⟩ : ∃ y : Int32, y = k_58 + 1 := ⟨_, rfl⟩
                                    have kz_77 : (z_77).toInt = (k_58).toInt + (1 : Int) := by rw [ez_77]; exact z_add (b := 1) rfl rfl (z_al hF_61.1 (by decide)) (z_ah hF_61.2 (by decide))
                                    refine lv_iinc (v := z_77) (lv' := [(3, .int z_77), (2, .int more_59), (0, .ref h0), (1, .int p1)]) hx hb dX12_know_242 hl (k := 0) rfl (by rw [ez_77]; rfl) (by decide) rfl (fun ls hl => ?_)
                                    refine lv_goto (tgt := 107) hx hb dX12_know_245 (by decide) ?_
                                    exact ih_57 z_77 more_59 f_60 _ _ _ (show (81 - (z_77).toInt).toNat < n_56 by omega) (show ((0 : Int) ≤ (z_77).toInt ∧ (z_77).toInt ≤ (80 : Int)) by omega) (show ((0 : Int) ≤ (more_59).toInt ∧ (more_59).toInt ≤ (1 : Int)) by omega) hI_f_60 (z_sm_nn hI_f_60) (show z_sm f_60 + (more_59).toInt ≤ z_sm f_33 by omega) hP hD hS (lv_sub hl [0, 1, 2, 3] rfl)
                                  · have k_78 : (z_74).toInt = (2 : Int) := z_eq c_75
                                    obtain rfl : z_74 = 2 := z_eq' (show (z_74).toInt = (2 : Int) by omega)
                                    have kl_79 : (2 : Int32).toInt = (2 : Int) := by decide
                                    refine lv_aload_n hx hb dX12_know_134 rfl (lv_at hl 2 rfl) ?_
                                    refine va_get (D := (dC, dI)) (ci := 12) (v := .ref hbd) (C := RX12) (T := TX12) (N := 70) hx hb hts hiX12 hown hK hP 0 rfl rfl 11 (by decide) w__fieldLink_RX12_32_ShellHeapModel_bedOf_I_ (fun _ h9 => h9) rfl dX12_know_135 ?_
                                    refine lv_aload_n hx hb dX12_know_138 rfl (lv_at hl 2 rfl) ?_
                                    refine va_get (D := (dC, dI)) (ci := 12) (v := .ref ha) (C := RX12) (T := TX12) (N := 70) hx hb hts hiX12 hown hK hP 0 rfl rfl 6 (by decide) w__fieldLink_RX12_16_ShellHeapModel_noteA_I_ (fun _ h9 => h9) rfl dX12_know_139 ?_
                                    refine lv_iload_n hx hb dX12_know_142 rfl (lv_at hl 0 rfl) ?_
                                    refine va_iald hx hb hK hP 3 2 rfl rfl (z_vpin (by omega) (by omega)) dX12_know_143 ?_
                                    refine lv_topi (fun z_80 ez_80 => ?_)
                                    have kz_80 : ((0 : Int) ≤ (z_80).toInt ∧ (z_80).toInt ≤ (79 : Int)) := by rw [ez_80]; exact hI_ha _
                                    have krz_80 : (z_80).toInt ≤ (11 : Int) := by rw [ez_80]; exact (hR _).2.1 (by rw [← ez_74]; omega)
                                    refine va_iald hx hb hK hP 6 5 rfl rfl (z_vpin (by omega) (by omega)) dX12_know_144 ?_
                                    refine lv_topi (fun z_81 ez_81 => ?_)
                                    have kz_81 : ((0 : Int) ≤ (z_81).toInt ∧ (z_81).toInt ≤ (11 : Int)) := by rw [ez_81]; exact hI_f_60 _
                                    refine lv_aload_n hx hb dX12_know_145 rfl (lv_at hl 2 rfl) ?_
                                    refine va_get (D := (dC, dI)) (ci := 12) (v := .ref hbd) (C := RX12) (T := TX12) (N := 70) hx hb hts hiX12 hown hK hP 0 rfl rfl 11 (by decide) w__fieldLink_RX12_32_ShellHeapModel_bedOf_I_ (fun _ h9 => h9) rfl dX12_know_146 ?_
                                    refine lv_aload_n hx hb dX12_know_149 rfl (lv_at hl 2 rfl) ?_
                                    refine va_get (D := (dC, dI)) (ci := 12) (v := .ref hb9) (C := RX12) (T := TX12) (N := 70) hx hb hts hiX12 hown hK hP 0 rfl rfl 7 (by decide) w__fieldLink_RX12_19_ShellHeapModel_noteB_I_ (fun _ h9 => h9) rfl dX12_know_150 ?_
                                    refine lv_iload_n hx hb dX12_know_153 rfl (lv_at hl 0 rfl) ?_
                                    refine va_iald hx hb hK hP 4 3 rfl rfl (z_vpin (by omega) (by omega)) dX12_know_154 ?_
                                    refine lv_topi (fun z_82 ez_82 => ?_)
                                    have krz_82 : (0 : Int) ≤ (z_82).toInt ∧ (z_82).toInt ≤ (11 : Int) := by rw [ez_82]; exact (hR _).2.2 (by rw [← ez_74]; omega)
                                    refine va_iald hx hb hK hP 6 5 rfl rfl (z_vpin (by omega) (by omega)) dX12_know_155 ?_
                                    refine lv_topi (fun z_83 ez_83 => ?_)
                                    have kz_83 : ((0 : Int) ≤ (z_83).toInt ∧ (z_83).toInt ≤ (11 : Int)) := by rw [ez_83]; exact hI_f_60 _
                                    refine lv_icmp_ne (tgt := 162) hx hb dX12_know_156 (by decide) (fun c_84 => ?_) (fun c_84 => ?_)
                                    · have k_85 : (z_81).toInt ≠ (z_83).toInt := z_ne c_84
                                      refine lv_aload_n hx hb dX12_know_162 rfl (lv_at hl 2 rfl) ?_
                                      refine va_get (D := (dC, dI)) (ci := 12) (v := .ref hbd) (C := RX12) (T := TX12) (N := 70) hx hb hts hiX12 hown hK hP 0 rfl rfl 11 (by decide) w__fieldLink_RX12_32_ShellHeapModel_bedOf_I_ (fun _ h9 => h9) rfl dX12_know_163 ?_
                                      refine lv_aload_n hx hb dX12_know_166 rfl (lv_at hl 2 rfl) ?_
                                      refine va_get (D := (dC, dI)) (ci := 12) (v := .ref ha) (C := RX12) (T := TX12) (N := 70) hx hb hts hiX12 hown hK hP 0 rfl rfl 6 (by decide) w__fieldLink_RX12_16_ShellHeapModel_noteA_I_ (fun _ h9 => h9) rfl dX12_know_167 ?_
                                      refine lv_iload_n hx hb dX12_know_170 rfl (lv_at hl 0 rfl) ?_
                                      refine va_iald hx hb hK hP 3 2 rfl rfl (z_vpin (by omega) (by omega)) dX12_know_171 ?_
                                      refine z_topeq ez_80 ?_
                                      refine va_iald hx hb hK hP 6 5 rfl rfl (z_vpin (by omega) (by omega)) dX12_know_172 ?_
                                      refine z_topeq ez_81 ?_
                                      refine lv_aload_n hx hb dX12_know_173 rfl (lv_at hl 2 rfl) ?_
                                      refine va_get (D := (dC, dI)) (ci := 12) (v := .ref hbd) (C := RX12) (T := TX12) (N := 70) hx hb hts hiX12 hown hK hP 0 rfl rfl 11 (by decide) w__fieldLink_RX12_32_ShellHeapModel_bedOf_I_ (fun _ h9 => h9) rfl dX12_know_174 ?_
                                      refine lv_aload_n hx hb dX12_know_177 rfl (lv_at hl 2 rfl) ?_
                                      refine va_get (D := (dC, dI)) (ci := 12) (v := .ref hb9) (C := RX12) (T := TX12) (N := 70) hx hb hts hiX12 hown hK hP 0 rfl rfl 7 (by decide) w__fieldLink_RX12_19_ShellHeapModel_noteB_I_ (fun _ h9 => h9) rfl dX12_know_178 ?_
                                      refine lv_iload_n hx hb dX12_know_181 rfl (lv_at hl 0 rfl) ?_
                                      refine va_iald hx hb hK hP 4 3 rfl rfl (z_vpin (by omega) (by omega)) dX12_know_182 ?_
                                      refine z_topeq ez_82 ?_
                                      refine va_iald hx hb hK hP 6 5 rfl rfl (z_vpin (by omega) (by omega)) dX12_know_183 ?_
                                      refine z_topeq ez_83 ?_
                                      refine lv_icmp_ge (tgt := 201) hx hb dX12_know_184 (by decide) (fun c_86 => ?_) (fun c_86 => ?_)
                                      · have k_87 : (z_83).toInt ≤ (z_81).toInt := z_le c_86
                                        refine lv_aload_n hx hb dX12_know_201 rfl (lv_at hl 2 rfl) ?_
                                        refine va_get (D := (dC, dI)) (ci := 12) (v := .ref hbd) (C := RX12) (T := TX12) (N := 70) hx hb hts hiX12 hown hK hP 0 rfl rfl 11 (by decide) w__fieldLink_RX12_32_ShellHeapModel_bedOf_I_ (fun _ h9 => h9) rfl dX12_know_202 ?_
                                        refine lv_aload_n hx hb dX12_know_205 rfl (lv_at hl 2 rfl) ?_
                                        refine va_get (D := (dC, dI)) (ci := 12) (v := .ref hb9) (C := RX12) (T := TX12) (N := 70) hx hb hts hiX12 hown hK hP 0 rfl rfl 7 (by decide) w__fieldLink_RX12_19_ShellHeapModel_noteB_I_ (fun _ h9 => h9) rfl dX12_know_206 ?_
                                        refine lv_iload_n hx hb dX12_know_209 rfl (lv_at hl 0 rfl) ?_
                                        refine va_iald hx hb hK hP 4 3 rfl rfl (z_vpin (by omega) (by omega)) dX12_know_210 ?_
                                        refine z_topeq ez_82 ?_
                                        refine va_iald hx hb hK hP 6 5 rfl rfl (z_vpin (by omega) (by omega)) dX12_know_211 ?_
                                        refine z_topeq ez_83 ?_
                                        refine lv_istore (lv' := [(4, .int z_83), (3, .int k_58), (2, .int more_59), (0, .ref h0), (1, .int p1)]) hx hb dX12_know_212 hl (by decide) rfl (fun ls hl => ?_)
                                        refine lv_aload_n hx hb dX12_know_214 rfl (lv_at hl 3 rfl) ?_
                                        refine va_get (D := (dC, dI)) (ci := 12) (v := .ref hbd) (C := RX12) (T := TX12) (N := 70) hx hb hts hiX12 hown hK hP 0 rfl rfl 11 (by decide) w__fieldLink_RX12_32_ShellHeapModel_bedOf_I_ (fun _ h9 => h9) rfl dX12_know_215 ?_
                                        refine lv_aload_n hx hb dX12_know_218 rfl (lv_at hl 3 rfl) ?_
                                        refine va_get (D := (dC, dI)) (ci := 12) (v := .ref ha) (C := RX12) (T := TX12) (N := 70) hx hb hts hiX12 hown hK hP 0 rfl rfl 6 (by decide) w__fieldLink_RX12_16_ShellHeapModel_noteA_I_ (fun _ h9 => h9) rfl dX12_know_219 ?_
                                        refine lv_iload_n hx hb dX12_know_222 rfl (lv_at hl 1 rfl) ?_
                                        refine va_iald hx hb hK hP 3 2 rfl rfl (z_vpin (by omega) (by omega)) dX12_know_223 ?_
                                        refine z_topeq ez_80 ?_
                                        refine lv_iload hx hb dX12_know_224 (lv_at hl 0 rfl) ?_
                                        refine va_iast hx hb hK hP hD hS 6 5 rfl rfl (z_vpin (by omega) (by omega)) dX12_know_226 (fun H_88 locs hP hD hS => ?_)
                                        obtain ⟨hP, hD⟩ := z_s_6 hP hD
                                        have hI_f_89 : ∀ j : Nat, ((0 : Int) ≤ ((upd f_60 (z_80 : Int32).toNatClampNeg z_83) j).toInt ∧ ((upd f_60 (z_80 : Int32).toNatClampNeg z_83) j).toInt ≤ (11 : Int)) := z_updP (P := fun v => ((0 : Int) ≤ (v).toInt ∧ (v).toInt ≤ (11 : Int))) hI_f_60 (show ((0 : Int) ≤ (z_83).toInt ∧ (z_83).toInt ≤ (11 : Int)) from kz_83)
                                        have kS_90 : z_sm (upd f_60 (z_80 : Int32).toNatClampNeg z_83) = z_sm f_60 - (z_81).toInt + (z_83).toInt := z_sm_upd (z_cl (by omega) (by omega)) ez_81.symm
                                        have kV_91 : (upd f_60 (z_80 : Int32).toNatClampNeg z_83) (z_82 : Int32).toNatClampNeg = z_83 := z_upd_ne ez_81 ez_83 (by omega)
                                        generalize (upd f_60 (z_80 : Int32).toNatClampNeg z_83) = f_89 at hP hD hI_f_89 kS_90 kV_91
                                        refine lv_aload_n hx hb dX12_know_227 rfl (lv_at hl 3 rfl) ?_
                                        refine va_get (D := (dC, dI)) (ci := 12) (v := .ref hbd) (C := RX12) (T := TX12) (N := 70) hx hb hts hiX12 hown hK hP 0 rfl rfl 11 (by decide) w__fieldLink_RX12_32_ShellHeapModel_bedOf_I_ (fun _ h9 => h9) rfl dX12_know_228 ?_
                                        refine lv_aload_n hx hb dX12_know_231 rfl (lv_at hl 3 rfl) ?_
                                        refine va_get (D := (dC, dI)) (ci := 12) (v := .ref hb9) (C := RX12) (T := TX12) (N := 70) hx hb hts hiX12 hown hK hP 0 rfl rfl 7 (by decide) w__fieldLink_RX12_19_ShellHeapModel_noteB_I_ (fun _ h9 => h9) rfl dX12_know_232 ?_
                                        refine lv_iload_n hx hb dX12_know_235 rfl (lv_at hl 1 rfl) ?_
                                        refine va_iald hx hb hK hP 4 3 rfl rfl (z_vpin (by omega) (by omega)) dX12_know_236 ?_
                                        refine z_topeq ez_82 ?_
                                        refine lv_iload hx hb dX12_know_237 (lv_at hl 0 rfl) ?_
                                        refine va_iast hx hb hK hP hD hS 6 5 rfl rfl (z_vpin (by omega) (by omega)) dX12_know_239 (fun H_92 locs hP hD hS => ?_)
                                        obtain ⟨hP, hD⟩ := z_s_6 hP hD
                                        have hI_f_93 : ∀ j : Nat, ((0 : Int) ≤ ((upd f_89 (z_82 : Int32).toNatClampNeg z_83) j).toInt ∧ ((upd f_89 (z_82 : Int32).toNatClampNeg z_83) j).toInt ≤ (11 : Int)) := z_updP (P := fun v => ((0 : Int) ≤ (v).toInt ∧ (v).toInt ≤ (11 : Int))) hI_f_89 (show ((0 : Int) ≤ (z_83).toInt ∧ (z_83).toInt ≤ (11 : Int)) from kz_83)
                                        have kS_94 : z_sm (upd f_89 (z_82 : Int32).toNatClampNeg z_83) = z_sm f_89 - (z_83).toInt + (z_83).toInt := z_sm_upd (z_cl (by omega) (by omega)) kV_91
                                        generalize (upd f_89 (z_82 : Int32).toNatClampNeg z_83) = f_93 at hP hD hI_f_93 kS_94
                                        refine lv_iconst (v := 1) hx hb dX12_know_240 (by decide) ?_
                                        refine lv_istore_n (lv' := [(2, .int 1), (4, .int z_83), (3, .int k_58), (0, .ref h0), (1, .int p1)]) hx hb dX12_know_241 rfl hl (by decide) rfl (fun ls hl => ?_)
                                        obtain ⟨z_95, ez_95⟩ : ∃ y : Int32, y = k_58 + 1 := ⟨_, rfl⟩
                                        have kz_95 : (z_95).toInt = (k_58).toInt + (1 : Int) := by rw [ez_95]; exact z_add (b := 1) rfl rfl (z_al hF_61.1 (by decide)) (z_ah hF_61.2 (by decide))
                                        refine lv_iinc (v := z_95) (lv' := [(3, .int z_95), (2, .int 1), (4, .int z_83), (0, .ref h0), (1, .int p1)]) hx hb dX12_know_242 hl (k := 2) rfl (by rw [ez_95]; rfl) (by decide) rfl (fun ls hl => ?_)
                                        refine lv_goto (tgt := 107) hx hb dX12_know_245 (by decide) ?_
                                        exact ih_57 z_95 1 f_93 _ _ _ (show (81 - (z_95).toInt).toNat < n_56 by omega) (show ((0 : Int) ≤ (z_95).toInt ∧ (z_95).toInt ≤ (80 : Int)) by omega) (show ((0 : Int) ≤ (1 : Int) ∧ (1 : Int) ≤ (1 : Int)) by omega) hI_f_93 (z_sm_nn hI_f_93) (show z_sm f_93 + (1 : Int) ≤ z_sm f_33 by omega) hP hD hS (lv_sub hl [0, 1, 3, 4] rfl)
                                      · have k_96 : (z_83).toInt > (z_81).toInt := z_nle c_86
                                        refine lv_aload_n hx hb dX12_know_187 rfl (lv_at hl 2 rfl) ?_
                                        refine va_get (D := (dC, dI)) (ci := 12) (v := .ref hbd) (C := RX12) (T := TX12) (N := 70) hx hb hts hiX12 hown hK hP 0 rfl rfl 11 (by decide) w__fieldLink_RX12_32_ShellHeapModel_bedOf_I_ (fun _ h9 => h9) rfl dX12_know_188 ?_
                                        refine lv_aload_n hx hb dX12_know_191 rfl (lv_at hl 2 rfl) ?_
                                        refine va_get (D := (dC, dI)) (ci := 12) (v := .ref ha) (C := RX12) (T := TX12) (N := 70) hx hb hts hiX12 hown hK hP 0 rfl rfl 6 (by decide) w__fieldLink_RX12_16_ShellHeapModel_noteA_I_ (fun _ h9 => h9) rfl dX12_know_192 ?_
                                        refine lv_iload_n hx hb dX12_know_195 rfl (lv_at hl 0 rfl) ?_
                                        refine va_iald hx hb hK hP 3 2 rfl rfl (z_vpin (by omega) (by omega)) dX12_know_196 ?_
                                        refine z_topeq ez_80 ?_
                                        refine va_iald hx hb hK hP 6 5 rfl rfl (z_vpin (by omega) (by omega)) dX12_know_197 ?_
                                        refine z_topeq ez_81 ?_
                                        refine lv_goto (tgt := 212) hx hb dX12_know_198 (by decide) ?_
                                        refine lv_istore (lv' := [(4, .int z_81), (3, .int k_58), (2, .int more_59), (0, .ref h0), (1, .int p1)]) hx hb dX12_know_212 hl (by decide) rfl (fun ls hl => ?_)
                                        refine lv_aload_n hx hb dX12_know_214 rfl (lv_at hl 3 rfl) ?_
                                        refine va_get (D := (dC, dI)) (ci := 12) (v := .ref hbd) (C := RX12) (T := TX12) (N := 70) hx hb hts hiX12 hown hK hP 0 rfl rfl 11 (by decide) w__fieldLink_RX12_32_ShellHeapModel_bedOf_I_ (fun _ h9 => h9) rfl dX12_know_215 ?_
                                        refine lv_aload_n hx hb dX12_know_218 rfl (lv_at hl 3 rfl) ?_
                                        refine va_get (D := (dC, dI)) (ci := 12) (v := .ref ha) (C := RX12) (T := TX12) (N := 70) hx hb hts hiX12 hown hK hP 0 rfl rfl 6 (by decide) w__fieldLink_RX12_16_ShellHeapModel_noteA_I_ (fun _ h9 => h9) rfl dX12_know_219 ?_
                                        refine lv_iload_n hx hb dX12_know_222 rfl (lv_at hl 1 rfl) ?_
                                        refine va_iald hx hb hK hP 3 2 rfl rfl (z_vpin (by omega) (by omega)) dX12_know_223 ?_
                                        refine z_topeq ez_80 ?_
                                        refine lv_iload hx hb dX12_know_224 (lv_at hl 0 rfl) ?_
                                        refine va_iast hx hb hK hP hD hS 6 5 rfl rfl (z_vpin (by omega) (by omega)) dX12_know_226 (fun H_97 locs hP hD hS => ?_)
                                        obtain ⟨hP, hD⟩ := z_s_6 hP hD
                                        have hI_f_98 : ∀ j : Nat, ((0 : Int) ≤ ((upd f_60 (z_80 : Int32).toNatClampNeg z_81) j).toInt ∧ ((upd f_60 (z_80 : Int32).toNatClampNeg z_81) j).toInt ≤ (11 : Int)) := z_updP (P := fun v => ((0 : Int) ≤ (v).toInt ∧ (v).toInt ≤ (11 : Int))) hI_f_60 (show ((0 : Int) ≤ (z_81).toInt ∧ (z_81).toInt ≤ (11 : Int)) from kz_81)
                                        have kS_99 : z_sm (upd f_60 (z_80 : Int32).toNatClampNeg z_81) = z_sm f_60 - (z_81).toInt + (z_81).toInt := z_sm_upd (z_cl (by omega) (by omega)) ez_81.symm
                                        have kV_100 : (upd f_60 (z_80 : Int32).toNatClampNeg z_81) (z_82 : Int32).toNatClampNeg = z_83 := z_upd_ne ez_81 ez_83 (by omega)
                                        generalize (upd f_60 (z_80 : Int32).toNatClampNeg z_81) = f_98 at hP hD hI_f_98 kS_99 kV_100
                                        refine lv_aload_n hx hb dX12_know_227 rfl (lv_at hl 3 rfl) ?_
                                        refine va_get (D := (dC, dI)) (ci := 12) (v := .ref hbd) (C := RX12) (T := TX12) (N := 70) hx hb hts hiX12 hown hK hP 0 rfl rfl 11 (by decide) w__fieldLink_RX12_32_ShellHeapModel_bedOf_I_ (fun _ h9 => h9) rfl dX12_know_228 ?_
                                        refine lv_aload_n hx hb dX12_know_231 rfl (lv_at hl 3 rfl) ?_
                                        refine va_get (D := (dC, dI)) (ci := 12) (v := .ref hb9) (C := RX12) (T := TX12) (N := 70) hx hb hts hiX12 hown hK hP 0 rfl rfl 7 (by decide) w__fieldLink_RX12_19_ShellHeapModel_noteB_I_ (fun _ h9 => h9) rfl dX12_know_232 ?_
                                        refine lv_iload_n hx hb dX12_know_235 rfl (lv_at hl 1 rfl) ?_
                                        refine va_iald hx hb hK hP 4 3 rfl rfl (z_vpin (by omega) (by omega)) dX12_know_236 ?_
                                        refine z_topeq ez_82 ?_
                                        refine lv_iload hx hb dX12_know_237 (lv_at hl 0 rfl) ?_
                                        refine va_iast hx hb hK hP hD hS 6 5 rfl rfl (z_vpin (by omega) (by omega)) dX12_know_239 (fun H_101 locs hP hD hS => ?_)
                                        obtain ⟨hP, hD⟩ := z_s_6 hP hD
                                        have hI_f_102 : ∀ j : Nat, ((0 : Int) ≤ ((upd f_98 (z_82 : Int32).toNatClampNeg z_81) j).toInt ∧ ((upd f_98 (z_82 : Int32).toNatClampNeg z_81) j).toInt ≤ (11 : Int)) := z_updP (P := fun v => ((0 : Int) ≤ (v).toInt ∧ (v).toInt ≤ (11 : Int))) hI_f_98 (show ((0 : Int) ≤ (z_81).toInt ∧ (z_81).toInt ≤ (11 : Int)) from kz_81)
                                        have kS_103 : z_sm (upd f_98 (z_82 : Int32).toNatClampNeg z_81) = z_sm f_98 - (z_83).toInt + (z_81).toInt := z_sm_upd (z_cl (by omega) (by omega)) kV_100
                                        generalize (upd f_98 (z_82 : Int32).toNatClampNeg z_81) = f_102 at hP hD hI_f_102 kS_103
                                        refine lv_iconst (v := 1) hx hb dX12_know_240 (by decide) ?_
                                        refine lv_istore_n (lv' := [(2, .int 1), (4, .int z_81), (3, .int k_58), (0, .ref h0), (1, .int p1)]) hx hb dX12_know_241 rfl hl (by decide) rfl (fun ls hl => ?_)
                                        obtain ⟨z_104, ez_104⟩ : ∃ y : Int32, y = k_58 + 1 := ⟨_, rfl⟩
                                        have kz_104 : (z_104).toInt = (k_58).toInt + (1 : Int) := by rw [ez_104]; exact z_add (b := 1) rfl rfl (z_al hF_61.1 (by decide)) (z_ah hF_61.2 (by decide))
                                        refine lv_iinc (v := z_104) (lv' := [(3, .int z_104), (2, .int 1), (4, .int z_81), (0, .ref h0), (1, .int p1)]) hx hb dX12_know_242 hl (k := 2) rfl (by rw [ez_104]; rfl) (by decide) rfl (fun ls hl => ?_)
                                        refine lv_goto (tgt := 107) hx hb dX12_know_245 (by decide) ?_
                                        exact ih_57 z_104 1 f_102 _ _ _ (show (81 - (z_104).toInt).toNat < n_56 by omega) (show ((0 : Int) ≤ (z_104).toInt ∧ (z_104).toInt ≤ (80 : Int)) by omega) (show ((0 : Int) ≤ (1 : Int) ∧ (1 : Int) ≤ (1 : Int)) by omega) hI_f_102 (z_sm_nn hI_f_102) (show z_sm f_102 + (1 : Int) ≤ z_sm f_33 by omega) hP hD hS (lv_sub hl [0, 1, 3, 4] rfl)
                                    · have k_105 : (z_81).toInt = (z_83).toInt := z_eq c_84
                                      refine lv_goto (tgt := 242) hx hb dX12_know_159 (by decide) ?_
                                      obtain ⟨z_106, ez_106⟩ : ∃ y : Int32, y = k_58 + 1 := ⟨_, rfl⟩
                                      have kz_106 : (z_106).toInt = (k_58).toInt + (1 : Int) := by rw [ez_106]; exact z_add (b := 1) rfl rfl (z_al hF_61.1 (by decide)) (z_ah hF_61.2 (by decide))
                                      refine lv_iinc (v := z_106) (lv' := [(3, .int z_106), (2, .int more_59), (0, .ref h0), (1, .int p1)]) hx hb dX12_know_242 hl (k := 0) rfl (by rw [ez_106]; rfl) (by decide) rfl (fun ls hl => ?_)
                                      refine lv_goto (tgt := 107) hx hb dX12_know_245 (by decide) ?_
                                      exact ih_57 z_106 more_59 f_60 _ _ _ (show (81 - (z_106).toInt).toNat < n_56 by omega) (show ((0 : Int) ≤ (z_106).toInt ∧ (z_106).toInt ≤ (80 : Int)) by omega) (show ((0 : Int) ≤ (more_59).toInt ∧ (more_59).toInt ≤ (1 : Int)) by omega) hI_f_60 (z_sm_nn hI_f_60) (show z_sm f_60 + (more_59).toInt ≤ z_sm f_33 by omega) hP hD hS (lv_sub hl [0, 1, 2, 3] rfl)
                          exact loop_55 _ 0 0 f_33 _ _ _ (Nat.lt_succ_self _) (show ((0 : Int) ≤ (0 : Int) ∧ (0 : Int) ≤ (80 : Int)) by omega) (show ((0 : Int) ≤ (0 : Int) ∧ (0 : Int) ≤ (1 : Int)) by omega) hI_f_33 (z_sm_nn hI_f_33) (show z_sm f_33 + (0 : Int) ≤ z_sm f_33 by omega) hP hD hS hl
                    exact loop_29 _ 1 f_24 _ _ _ (Nat.lt_succ_self _) (show ((0 : Int) ≤ (1 : Int) ∧ (1 : Int) ≤ (1 : Int)) by omega) hI_f_24 (z_sm_nn hI_f_24) hP hD hS hl
                  · have k_107 : (12 : Int) > (i_23).toInt := z_nle c_26
                    refine lv_aload_n hx hb dX12_know_84 rfl (lv_at hl 1 rfl) ?_
                    refine va_get (D := (dC, dI)) (ci := 12) (v := .ref hbd) (C := RX12) (T := TX12) (N := 70) hx hb hts hiX12 hown hK hP 0 rfl rfl 11 (by decide) w__fieldLink_RX12_32_ShellHeapModel_bedOf_I_ (fun _ h9 => h9) rfl dX12_know_85 ?_
                    refine lv_iload_n hx hb dX12_know_88 rfl (lv_at hl 0 rfl) ?_
                    refine lv_iload_n hx hb dX12_know_89 rfl (lv_at hl 0 rfl) ?_
                    refine va_iast hx hb hK hP hD hS 6 5 rfl rfl (z_vpin (by omega) (by omega)) dX12_know_90 (fun H_108 locs hP hD hS => ?_)
                    obtain ⟨hP, hD⟩ := z_s_6 hP hD
                    have hI_f_109 : ∀ j : Nat, ((0 : Int) ≤ ((upd f_24 (i_23 : Int32).toNatClampNeg i_23) j).toInt ∧ ((upd f_24 (i_23 : Int32).toNatClampNeg i_23) j).toInt ≤ (11 : Int)) := z_updP (P := fun v => ((0 : Int) ≤ (v).toInt ∧ (v).toInt ≤ (11 : Int))) hI_f_24 (show ((0 : Int) ≤ (i_23).toInt ∧ (i_23).toInt ≤ (11 : Int)) from by first | omega | decide)
                    generalize (upd f_24 (i_23 : Int32).toNatClampNeg i_23) = f_109 at hP hD hI_f_109
                    obtain ⟨z_110, ez_110⟩ : ∃ y : Int32, y = i_23 + 1 := ⟨_, rfl⟩
                    have kz_110 : (z_110).toInt = (i_23).toInt + (1 : Int) := by rw [ez_110]; exact z_add (b := 1) rfl rfl (z_al hF_25.1 (by decide)) (z_ah hF_25.2 (by decide))
                    refine lv_iinc (v := z_110) (lv' := [(2, .int z_110), (0, .ref h0), (1, .int p1)]) hx hb dX12_know_91 hl (k := 0) rfl (by rw [ez_110]; rfl) (by decide) rfl (fun ls hl => ?_)
                    refine lv_goto (tgt := 78) hx hb dX12_know_94 (by decide) ?_
                    exact ih_22 z_110 f_109 _ _ _ (show (13 - (z_110).toInt).toNat < n_21 by omega) (show ((0 : Int) ≤ (z_110).toInt ∧ (z_110).toInt ≤ (12 : Int)) by omega) hI_f_109 hP hD hS (lv_sub hl [0, 1, 2] rfl)
              exact loop_20 _ 0 fhbd _ _ _ (Nat.lt_succ_self _) (show ((0 : Int) ≤ (0 : Int) ∧ (0 : Int) ≤ (12 : Int)) by omega) hI_hbd hP hD hS hl
            · have k_111 : (i_14).toInt ≥ (0 : Int) := z_nlt c_17
              refine lv_aload_n hx hb dX12_know_38 rfl (lv_at hl 1 rfl) ?_
              refine va_get (D := (dC, dI)) (ci := 12) (v := .ref hs) (C := RX12) (T := TX12) (N := 70) hx hb hts hiX12 hown hK hP 0 rfl rfl 5 (by decide) w__fieldLink_RX12_13_ShellHeapModel_sort_I_ (fun _ h9 => h9) rfl dX12_know_39 ?_
              refine lv_iload_n hx hb dX12_know_42 rfl (lv_at hl 0 rfl) ?_
              refine va_iald hx hb hK hP 2 1 rfl rfl (z_vpin (by omega) (by omega)) dX12_know_43 ?_
              refine lv_topi (fun z_112 ez_112 => ?_)
              refine lv_bipush (v := 9) hx hb dX12_know_44 (by decide) ?_
              refine lv_icmp_ne (tgt := 70) hx hb dX12_know_46 (by decide) (fun c_113 => ?_) (fun c_113 => ?_)
              · have k_114 : (z_112).toInt ≠ (9 : Int) := z_ne c_113
                obtain ⟨z_115, ez_115⟩ : ∃ y : Int32, y = i_14 + (-1) := ⟨_, rfl⟩
                have kz_115 : (z_115).toInt = (i_14).toInt + (-1 : Int) := by rw [ez_115]; exact z_add (b := -1) rfl rfl (z_al hF_16.1 (by decide)) (z_ah hF_16.2 (by decide))
                refine lv_iinc (v := z_115) (lv' := [(2, .int z_115), (0, .ref h0), (1, .int p1)]) hx hb dX12_know_70 hl (k := 0) rfl (by rw [ez_115]; rfl) (by decide) rfl (fun ls hl => ?_)
                refine lv_goto (tgt := 34) hx hb dX12_know_73 (by decide) ?_
                exact ih_13 z_115 f_15 _ _ _ (show ((z_115).toInt + 2).toNat < n_12 by omega) (show ((-1 : Int) ≤ (z_115).toInt ∧ (z_115).toInt ≤ (79 : Int)) by omega) hP hD hS (lv_sub hl [0, 1, 2] rfl)
              · have k_116 : (z_112).toInt = (9 : Int) := z_eq c_113
                obtain rfl : z_112 = 9 := z_eq' (show (z_112).toInt = (9 : Int) by omega)
                have kl_117 : (9 : Int32).toInt = (9 : Int) := by decide
                refine lv_aload_n hx hb dX12_know_49 rfl (lv_at hl 1 rfl) ?_
                refine va_get (D := (dC, dI)) (ci := 12) (v := .ref hct) (C := RX12) (T := TX12) (N := 70) hx hb hts hiX12 hown hK hP 0 rfl rfl 9 (by decide) w__fieldLink_RX12_25_ShellHeapModel_counts_Z_ (fun _ h9 => h9) rfl dX12_know_50 ?_
                refine lv_iload_n hx hb dX12_know_53 rfl (lv_at hl 0 rfl) ?_
                refine va_zald hx hb hK hP 1 0 rfl rfl (z_vpin (by omega) (by omega)) dX12_know_54 ?_
                refine lv_topi (fun z_118 ez_118 => ?_)
                refine lv_if_eq (tgt := 70) hx hb dX12_know_55 (by decide) (fun c_119 => ?_) (fun c_119 => ?_)
                · have k_120 : (z_118).toInt = (0 : Int) := z_eq c_119
                  obtain rfl : z_118 = 0 := z_eq' (show (z_118).toInt = (0 : Int) by omega)
                  have kl_121 : (0 : Int32).toInt = (0 : Int) := by decide
                  obtain ⟨z_122, ez_122⟩ : ∃ y : Int32, y = i_14 + (-1) := ⟨_, rfl⟩
                  have kz_122 : (z_122).toInt = (i_14).toInt + (-1 : Int) := by rw [ez_122]; exact z_add (b := -1) rfl rfl (z_al hF_16.1 (by decide)) (z_ah hF_16.2 (by decide))
                  refine lv_iinc (v := z_122) (lv' := [(2, .int z_122), (0, .ref h0), (1, .int p1)]) hx hb dX12_know_70 hl (k := 0) rfl (by rw [ez_122]; rfl) (by decide) rfl (fun ls hl => ?_)
                  refine lv_goto (tgt := 34) hx hb dX12_know_73 (by decide) ?_
                  exact ih_13 z_122 f_15 _ _ _ (show ((z_122).toInt + 2).toNat < n_12 by omega) (show ((-1 : Int) ≤ (z_122).toInt ∧ (z_122).toInt ≤ (79 : Int)) by omega) hP hD hS (lv_sub hl [0, 1, 2] rfl)
                · have k_123 : (z_118).toInt ≠ (0 : Int) := z_ne c_119
                  refine lv_aload_n hx hb dX12_know_58 rfl (lv_at hl 1 rfl) ?_
                  refine va_get (D := (dC, dI)) (ci := 12) (v := .ref hct) (C := RX12) (T := TX12) (N := 70) hx hb hts hiX12 hown hK hP 0 rfl rfl 9 (by decide) w__fieldLink_RX12_25_ShellHeapModel_counts_Z_ (fun _ h9 => h9) rfl dX12_know_59 ?_
                  refine lv_aload_n hx hb dX12_know_62 rfl (lv_at hl 1 rfl) ?_
                  refine va_get (D := (dC, dI)) (ci := 12) (v := .ref ha) (C := RX12) (T := TX12) (N := 70) hx hb hts hiX12 hown hK hP 0 rfl rfl 6 (by decide) w__fieldLink_RX12_16_ShellHeapModel_noteA_I_ (fun _ h9 => h9) rfl dX12_know_63 ?_
                  refine lv_iload_n hx hb dX12_know_66 rfl (lv_at hl 0 rfl) ?_
                  refine va_iald hx hb hK hP 3 2 rfl rfl (z_vpin (by omega) (by omega)) dX12_know_67 ?_
                  refine lv_topi (fun z_124 ez_124 => ?_)
                  have kz_124 : ((0 : Int) ≤ (z_124).toInt ∧ (z_124).toInt ≤ (79 : Int)) := by rw [ez_124]; exact hI_ha _
                  refine lv_iconst (v := 0) hx hb dX12_know_68 (by decide) ?_
                  refine va_zast hx hb hK hP hD hS 1 0 rfl rfl (z_vpinB kz_124 (by decide) (by decide)) dX12_know_69 (fun H_125 locs hP hD hS => ?_)
                  obtain ⟨hP, hD⟩ := z_s_1 hP hD
                  generalize (upd f_15 (z_124 : Int32).toNatClampNeg (vp_nar .boolean 0)) = f_126 at hP hD
                  obtain ⟨z_127, ez_127⟩ : ∃ y : Int32, y = i_14 + (-1) := ⟨_, rfl⟩
                  have kz_127 : (z_127).toInt = (i_14).toInt + (-1 : Int) := by rw [ez_127]; exact z_add (b := -1) rfl rfl (z_al hF_16.1 (by decide)) (z_ah hF_16.2 (by decide))
                  refine lv_iinc (v := z_127) (lv' := [(2, .int z_127), (0, .ref h0), (1, .int p1)]) hx hb dX12_know_70 hl (k := 0) rfl (by rw [ez_127]; rfl) (by decide) rfl (fun ls hl => ?_)
                  refine lv_goto (tgt := 34) hx hb dX12_know_73 (by decide) ?_
                  exact ih_13 z_127 f_126 _ _ _ (show ((z_127).toInt + 2).toNat < n_12 by omega) (show ((-1 : Int) ≤ (z_127).toInt ∧ (z_127).toInt ≤ (79 : Int)) by omega) hP hD hS (lv_sub hl [0, 1, 2] rfl)
        exact loop_11 _ z_10 f_5 _ _ _ (Nat.lt_succ_self _) (show ((-1 : Int) ≤ (z_10).toInt ∧ (z_10).toInt ≤ (79 : Int)) by omega) hP hD hS hl
      · have k_128 : (80 : Int) > (i_4).toInt := z_nle c_7
        refine lv_aload_n hx hb dX12_know_8 rfl (lv_at hl 1 rfl) ?_
        refine va_get (D := (dC, dI)) (ci := 12) (v := .ref hct) (C := RX12) (T := TX12) (N := 70) hx hb hts hiX12 hown hK hP 0 rfl rfl 9 (by decide) w__fieldLink_RX12_25_ShellHeapModel_counts_Z_ (fun _ h9 => h9) rfl dX12_know_9 ?_
        refine lv_iload_n hx hb dX12_know_12 rfl (lv_at hl 0 rfl) ?_
        refine lv_iload_n hx hb dX12_know_13 rfl (lv_at hl 0 rfl) ?_
        refine lv_iload_n hx hb dX12_know_14 rfl (lv_at hl 2 rfl) ?_
        refine lv_icmp_ge (tgt := 22) hx hb dX12_know_15 (by decide) (fun c_129 => ?_) (fun c_129 => ?_)
        · have k_130 : (p1).toInt ≤ (i_4).toInt := z_le c_129
          refine lv_iconst (v := 0) hx hb dX12_know_22 (by decide) ?_
          refine va_zast hx hb hK hP hD hS 1 0 rfl rfl (z_vpin (by omega) (by omega)) dX12_know_23 (fun H_131 locs hP hD hS => ?_)
          obtain ⟨hP, hD⟩ := z_s_1 hP hD
          generalize (upd f_5 (i_4 : Int32).toNatClampNeg (vp_nar .boolean 0)) = f_132 at hP hD
          obtain ⟨z_133, ez_133⟩ : ∃ y : Int32, y = i_4 + 1 := ⟨_, rfl⟩
          have kz_133 : (z_133).toInt = (i_4).toInt + (1 : Int) := by rw [ez_133]; exact z_add (b := 1) rfl rfl (z_al hF_6.1 (by decide)) (z_ah hF_6.2 (by decide))
          refine lv_iinc (v := z_133) (lv' := [(2, .int z_133), (0, .ref h0), (1, .int p1)]) hx hb dX12_know_24 hl (k := 0) rfl (by rw [ez_133]; rfl) (by decide) rfl (fun ls hl => ?_)
          refine lv_goto (tgt := 2) hx hb dX12_know_27 (by decide) ?_
          exact ih_3 z_133 f_132 _ _ _ (show (81 - (z_133).toInt).toNat < n_2 by omega) (show ((0 : Int) ≤ (z_133).toInt ∧ (z_133).toInt ≤ (80 : Int)) by omega) hP hD hS (lv_sub hl [0, 1, 2] rfl)
        · have k_134 : (p1).toInt > (i_4).toInt := z_nle c_129
          refine lv_iconst (v := 1) hx hb dX12_know_18 (by decide) ?_
          refine lv_goto (tgt := 23) hx hb dX12_know_19 (by decide) ?_
          refine va_zast hx hb hK hP hD hS 1 0 rfl rfl (z_vpin (by omega) (by omega)) dX12_know_23 (fun H_135 locs hP hD hS => ?_)
          obtain ⟨hP, hD⟩ := z_s_1 hP hD
          generalize (upd f_5 (i_4 : Int32).toNatClampNeg (vp_nar .boolean 1)) = f_136 at hP hD
          obtain ⟨z_137, ez_137⟩ : ∃ y : Int32, y = i_4 + 1 := ⟨_, rfl⟩
          have kz_137 : (z_137).toInt = (i_4).toInt + (1 : Int) := by rw [ez_137]; exact z_add (b := 1) rfl rfl (z_al hF_6.1 (by decide)) (z_ah hF_6.2 (by decide))
          refine lv_iinc (v := z_137) (lv' := [(2, .int z_137), (0, .ref h0), (1, .int p1)]) hx hb dX12_know_24 hl (k := 0) rfl (by rw [ez_137]; rfl) (by decide) rfl (fun ls hl => ?_)
          refine lv_goto (tgt := 2) hx hb dX12_know_27 (by decide) ?_
          exact ih_3 z_137 f_136 _ _ _ (show (81 - (z_137).toInt).toNat < n_2 by omega) (show ((0 : Int) ≤ (z_137).toInt ∧ (z_137).toInt ≤ (80 : Int)) by omega) hP hD hS (lv_sub hl [0, 1, 2] rfl)
  exact loop_1 _ 0 fhct _ _ _ (Nat.lt_succ_self _) (show ((0 : Int) ≤ (0 : Int) ∧ (0 : Int) ≤ (80 : Int)) by omega) hP hD hS hl
