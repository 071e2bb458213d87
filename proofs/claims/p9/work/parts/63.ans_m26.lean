def u_s_X12_spansK : List Cond := .code yX12_spans cX12_spans 4 none :: ([.fieldLink RX12 154 "ShellHeapModel" "notes" "I", .fieldLink RX12 167 "ShellHeapModel" "quarrelNow" "I", .fieldLink RX12 41 "ShellHeapModel" "first" "[I", .fieldLink RX12 44 "ShellHeapModel" "last" "[I", .fieldLink RX12 35 "ShellHeapModel" "later" "[Z", .fieldLink RX12 25 "ShellHeapModel" "counts" "[Z", .fieldLink RX12 13 "ShellHeapModel" "sort" "[I", .fieldLink RX12 32 "ShellHeapModel" "bedOf" "[I", .fieldLink RX12 16 "ShellHeapModel" "noteA" "[I", .fieldLink RX12 19 "ShellHeapModel" "noteB" "[I", .fieldLink RX12 22 "ShellHeapModel" "noteC" "[I"] ++ (wsX120 ++ []))
theorem gd_s_X12_spansK : z_gd u_s_X12_spansK := z_gdc (by decide +kernel) (z_gda gdX12 (z_gd0))
set_option maxHeartbeats 4000000 in
set_option maxRecDepth 100000 in
theorem s_X12_spansK (l : Launch) (dC : Nat → ClassId) (dI : Nat → Nat → Nat) (sz : Nat) (h0 : Nat) (h0_0 : Value) (h0_1 : Value) (h0_2 : Value) (h0_3 : Value) (mn : Int32) (hs : Nat) (ha : Nat) (hb9 : Nat) (hc9 : Nat) (hct : Nat) (h0_10 : Value) (hbd : Nat) (hlt : Nat) (h0_13 : Value) (hfi : Nat) (hla : Nat) (mq : Int32) (h0_17 : Value) (h0_18 : Value) (h0_19 : Value) (h0_20 : Value) (h0_21 : Value) (h0_22 : Value) (h0_23 : Value) (h0_24 : Value) (h0_25 : Value) (h0_26 : Value) (h0_27 : Value) (h0_28 : Value) (h0_29 : Value) (h0_30 : Value) (h0_31 : Value) (h0_32 : Value) (h0_33 : Value) (h0_34 : Value) (h0_35 : Value) (h0_36 : Value) (h0_37 : Value) (h0_38 : Value) (h0_39 : Value) (h0_40 : Value) (h0_41 : Value) (h0_42 : Value) (h0_43 : Value) (h0_44 : Value) (h0_45 : Value) (h0_46 : Value) (h0_47 : Value) (h0_48 : Value) (h0_49 : Value) (h0_50 : Value) (h0_51 : Value) (h0_52 : Value) (h0_53 : Value) (h0_54 : Value) (h0_55 : Value) (h0_56 : Value) (h0_57 : Value) (h0_58 : Value) (h0_59 : Value) (h0_60 : Value) (h0_61 : Value) (h0_62 : Value) (h0_63 : Value) (h0_64 : Value) (h0_65 : Value) (h0_66 : Value) (h0_67 : Value) (h0_68 : Value) (h0_69 : Value) (chct : ClassId) (fhct : Nat → Int32) (chs : ClassId) (fhs : Nat → Int32) (cha : ClassId) (fha : Nat → Int32) (chb9 : ClassId) (fhb9 : Nat → Int32) (chc9 : ClassId) (fhc9 : Nat → Int32) (chbd : ClassId) (fhbd : Nat → Int32) (chlt : ClassId) (fhlt : Nat → Int32) (chfi : ClassId) (fhfi : Nat → Int32) (chla : ClassId) (fhla : Nat → Int32) (hB_mq : ((0 : Int) ≤ (mq).toInt ∧ (mq).toInt ≤ (2 : Int))) (hB_mn : ((0 : Int) ≤ (mn).toInt ∧ (mn).toInt ≤ (80 : Int))) (hI_ha : ∀ j : Nat, ((0 : Int) ≤ (fha j).toInt ∧ (fha j).toInt ≤ (79 : Int))) (hI_hbd : ∀ j : Nat, ((0 : Int) ≤ (fhbd j).toInt ∧ (fhbd j).toInt ≤ (11 : Int))) (hR : ∀ j : Nat, z_relm (fhs j) (fha j) (fhb9 j)) (hTt : ∀ x y z : Int, k_M2 fhlt x y → k_M2 fhlt y z → k_M2 fhlt x z) (hm1 : mq.toInt ≤ 1) : Met l yX12_spans u_s_X12_spansK ({ frames := 0, cells := 0, slots := 0, locals := 0 }) (va_Pc [.ref h0] (z_C (dC, dI) vwCl [(h0, .inr (12, [h0_0, h0_1, h0_2, h0_3, .int mn, .ref hs, .ref ha, .ref hb9, .ref hc9, .ref hct, h0_10, .ref hbd, .ref hlt, h0_13, .ref hfi, .ref hla, .int mq, h0_17, h0_18, h0_19, h0_20, h0_21, h0_22, h0_23, h0_24, h0_25, h0_26, h0_27, h0_28, h0_29, h0_30, h0_31, h0_32, h0_33, h0_34, h0_35, h0_36, h0_37, h0_38, h0_39, h0_40, h0_41, h0_42, h0_43, h0_44, h0_45, h0_46, h0_47, h0_48, h0_49, h0_50, h0_51, h0_52, h0_53, h0_54, h0_55, h0_56, h0_57, h0_58, h0_59, h0_60, h0_61, h0_62, h0_63, h0_64, h0_65, h0_66, h0_67, h0_68, h0_69])), (hct, .inl (chct, 80, .inl fhct)), (hs, .inl (chs, 80, .inl fhs)), (ha, .inl (cha, 80, .inl fha)), (hb9, .inl (chb9, 80, .inl fhb9)), (hc9, .inl (chc9, 80, .inl fhc9)), (hbd, .inl (chbd, 12, .inl fhbd)), (hlt, .inl (chlt, 144, .inl fhlt)), (hfi, .inl (chfi, 12, .inl fhfi)), (hla, .inl (chla, 12, .inl fhla))] [(chct, .boolean), (chs, .int), (cha, .int), (chb9, .int), (chc9, .int), (chbd, .int), (chlt, .boolean), (chfi, .int), (chla, .int)] sz)) (va_Qv (fun (_ : Unit) => True) (fun (_ : Unit) (t : State) => ∃ (n_h0_quarrelNow : Int32), ∃ (g_hfi : Nat → Int32), ∃ (g_hla : Nat → Int32), ((0 : Int) ≤ (n_h0_quarrelNow).toInt ∧ (n_h0_quarrelNow).toInt ≤ (2 : Int)) ∧ (k_SP (k_M2 fhlt) (k_D fhs fha fhb9 (k_iv fhct) fhbd mn.toInt mn.toInt) (k_D fhs fha fhc9 (k_iv fhct) fhbd mn.toInt mn.toInt) 12 g_hfi g_hla) ∧ (k_q3 mq.toInt g_hfi g_hla n_h0_quarrelNow.toInt) ∧ va_P (dC, dI) vwCl [(h0, .inr (12, [h0_0, h0_1, h0_2, h0_3, .int mn, .ref hs, .ref ha, .ref hb9, .ref hc9, .ref hct, h0_10, .ref hbd, .ref hlt, h0_13, .ref hfi, .ref hla, .int n_h0_quarrelNow, h0_17, h0_18, h0_19, h0_20, h0_21, h0_22, h0_23, h0_24, h0_25, h0_26, h0_27, h0_28, h0_29, h0_30, h0_31, h0_32, h0_33, h0_34, h0_35, h0_36, h0_37, h0_38, h0_39, h0_40, h0_41, h0_42, h0_43, h0_44, h0_45, h0_46, h0_47, h0_48, h0_49, h0_50, h0_51, h0_52, h0_53, h0_54, h0_55, h0_56, h0_57, h0_58, h0_59, h0_60, h0_61, h0_62, h0_63, h0_64, h0_65, h0_66, h0_67, h0_68, h0_69])), (hct, .inl (chct, 80, .inl fhct)), (hs, .inl (chs, 80, .inl fhs)), (ha, .inl (cha, 80, .inl fha)), (hb9, .inl (chb9, 80, .inl fhb9)), (hc9, .inl (chc9, 80, .inl fhc9)), (hbd, .inl (chbd, 12, .inl fhbd)), (hlt, .inl (chlt, 144, .inl fhlt)), (hfi, .inl (chfi, 12, .inl g_hfi)), (hla, .inl (chla, 12, .inl g_hla))] t.heap ∧ va_K (dC, dI) vwCl [] t ∧ va_D (va_A [(h0, .inr (12, [h0_0, h0_1, h0_2, h0_3, .int mn, .ref hs, .ref ha, .ref hb9, .ref hc9, .ref hct, h0_10, .ref hbd, .ref hlt, h0_13, .ref hfi, .ref hla, .int mq, h0_17, h0_18, h0_19, h0_20, h0_21, h0_22, h0_23, h0_24, h0_25, h0_26, h0_27, h0_28, h0_29, h0_30, h0_31, h0_32, h0_33, h0_34, h0_35, h0_36, h0_37, h0_38, h0_39, h0_40, h0_41, h0_42, h0_43, h0_44, h0_45, h0_46, h0_47, h0_48, h0_49, h0_50, h0_51, h0_52, h0_53, h0_54, h0_55, h0_56, h0_57, h0_58, h0_59, h0_60, h0_61, h0_62, h0_63, h0_64, h0_65, h0_66, h0_67, h0_68, h0_69])), (hct, .inl (chct, 80, .inl fhct)), (hs, .inl (chs, 80, .inl fhs)), (ha, .inl (cha, 80, .inl fha)), (hb9, .inl (chb9, 80, .inl fhb9)), (hc9, .inl (chc9, 80, .inl fhc9)), (hbd, .inl (chbd, 12, .inl fhbd)), (hlt, .inl (chlt, 144, .inl fhlt)), (hfi, .inl (chfi, 12, .inl fhfi)), (hla, .inl (chla, 12, .inl fhla))] sz) [(h0, .inr (12, [h0_0, h0_1, h0_2, h0_3, .int mn, .ref hs, .ref ha, .ref hb9, .ref hc9, .ref hct, h0_10, .ref hbd, .ref hlt, h0_13, .ref hfi, .ref hla, .int n_h0_quarrelNow, h0_17, h0_18, h0_19, h0_20, h0_21, h0_22, h0_23, h0_24, h0_25, h0_26, h0_27, h0_28, h0_29, h0_30, h0_31, h0_32, h0_33, h0_34, h0_35, h0_36, h0_37, h0_38, h0_39, h0_40, h0_41, h0_42, h0_43, h0_44, h0_45, h0_46, h0_47, h0_48, h0_49, h0_50, h0_51, h0_52, h0_53, h0_54, h0_55, h0_56, h0_57, h0_58, h0_59, h0_60, h0_61, h0_62, h0_63, h0_64, h0_65, h0_66, h0_67, h0_68, h0_69])), (hct, .inl (chct, 80, .inl fhct)), (hs, .inl (chs, 80, .inl fhs)), (ha, .inl (cha, 80, .inl fha)), (hb9, .inl (chb9, 80, .inl fhb9)), (hc9, .inl (chc9, 80, .inl fhc9)), (hbd, .inl (chbd, 12, .inl fhbd)), (hlt, .inl (chlt, 144, .inl fhlt)), (hfi, .inl (chfi, 12, .inl g_hfi)), (hla, .inl (chla, 12, .inl g_hla))]) (va_A [(h0, .inr (12, [h0_0, h0_1, h0_2, h0_3, .int mn, .ref hs, .ref ha, .ref hb9, .ref hc9, .ref hct, h0_10, .ref hbd, .ref hlt, h0_13, .ref hfi, .ref hla, .int mq, h0_17, h0_18, h0_19, h0_20, h0_21, h0_22, h0_23, h0_24, h0_25, h0_26, h0_27, h0_28, h0_29, h0_30, h0_31, h0_32, h0_33, h0_34, h0_35, h0_36, h0_37, h0_38, h0_39, h0_40, h0_41, h0_42, h0_43, h0_44, h0_45, h0_46, h0_47, h0_48, h0_49, h0_50, h0_51, h0_52, h0_53, h0_54, h0_55, h0_56, h0_57, h0_58, h0_59, h0_60, h0_61, h0_62, h0_63, h0_64, h0_65, h0_66, h0_67, h0_68, h0_69])), (hct, .inl (chct, 80, .inl fhct)), (hs, .inl (chs, 80, .inl fhs)), (ha, .inl (cha, 80, .inl fha)), (hb9, .inl (chb9, 80, .inl fhb9)), (hc9, .inl (chc9, 80, .inl fhc9)), (hbd, .inl (chbd, 12, .inl fhbd)), (hlt, .inl (chlt, 144, .inl fhlt)), (hfi, .inl (chfi, 12, .inl fhfi)), (hla, .inl (chla, 12, .inl fhla))] sz)) 0 0 (va_A [(h0, .inr (12, [h0_0, h0_1, h0_2, h0_3, .int mn, .ref hs, .ref ha, .ref hb9, .ref hc9, .ref hct, h0_10, .ref hbd, .ref hlt, h0_13, .ref hfi, .ref hla, .int mq, h0_17, h0_18, h0_19, h0_20, h0_21, h0_22, h0_23, h0_24, h0_25, h0_26, h0_27, h0_28, h0_29, h0_30, h0_31, h0_32, h0_33, h0_34, h0_35, h0_36, h0_37, h0_38, h0_39, h0_40, h0_41, h0_42, h0_43, h0_44, h0_45, h0_46, h0_47, h0_48, h0_49, h0_50, h0_51, h0_52, h0_53, h0_54, h0_55, h0_56, h0_57, h0_58, h0_59, h0_60, h0_61, h0_62, h0_63, h0_64, h0_65, h0_66, h0_67, h0_68, h0_69])), (hct, .inl (chct, 80, .inl fhct)), (hs, .inl (chs, 80, .inl fhs)), (ha, .inl (cha, 80, .inl fha)), (hb9, .inl (chb9, 80, .inl fhb9)), (hc9, .inl (chc9, 80, .inl fhc9)), (hbd, .inl (chbd, 12, .inl fhbd)), (hlt, .inl (chlt, 144, .inl fhlt)), (hfi, .inl (chfi, 12, .inl fhfi)), (hla, .inl (chla, 12, .inl fhla))] sz) := by
  refine Met.ofW (cc := cX12_spans) (maxL := 4) (ret := none) (by decide) rfl ?_
  intro p e s m args below meth c s₁ B hml hv
  obtain ⟨rfl, hsz, hP, hK, hD0⟩ := hv
  have hx := B.exec
  have hb := B.bytes
  have hr := B.returns
  have hts := atoms_spec (ws := u_s_X12_spansK) B.pre
  have hown : s.vm.findClass RX12 = some m.cls := findClass_of_methodNamed B.named
  have hlocks := B.notSynchronized
  subst hsz
  have hD := hD0.self (sz := s.heap.size)
  generalize hAe : va_A [(h0, .inr (12, [h0_0, h0_1, h0_2, h0_3, .int mn, .ref hs, .ref ha, .ref hb9, .ref hc9, .ref hct, h0_10, .ref hbd, .ref hlt, h0_13, .ref hfi, .ref hla, .int mq, h0_17, h0_18, h0_19, h0_20, h0_21, h0_22, h0_23, h0_24, h0_25, h0_26, h0_27, h0_28, h0_29, h0_30, h0_31, h0_32, h0_33, h0_34, h0_35, h0_36, h0_37, h0_38, h0_39, h0_40, h0_41, h0_42, h0_43, h0_44, h0_45, h0_46, h0_47, h0_48, h0_49, h0_50, h0_51, h0_52, h0_53, h0_54, h0_55, h0_56, h0_57, h0_58, h0_59, h0_60, h0_61, h0_62, h0_63, h0_64, h0_65, h0_66, h0_67, h0_68, h0_69])), (hct, .inl (chct, 80, .inl fhct)), (hs, .inl (chs, 80, .inl fhs)), (ha, .inl (cha, 80, .inl fha)), (hb9, .inl (chb9, 80, .inl fhb9)), (hc9, .inl (chc9, 80, .inl fhc9)), (hbd, .inl (chbd, 12, .inl fhbd)), (hlt, .inl (chlt, 144, .inl fhlt)), (hfi, .inl (chfi, 12, .inl fhfi)), (hla, .inl (chla, 12, .inl fhla))] s.heap.size = A at hD ⊢
  have hA : ∀ q : Nat, s.heap.size ≤ q → A q := fun q h => by rw [← hAe]; exact Or.inr h
  have hS : va_S A s.heap s.heap [] := va_S.rf
  have hP : va_P (dC, dI) vwCl [(h0, .inr (12, [h0_0, h0_1, h0_2, h0_3, .int mn, .ref hs, .ref ha, .ref hb9, .ref hc9, .ref hct, h0_10, .ref hbd, .ref hlt, h0_13, .ref hfi, .ref hla, .int mq, h0_17, h0_18, h0_19, h0_20, h0_21, h0_22, h0_23, h0_24, h0_25, h0_26, h0_27, h0_28, h0_29, h0_30, h0_31, h0_32, h0_33, h0_34, h0_35, h0_36, h0_37, h0_38, h0_39, h0_40, h0_41, h0_42, h0_43, h0_44, h0_45, h0_46, h0_47, h0_48, h0_49, h0_50, h0_51, h0_52, h0_53, h0_54, h0_55, h0_56, h0_57, h0_58, h0_59, h0_60, h0_61, h0_62, h0_63, h0_64, h0_65, h0_66, h0_67, h0_68, h0_69])), (hct, .inl (chct, 80, .inl fhct)), (hs, .inl (chs, 80, .inl fhs)), (ha, .inl (cha, 80, .inl fha)), (hb9, .inl (chb9, 80, .inl fhb9)), (hc9, .inl (chc9, 80, .inl fhc9)), (hbd, .inl (chbd, 12, .inl fhbd)), (hlt, .inl (chlt, 144, .inl fhlt)), (hfi, .inl (chfi, 12, .inl fhfi)), (hla, .inl (chla, 12, .inl fhla))] s.heap := hP
  have w__fieldLink_RX12_154_ShellHeapModel_notes_I_ := hts (.fieldLink RX12 154 "ShellHeapModel" "notes" "I") (z_mc (z_ml z_m0))
  have hiX12 := show ∀ w ∈ u_ws RX12 TX12 70, w ∈ u_s_X12_spansK from fun w h => z_mc (z_mr (z_ml h))
  have w__fieldLink_RX12_167_ShellHeapModel_quarrelNow_I_ := hts (.fieldLink RX12 167 "ShellHeapModel" "quarrelNow" "I") (z_mc (z_ml z_m1))
  have w__fieldLink_RX12_41_ShellHeapModel_first_I_ := hts (.fieldLink RX12 41 "ShellHeapModel" "first" "[I") (z_mc (z_ml z_m2))
  have w__fieldLink_RX12_44_ShellHeapModel_last_I_ := hts (.fieldLink RX12 44 "ShellHeapModel" "last" "[I") (z_mc (z_ml z_m3))
  have w__fieldLink_RX12_35_ShellHeapModel_later_Z_ := hts (.fieldLink RX12 35 "ShellHeapModel" "later" "[Z") (z_mc (z_ml z_m4))
  have w__fieldLink_RX12_25_ShellHeapModel_counts_Z_ := hts (.fieldLink RX12 25 "ShellHeapModel" "counts" "[Z") (z_mc (z_ml z_m5))
  have w__fieldLink_RX12_13_ShellHeapModel_sort_I_ := hts (.fieldLink RX12 13 "ShellHeapModel" "sort" "[I") (z_mc (z_ml z_m6))
  have w__fieldLink_RX12_32_ShellHeapModel_bedOf_I_ := hts (.fieldLink RX12 32 "ShellHeapModel" "bedOf" "[I") (z_mc (z_ml z_m7))
  have w__fieldLink_RX12_16_ShellHeapModel_noteA_I_ := hts (.fieldLink RX12 16 "ShellHeapModel" "noteA" "[I") (z_mc (z_ml z_m8))
  have w__fieldLink_RX12_19_ShellHeapModel_noteB_I_ := hts (.fieldLink RX12 19 "ShellHeapModel" "noteB" "[I") (z_mc (z_ml z_m9))
  have w__fieldLink_RX12_22_ShellHeapModel_noteC_I_ := hts (.fieldLink RX12 22 "ShellHeapModel" "noteC" "[I") (z_mc (z_ml z_m10))
  have hl := lv_entry ([.ref h0]) (n := 4) (Nat.le_of_ble_eq_true rfl)
  rw [lg_entry_eq]
  generalize (lg_sl ([.ref h0]) ++ List.replicate (4 - (lg_sl ([.ref h0])).length) Slot.unset).toArray = ls at hl ⊢
  have hl : lv_has ls 4 [(0, .ref h0)] := hl
  refine z_nameQ (fun QQ hQQ => ?_)
  have hRD : k_rd fhs fha (mn).toInt 12 := k_rd_m hR
  refine lv_iconst (v := 0) hx hb dX12_spans_0 (by decide) ?_
  refine lv_istore_n (lv' := [(1, .int 0), (0, .ref h0)]) hx hb dX12_spans_1 rfl hl (by decide) rfl (fun ls hl => ?_)
  have loop_1 : ∀ (n_2 : Nat) (i_4 : Int32) (f_5 : Nat → Int32) (f_6 : Nat → Int32) (H : Heap) (locs : List Loc) (ls : Array Slot), (13 - (i_4).toInt).toNat < n_2 → (((0 : Int) ≤ (i_4).toInt ∧ (i_4).toInt ≤ (12 : Int))) → (k_z (i_4).toInt f_5) → (kY9 (i_4).toInt f_6) → va_P (dC, dI) vwCl [(h0, .inr (12, [h0_0, h0_1, h0_2, h0_3, .int mn, .ref hs, .ref ha, .ref hb9, .ref hc9, .ref hct, h0_10, .ref hbd, .ref hlt, h0_13, .ref hfi, .ref hla, .int mq, h0_17, h0_18, h0_19, h0_20, h0_21, h0_22, h0_23, h0_24, h0_25, h0_26, h0_27, h0_28, h0_29, h0_30, h0_31, h0_32, h0_33, h0_34, h0_35, h0_36, h0_37, h0_38, h0_39, h0_40, h0_41, h0_42, h0_43, h0_44, h0_45, h0_46, h0_47, h0_48, h0_49, h0_50, h0_51, h0_52, h0_53, h0_54, h0_55, h0_56, h0_57, h0_58, h0_59, h0_60, h0_61, h0_62, h0_63, h0_64, h0_65, h0_66, h0_67, h0_68, h0_69])), (hct, .inl (chct, 80, .inl fhct)), (hs, .inl (chs, 80, .inl fhs)), (ha, .inl (cha, 80, .inl fha)), (hb9, .inl (chb9, 80, .inl fhb9)), (hc9, .inl (chc9, 80, .inl fhc9)), (hbd, .inl (chbd, 12, .inl fhbd)), (hlt, .inl (chlt, 144, .inl fhlt)), (hfi, .inl (chfi, 12, .inl f_5)), (hla, .inl (chla, 12, .inl f_6))] H → va_D A [(h0, .inr (12, [h0_0, h0_1, h0_2, h0_3, .int mn, .ref hs, .ref ha, .ref hb9, .ref hc9, .ref hct, h0_10, .ref hbd, .ref hlt, h0_13, .ref hfi, .ref hla, .int mq, h0_17, h0_18, h0_19, h0_20, h0_21, h0_22, h0_23, h0_24, h0_25, h0_26, h0_27, h0_28, h0_29, h0_30, h0_31, h0_32, h0_33, h0_34, h0_35, h0_36, h0_37, h0_38, h0_39, h0_40, h0_41, h0_42, h0_43, h0_44, h0_45, h0_46, h0_47, h0_48, h0_49, h0_50, h0_51, h0_52, h0_53, h0_54, h0_55, h0_56, h0_57, h0_58, h0_59, h0_60, h0_61, h0_62, h0_63, h0_64, h0_65, h0_66, h0_67, h0_68, h0_69])), (hct, .inl (chct, 80, .inl fhct)), (hs, .inl (chs, 80, .inl fhs)), (ha, .inl (cha, 80, .inl fha)), (hb9, .inl (chb9, 80, .inl fhb9)), (hc9, .inl (chc9, 80, .inl fhc9)), (hbd, .inl (chbd, 12, .inl fhbd)), (hlt, .inl (chlt, 144, .inl fhlt)), (hfi, .inl (chfi, 12, .inl f_5)), (hla, .inl (chla, 12, .inl f_6))] → va_S A s.heap H locs → lv_has ls 4 [(1, .int i_4), (0, .ref h0)] → W p l e ({ frames := 0, cells := 0, slots := 0, locals := 0 } : Room) s m ([.ref h0] : List Value).toArray below meth c H locs 0 0 QQ (F0 m 2 ls []) := by
    intro n_2
    induction n_2 with
    | zero => intro i_4 f_5 f_6 H locs ls hm; exact absurd hm (Nat.not_lt_zero _)
    | succ n_2 ih_3 =>
      intro i_4 f_5 f_6 H locs ls hm hF_7 hF_8 hF_9 hP hD hS hl
      refine lv_iload_n hx hb dX12_spans_2 rfl (lv_at hl 0 rfl) ?_
      refine lv_bipush (v := 12) hx hb dX12_spans_3 (by decide) ?_
      refine lv_icmp_ge (tgt := 30) hx hb dX12_spans_5 (by decide) (fun c_10 => ?_) (fun c_10 => ?_)
      · have k_11 : (12 : Int) ≤ (i_4).toInt := z_le c_10
        obtain rfl : i_4 = 12 := z_eq' (show (i_4).toInt = (12 : Int) by omega)
        refine lv_iconst (v := 0) hx hb dX12_spans_30 (by decide) ?_
        refine lv_istore_n (lv' := [(1, .int 0), (0, .ref h0)]) hx hb dX12_spans_31 rfl hl (by decide) rfl (fun ls hl => ?_)
        have loop_13 : ∀ (n_14 : Nat) (i_16 : Int32) (f_17 : Nat → Int32) (f_18 : Nat → Int32) (H : Heap) (locs : List Loc) (ls : Array Slot), (81 - (i_16).toInt).toNat < n_14 → (((0 : Int) ≤ (i_16).toInt ∧ (i_16).toInt ≤ (80 : Int))) → (k_m0 (k_D fhs fha fhb9 (k_iv fhct) fhbd (mn).toInt (i_16).toInt) 12 f_17) → (k_n0 (k_D fhs fha fhc9 (k_iv fhct) fhbd (mn).toInt (i_16).toInt) 12 f_18) → va_P (dC, dI) vwCl [(h0, .inr (12, [h0_0, h0_1, h0_2, h0_3, .int mn, .ref hs, .ref ha, .ref hb9, .ref hc9, .ref hct, h0_10, .ref hbd, .ref hlt, h0_13, .ref hfi, .ref hla, .int mq, h0_17, h0_18, h0_19, h0_20, h0_21, h0_22, h0_23, h0_24, h0_25, h0_26, h0_27, h0_28, h0_29, h0_30, h0_31, h0_32, h0_33, h0_34, h0_35, h0_36, h0_37, h0_38, h0_39, h0_40, h0_41, h0_42, h0_43, h0_44, h0_45, h0_46, h0_47, h0_48, h0_49, h0_50, h0_51, h0_52, h0_53, h0_54, h0_55, h0_56, h0_57, h0_58, h0_59, h0_60, h0_61, h0_62, h0_63, h0_64, h0_65, h0_66, h0_67, h0_68, h0_69])), (hct, .inl (chct, 80, .inl fhct)), (hs, .inl (chs, 80, .inl fhs)), (ha, .inl (cha, 80, .inl fha)), (hb9, .inl (chb9, 80, .inl fhb9)), (hc9, .inl (chc9, 80, .inl fhc9)), (hbd, .inl (chbd, 12, .inl fhbd)), (hlt, .inl (chlt, 144, .inl fhlt)), (hfi, .inl (chfi, 12, .inl f_17)), (hla, .inl (chla, 12, .inl f_18))] H → va_D A [(h0, .inr (12, [h0_0, h0_1, h0_2, h0_3, .int mn, .ref hs, .ref ha, .ref hb9, .ref hc9, .ref hct, h0_10, .ref hbd, .ref hlt, h0_13, .ref hfi, .ref hla, .int mq, h0_17, h0_18, h0_19, h0_20, h0_21, h0_22, h0_23, h0_24, h0_25, h0_26, h0_27, h0_28, h0_29, h0_30, h0_31, h0_32, h0_33, h0_34, h0_35, h0_36, h0_37, h0_38, h0_39, h0_40, h0_41, h0_42, h0_43, h0_44, h0_45, h0_46, h0_47, h0_48, h0_49, h0_50, h0_51, h0_52, h0_53, h0_54, h0_55, h0_56, h0_57, h0_58, h0_59, h0_60, h0_61, h0_62, h0_63, h0_64, h0_65, h0_66, h0_67, h0_68, h0_69])), (hct, .inl (chct, 80, .inl fhct)), (hs, .inl (chs, 80, .inl fhs)), (ha, .inl (cha, 80, .inl fha)), (hb9, .inl (chb9, 80, .inl fhb9)), (hc9, .inl (chc9, 80, .inl fhc9)), (hbd, .inl (chbd, 12, .inl fhbd)), (hlt, .inl (chlt, 144, .inl fhlt)), (hfi, .inl (chfi, 12, .inl f_17)), (hla, .inl (chla, 12, .inl f_18))] → va_S A s.heap H locs → lv_has ls 4 [(1, .int i_16), (0, .ref h0)] → W p l e ({ frames := 0, cells := 0, slots := 0, locals := 0 } : Room) s m ([.ref h0] : List Value).toArray below meth c H locs 0 0 QQ (F0 m 32 ls []) := by
          intro n_14
          induction n_14 with
          | zero => intro i_16 f_17 f_18 H locs ls hm; exact absurd hm (Nat.not_lt_zero _)
          | succ n_14 ih_15 =>
            intro i_16 f_17 f_18 H locs ls hm hF_19 hF_20 hF_21 hP hD hS hl
            refine lv_iload_n hx hb dX12_spans_32 rfl (lv_at hl 0 rfl) ?_
            refine lv_aload_n hx hb dX12_spans_33 rfl (lv_at hl 1 rfl) ?_
            refine va_get (D := (dC, dI)) (ci := 12) (v := .int mn) (C := RX12) (T := TX12) (N := 70) hx hb hts hiX12 hown hK hP 0 rfl rfl 4 (by decide) w__fieldLink_RX12_154_ShellHeapModel_notes_I_ (fun _ h9 => h9) rfl dX12_spans_34 ?_
            refine lv_icmp_ge (tgt := 152) hx hb dX12_spans_37 (by decide) (fun c_22 => ?_) (fun c_22 => ?_)
            · have k_23 : (mn).toInt ≤ (i_16).toInt := z_le c_22
              have hm00 := k_m0_i hF_20 (fun x v => (k_D_c (show (mn).toInt ≤ _ by omega) x v).symm)
              have hn00 := k_n0_i hF_21 (fun x v => (k_D_c (show (mn).toInt ≤ _ by omega) x v).symm)
              obtain ⟨fi00, hfi00⟩ : ∃ f : Nat → Int32, f = f_17 := ⟨_, rfl⟩
              obtain ⟨la00, hla00⟩ : ∃ f : Nat → Int32, f = f_18 := ⟨_, rfl⟩
              rw [← hfi00] at hm00
              rw [← hla00] at hn00
              refine lv_iconst (v := 0) hx hb dX12_spans_152 (by decide) ?_
              refine lv_istore_n (lv' := [(1, .int 0), (0, .ref h0)]) hx hb dX12_spans_153 rfl hl (by decide) rfl (fun ls hl => ?_)
              have loop_24 : ∀ (n_25 : Nat) (i_27 : Int32) (f_28 : Nat → Int32) (f_29 : Nat → Int32) (H : Heap) (locs : List Loc) (ls : Array Slot), (13 - (i_27).toInt).toNat < n_25 → (((0 : Int) ≤ (i_27).toInt ∧ (i_27).toInt ≤ (12 : Int))) → (k_li (k_M2 fhlt) 12 (12 * (i_27).toInt) 0 fi00 f_28) → (k_gi (k_M2 fhlt) 12 (12 * (i_27).toInt) 0 la00 f_29) → va_P (dC, dI) vwCl [(h0, .inr (12, [h0_0, h0_1, h0_2, h0_3, .int mn, .ref hs, .ref ha, .ref hb9, .ref hc9, .ref hct, h0_10, .ref hbd, .ref hlt, h0_13, .ref hfi, .ref hla, .int mq, h0_17, h0_18, h0_19, h0_20, h0_21, h0_22, h0_23, h0_24, h0_25, h0_26, h0_27, h0_28, h0_29, h0_30, h0_31, h0_32, h0_33, h0_34, h0_35, h0_36, h0_37, h0_38, h0_39, h0_40, h0_41, h0_42, h0_43, h0_44, h0_45, h0_46, h0_47, h0_48, h0_49, h0_50, h0_51, h0_52, h0_53, h0_54, h0_55, h0_56, h0_57, h0_58, h0_59, h0_60, h0_61, h0_62, h0_63, h0_64, h0_65, h0_66, h0_67, h0_68, h0_69])), (hct, .inl (chct, 80, .inl fhct)), (hs, .inl (chs, 80, .inl fhs)), (ha, .inl (cha, 80, .inl fha)), (hb9, .inl (chb9, 80, .inl fhb9)), (hc9, .inl (chc9, 80, .inl fhc9)), (hbd, .inl (chbd, 12, .inl fhbd)), (hlt, .inl (chlt, 144, .inl fhlt)), (hfi, .inl (chfi, 12, .inl f_28)), (hla, .inl (chla, 12, .inl f_29))] H → va_D A [(h0, .inr (12, [h0_0, h0_1, h0_2, h0_3, .int mn, .ref hs, .ref ha, .ref hb9, .ref hc9, .ref hct, h0_10, .ref hbd, .ref hlt, h0_13, .ref hfi, .ref hla, .int mq, h0_17, h0_18, h0_19, h0_20, h0_21, h0_22, h0_23, h0_24, h0_25, h0_26, h0_27, h0_28, h0_29, h0_30, h0_31, h0_32, h0_33, h0_34, h0_35, h0_36, h0_37, h0_38, h0_39, h0_40, h0_41, h0_42, h0_43, h0_44, h0_45, h0_46, h0_47, h0_48, h0_49, h0_50, h0_51, h0_52, h0_53, h0_54, h0_55, h0_56, h0_57, h0_58, h0_59, h0_60, h0_61, h0_62, h0_63, h0_64, h0_65, h0_66, h0_67, h0_68, h0_69])), (hct, .inl (chct, 80, .inl fhct)), (hs, .inl (chs, 80, .inl fhs)), (ha, .inl (cha, 80, .inl fha)), (hb9, .inl (chb9, 80, .inl fhb9)), (hc9, .inl (chc9, 80, .inl fhc9)), (hbd, .inl (chbd, 12, .inl fhbd)), (hlt, .inl (chlt, 144, .inl fhlt)), (hfi, .inl (chfi, 12, .inl f_28)), (hla, .inl (chla, 12, .inl f_29))] → va_S A s.heap H locs → lv_has ls 4 [(1, .int i_27), (0, .ref h0)] → W p l e ({ frames := 0, cells := 0, slots := 0, locals := 0 } : Room) s m ([.ref h0] : List Value).toArray below meth c H locs 0 0 QQ (F0 m 154 ls []) := by
                intro n_25
                induction n_25 with
                | zero => intro i_27 f_28 f_29 H locs ls hm; exact absurd hm (Nat.not_lt_zero _)
                | succ n_25 ih_26 =>
                  intro i_27 f_28 f_29 H locs ls hm hF_30 hF_31 hF_32 hP hD hS hl
                  refine lv_iload_n hx hb dX12_spans_154 rfl (lv_at hl 0 rfl) ?_
                  refine lv_bipush (v := 12) hx hb dX12_spans_155 (by decide) ?_
                  refine lv_icmp_ge (tgt := 283) hx hb dX12_spans_157 (by decide) (fun c_33 => ?_) (fun c_33 => ?_)
                  · have k_34 : (12 : Int) ≤ (i_27).toInt := z_le c_33
                    obtain rfl : i_27 = 12 := z_eq' (show (i_27).toInt = (12 : Int) by omega)
                    have hSP : k_SP (k_M2 fhlt) (k_D fhs fha fhb9 (k_iv fhct) fhbd (mn).toInt (mn).toInt) (k_D fhs fha fhc9 (k_iv fhct) fhbd (mn).toInt (mn).toInt) 12 f_28 f_29 := fun x hx => ⟨k_max_of hm00 hF_31 (by omega) k_M2_in x hx, k_min_of hn00 hF_32 (by omega) k_M2_in1 x hx⟩
                    refine lv_aload_n hx hb dX12_spans_283 rfl (lv_at hl 1 rfl) ?_
                    refine va_get (D := (dC, dI)) (ci := 12) (v := .int mq) (C := RX12) (T := TX12) (N := 70) hx hb hts hiX12 hown hK hP 0 rfl rfl 16 (by decide) w__fieldLink_RX12_167_ShellHeapModel_quarrelNow_I_ (fun _ h9 => h9) rfl dX12_spans_284 ?_
                    refine lv_iconst (v := 1) hx hb dX12_spans_287 (by decide) ?_
                    refine lv_icmp_ne (tgt := 292) hx hb dX12_spans_288 (by decide) (fun c_36 => ?_) (fun c_36 => ?_)
                    · have k_37 : (mq).toInt ≠ (1 : Int) := z_ne c_36
                      refine lv_iconst (v := 0) hx hb dX12_spans_292 (by decide) ?_
                      refine lv_istore_n (lv' := [(1, .int 0), (0, .ref h0)]) hx hb dX12_spans_293 rfl hl (by decide) rfl (fun ls hl => ?_)
                      have loop_38 : ∀ (n_39 : Nat) (i_41 : Int32) (v_42 : Int32) (H : Heap) (locs : List Loc) (ls : Array Slot), (13 - (i_41).toInt).toNat < n_39 → (((0 : Int) ≤ (i_41).toInt ∧ (i_41).toInt ≤ (12 : Int))) → (((0 : Int) ≤ (v_42).toInt ∧ (v_42).toInt ≤ (2 : Int))) → (k_ql (i_41).toInt f_28 f_29 (v_42).toInt) → va_P (dC, dI) vwCl [(h0, .inr (12, [h0_0, h0_1, h0_2, h0_3, .int mn, .ref hs, .ref ha, .ref hb9, .ref hc9, .ref hct, h0_10, .ref hbd, .ref hlt, h0_13, .ref hfi, .ref hla, .int v_42, h0_17, h0_18, h0_19, h0_20, h0_21, h0_22, h0_23, h0_24, h0_25, h0_26, h0_27, h0_28, h0_29, h0_30, h0_31, h0_32, h0_33, h0_34, h0_35, h0_36, h0_37, h0_38, h0_39, h0_40, h0_41, h0_42, h0_43, h0_44, h0_45, h0_46, h0_47, h0_48, h0_49, h0_50, h0_51, h0_52, h0_53, h0_54, h0_55, h0_56, h0_57, h0_58, h0_59, h0_60, h0_61, h0_62, h0_63, h0_64, h0_65, h0_66, h0_67, h0_68, h0_69])), (hct, .inl (chct, 80, .inl fhct)), (hs, .inl (chs, 80, .inl fhs)), (ha, .inl (cha, 80, .inl fha)), (hb9, .inl (chb9, 80, .inl fhb9)), (hc9, .inl (chc9, 80, .inl fhc9)), (hbd, .inl (chbd, 12, .inl fhbd)), (hlt, .inl (chlt, 144, .inl fhlt)), (hfi, .inl (chfi, 12, .inl f_28)), (hla, .inl (chla, 12, .inl f_29))] H → va_D A [(h0, .inr (12, [h0_0, h0_1, h0_2, h0_3, .int mn, .ref hs, .ref ha, .ref hb9, .ref hc9, .ref hct, h0_10, .ref hbd, .ref hlt, h0_13, .ref hfi, .ref hla, .int v_42, h0_17, h0_18, h0_19, h0_20, h0_21, h0_22, h0_23, h0_24, h0_25, h0_26, h0_27, h0_28, h0_29, h0_30, h0_31, h0_32, h0_33, h0_34, h0_35, h0_36, h0_37, h0_38, h0_39, h0_40, h0_41, h0_42, h0_43, h0_44, h0_45, h0_46, h0_47, h0_48, h0_49, h0_50, h0_51, h0_52, h0_53, h0_54, h0_55, h0_56, h0_57, h0_58, h0_59, h0_60, h0_61, h0_62, h0_63, h0_64, h0_65, h0_66, h0_67, h0_68, h0_69])), (hct, .inl (chct, 80, .inl fhct)), (hs, .inl (chs, 80, .inl fhs)), (ha, .inl (cha, 80, .inl fha)), (hb9, .inl (chb9, 80, .inl fhb9)), (hc9, .inl (chc9, 80, .inl fhc9)), (hbd, .inl (chbd, 12, .inl fhbd)), (hlt, .inl (chlt, 144, .inl fhlt)), (hfi, .inl (chfi, 12, .inl f_28)), (hla, .inl (chla, 12, .inl f_29))] → va_S A s.heap H locs → lv_has ls 4 [(1, .int i_41), (0, .ref h0)] → W p l e ({ frames := 0, cells := 0, slots := 0, locals := 0 } : Room) s m ([.ref h0] : List Value).toArray below meth c H locs 0 0 QQ (F0 m 294 ls []) := by
                        intro n_39
                        induction n_39 with
                        | zero => intro i_41 v_42 H locs ls hm; exact absurd hm (Nat.not_lt_zero _)
                        | succ n_39 ih_40 =>
                          intro i_41 v_42 H locs ls hm hF_43 hF_44 hF_45 hP hD hS hl
                          refine lv_iload_n hx hb dX12_spans_294 rfl (lv_at hl 0 rfl) ?_
                          refine lv_bipush (v := 12) hx hb dX12_spans_295 (by decide) ?_
                          refine lv_icmp_ge (tgt := 333) hx hb dX12_spans_297 (by decide) (fun c_46 => ?_) (fun c_46 => ?_)
                          · have k_47 : (12 : Int) ≤ (i_41).toInt := z_le c_46
                            obtain rfl : i_41 = 12 := z_eq' (show (i_41).toInt = (12 : Int) by omega)
                            refine z_backQ hQQ ?_
                            have hP9 := hP
                            have hD9 := hD
                            have hK9 := hK.sub (tys' := []) [] rfl
                            refine W.widen (k := 0) (n := 0) (Nat.le_of_ble_eq_true rfl) (Nat.le_of_ble_eq_true rfl) ?_
                            exact W.vret hx hb hr (fun t ht hW => ⟨⟨(), rfl, trivial, ⟨v_42, f_28, f_29, hF_44, (show k_SP (k_M2 fhlt) (k_D fhs fha fhb9 (k_iv fhct) fhbd mn.toInt mn.toInt) (k_D fhs fha fhc9 (k_iv fhct) fhbd mn.toInt mn.toInt) 12 f_28 f_29 from hSP), (show k_q3 mq.toInt f_28 f_29 v_42.toInt from Or.inr ⟨by omega, k_ql_e hF_45 (by omega) (by omega)⟩), by rw [ht]; exact hP9, va_K.moved hW.alike hK9, hD9⟩⟩, hS.F ht⟩) hS.2.2 dX12_spans_333
                          · have k_49 : (12 : Int) > (i_41).toInt := z_nle c_46
                            refine lv_aload_n hx hb dX12_spans_300 rfl (lv_at hl 1 rfl) ?_
                            refine lv_aload_n hx hb dX12_spans_301 rfl (lv_at hl 1 rfl) ?_
                            refine va_get (D := (dC, dI)) (ci := 12) (v := .ref hfi) (C := RX12) (T := TX12) (N := 70) hx hb hts hiX12 hown hK hP 0 rfl rfl 14 (by decide) w__fieldLink_RX12_41_ShellHeapModel_first_I_ (fun _ h9 => h9) rfl dX12_spans_302 ?_
                            refine lv_iload_n hx hb dX12_spans_305 rfl (lv_at hl 0 rfl) ?_
                            refine va_iald hx hb hK hP 8 7 rfl rfl (z_vpin (by omega) (by omega)) dX12_spans_306 ?_
                            refine lv_topi (fun z_50 ez_50 => ?_)
                            have kxz_50 : (z_50).toInt = (f_28 (i_41 : Int32).toNatClampNeg).toInt := by rw [ez_50]
                            refine lv_aload_n hx hb dX12_spans_307 rfl (lv_at hl 1 rfl) ?_
                            refine va_get (D := (dC, dI)) (ci := 12) (v := .ref hla) (C := RX12) (T := TX12) (N := 70) hx hb hts hiX12 hown hK hP 0 rfl rfl 15 (by decide) w__fieldLink_RX12_44_ShellHeapModel_last_I_ (fun _ h9 => h9) rfl dX12_spans_308 ?_
                            refine lv_iload_n hx hb dX12_spans_311 rfl (lv_at hl 0 rfl) ?_
                            refine va_iald hx hb hK hP 9 8 rfl rfl (z_vpin (by omega) (by omega)) dX12_spans_312 ?_
                            refine lv_topi (fun z_51 ez_51 => ?_)
                            have kxz_51 : (z_51).toInt = (f_29 (i_41 : Int32).toNatClampNeg).toInt := by rw [ez_51]
                            refine lv_icmp_le (tgt := 320) hx hb dX12_spans_313 (by decide) (fun c_52 => ?_) (fun c_52 => ?_)
                            · have k_53 : (z_50).toInt ≤ (z_51).toInt := z_le c_52
                              refine lv_aload_n hx hb dX12_spans_320 rfl (lv_at hl 1 rfl) ?_
                              refine va_get (D := (dC, dI)) (ci := 12) (v := .int v_42) (C := RX12) (T := TX12) (N := 70) hx hb hts hiX12 hown hK hP 0 rfl rfl 16 (by decide) w__fieldLink_RX12_167_ShellHeapModel_quarrelNow_I_ (fun _ h9 => h9) rfl dX12_spans_321 ?_
                              refine va_put (D := (dC, dI)) (ci := 12) (v := .int v_42) (ty := .int) (C := RX12) (T := TX12) (N := 70) hx hb hts hiX12 tyX12 tyX12_ok nmX12 hown hK hP hD hS 0 rfl rfl 16 (by decide) w__fieldLink_RX12_167_ShellHeapModel_quarrelNow_I_ (fun _ h9 => h9) rfl (by decide +kernel) rfl rfl (Nat.le_of_ble_eq_true rfl) dX12_spans_324 (fun H_54 locs hP hD hS => ?_)
                              obtain ⟨hP, hD⟩ := z_s_0_16 hP hD
                              obtain ⟨z_55, ez_55⟩ : ∃ y : Int32, y = i_41 + 1 := ⟨_, rfl⟩
                              have kz_55 : (z_55).toInt = (i_41).toInt + (1 : Int) := by rw [ez_55]; exact z_add (b := 1) rfl rfl (z_al hF_43.1 (by decide)) (z_ah hF_43.2 (by decide))
                              refine lv_iinc (v := z_55) (lv' := [(1, .int z_55), (0, .ref h0)]) hx hb dX12_spans_327 hl (k := 0) rfl (by rw [ez_55]; rfl) (by decide) rfl (fun ls hl => ?_)
                              refine lv_goto (tgt := 294) hx hb dX12_spans_330 (by decide) ?_
                              exact ih_40 z_55 v_42 _ _ _ (show (13 - (z_55).toInt).toNat < n_39 by omega) (show ((0 : Int) ≤ (z_55).toInt ∧ (z_55).toInt ≤ (12 : Int)) by omega) (show ((0 : Int) ≤ (v_42).toInt ∧ (v_42).toInt ≤ (2 : Int)) by omega) (show k_ql (z_55).toInt f_28 f_29 (v_42).toInt from k_ql_n (i := i_41) hF_45 (by omega) (by omega) (by omega)) hP hD hS (lv_sub hl [0, 1] rfl)
                            · have k_56 : (z_50).toInt > (z_51).toInt := z_nle c_52
                              refine lv_iconst (v := 2) hx hb dX12_spans_316 (by decide) ?_
                              refine lv_goto (tgt := 324) hx hb dX12_spans_317 (by decide) ?_
                              refine va_put (D := (dC, dI)) (ci := 12) (v := .int 2) (ty := .int) (C := RX12) (T := TX12) (N := 70) hx hb hts hiX12 tyX12 tyX12_ok nmX12 hown hK hP hD hS 0 rfl rfl 16 (by decide) w__fieldLink_RX12_167_ShellHeapModel_quarrelNow_I_ (fun _ h9 => h9) rfl (by decide +kernel) rfl rfl (Nat.le_of_ble_eq_true rfl) dX12_spans_324 (fun H_57 locs hP hD hS => ?_)
                              obtain ⟨hP, hD⟩ := z_s_0_16 hP hD
                              obtain ⟨z_58, ez_58⟩ : ∃ y : Int32, y = i_41 + 1 := ⟨_, rfl⟩
                              have kz_58 : (z_58).toInt = (i_41).toInt + (1 : Int) := by rw [ez_58]; exact z_add (b := 1) rfl rfl (z_al hF_43.1 (by decide)) (z_ah hF_43.2 (by decide))
                              refine lv_iinc (v := z_58) (lv' := [(1, .int z_58), (0, .ref h0)]) hx hb dX12_spans_327 hl (k := 0) rfl (by rw [ez_58]; rfl) (by decide) rfl (fun ls hl => ?_)
                              refine lv_goto (tgt := 294) hx hb dX12_spans_330 (by decide) ?_
                              exact ih_40 z_58 2 _ _ _ (show (13 - (z_58).toInt).toNat < n_39 by omega) (show ((0 : Int) ≤ (z_58).toInt ∧ (z_58).toInt ≤ (12 : Int)) by omega) (show ((0 : Int) ≤ (2 : Int) ∧ (2 : Int) ≤ (2 : Int)) by omega) (show k_ql (z_58).toInt f_28 f_29 (2 : Int) from k_ql_y (i := i_41) (by omega) (by omega) (by omega) rfl) hP hD hS (lv_sub hl [0, 1] rfl)
                      exact loop_38 _ 0 mq _ _ _ (Nat.lt_succ_self _) (show ((0 : Int) ≤ (0 : Int) ∧ (0 : Int) ≤ (12 : Int)) by omega) (show ((0 : Int) ≤ (mq).toInt ∧ (mq).toInt ≤ (2 : Int)) by omega) (show k_ql (0 : Int) f_28 f_29 (mq).toInt from k_ql_0 (by omega)) hP hD hS hl
                    · have k_59 : (mq).toInt = (1 : Int) := z_eq c_36
                      refine z_backQ hQQ ?_
                      have hP9 := hP
                      have hD9 := hD
                      have hK9 := hK.sub (tys' := []) [] rfl
                      refine W.widen (k := 0) (n := 0) (Nat.le_of_ble_eq_true rfl) (Nat.le_of_ble_eq_true rfl) ?_
                      exact W.vret hx hb hr (fun t ht hW => ⟨⟨(), rfl, trivial, ⟨mq, f_28, f_29, hB_mq, (show k_SP (k_M2 fhlt) (k_D fhs fha fhb9 (k_iv fhct) fhbd mn.toInt mn.toInt) (k_D fhs fha fhc9 (k_iv fhct) fhbd mn.toInt mn.toInt) 12 f_28 f_29 from hSP), (show k_q3 mq.toInt f_28 f_29 mq.toInt from Or.inl ⟨by omega, by omega⟩), by rw [ht]; exact hP9, va_K.moved hW.alike hK9, hD9⟩⟩, hS.F ht⟩) hS.2.2 dX12_spans_291
                  · have k_60 : (12 : Int) > (i_27).toInt := z_nle c_33
                    refine lv_iconst (v := 0) hx hb dX12_spans_160 (by decide) ?_
                    refine lv_istore_n (lv' := [(2, .int 0), (1, .int i_27), (0, .ref h0)]) hx hb dX12_spans_161 rfl hl (by decide) rfl (fun ls hl => ?_)
                    have loop_61 : ∀ (n_62 : Nat) (i_64 : Int32) (f_65 : Nat → Int32) (f_66 : Nat → Int32) (H : Heap) (locs : List Loc) (ls : Array Slot), (13 - (i_64).toInt).toNat < n_62 → (((0 : Int) ≤ (i_64).toInt ∧ (i_64).toInt ≤ (12 : Int))) → (k_li (k_M2 fhlt) 12 (i_64).toInt 0 fi00 f_65) → (k_gi (k_M2 fhlt) 12 (i_64).toInt 0 la00 f_66) → va_P (dC, dI) vwCl [(h0, .inr (12, [h0_0, h0_1, h0_2, h0_3, .int mn, .ref hs, .ref ha, .ref hb9, .ref hc9, .ref hct, h0_10, .ref hbd, .ref hlt, h0_13, .ref hfi, .ref hla, .int mq, h0_17, h0_18, h0_19, h0_20, h0_21, h0_22, h0_23, h0_24, h0_25, h0_26, h0_27, h0_28, h0_29, h0_30, h0_31, h0_32, h0_33, h0_34, h0_35, h0_36, h0_37, h0_38, h0_39, h0_40, h0_41, h0_42, h0_43, h0_44, h0_45, h0_46, h0_47, h0_48, h0_49, h0_50, h0_51, h0_52, h0_53, h0_54, h0_55, h0_56, h0_57, h0_58, h0_59, h0_60, h0_61, h0_62, h0_63, h0_64, h0_65, h0_66, h0_67, h0_68, h0_69])), (hct, .inl (chct, 80, .inl fhct)), (hs, .inl (chs, 80, .inl fhs)), (ha, .inl (cha, 80, .inl fha)), (hb9, .inl (chb9, 80, .inl fhb9)), (hc9, .inl (chc9, 80, .inl fhc9)), (hbd, .inl (chbd, 12, .inl fhbd)), (hlt, .inl (chlt, 144, .inl fhlt)), (hfi, .inl (chfi, 12, .inl f_65)), (hla, .inl (chla, 12, .inl f_66))] H → va_D A [(h0, .inr (12, [h0_0, h0_1, h0_2, h0_3, .int mn, .ref hs, .ref ha, .ref hb9, .ref hc9, .ref hct, h0_10, .ref hbd, .ref hlt, h0_13, .ref hfi, .ref hla, .int mq, h0_17, h0_18, h0_19, h0_20, h0_21, h0_22, h0_23, h0_24, h0_25, h0_26, h0_27, h0_28, h0_29, h0_30, h0_31, h0_32, h0_33, h0_34, h0_35, h0_36, h0_37, h0_38, h0_39, h0_40, h0_41, h0_42, h0_43, h0_44, h0_45, h0_46, h0_47, h0_48, h0_49, h0_50, h0_51, h0_52, h0_53, h0_54, h0_55, h0_56, h0_57, h0_58, h0_59, h0_60, h0_61, h0_62, h0_63, h0_64, h0_65, h0_66, h0_67, h0_68, h0_69])), (hct, .inl (chct, 80, .inl fhct)), (hs, .inl (chs, 80, .inl fhs)), (ha, .inl (cha, 80, .inl fha)), (hb9, .inl (chb9, 80, .inl fhb9)), (hc9, .inl (chc9, 80, .inl fhc9)), (hbd, .inl (chbd, 12, .inl fhbd)), (hlt, .inl (chlt, 144, .inl fhlt)), (hfi, .inl (chfi, 12, .inl f_65)), (hla, .inl (chla, 12, .inl f_66))] → va_S A s.heap H locs → lv_has ls 4 [(2, .int i_64), (1, .int i_27), (0, .ref h0)] → W p l e ({ frames := 0, cells := 0, slots := 0, locals := 0 } : Room) s m ([.ref h0] : List Value).toArray below meth c H locs 0 0 QQ (F0 m 162 ls []) := by
                      intro n_62
                      induction n_62 with
                      | zero => intro i_64 f_65 f_66 H locs ls hm; exact absurd hm (Nat.not_lt_zero _)
                      | succ n_62 ih_63 =>
                        intro i_64 f_65 f_66 H locs ls hm hF_67 hF_68 hF_69 hP hD hS hl
                        refine lv_iload_n hx hb dX12_spans_162 rfl (lv_at hl 0 rfl) ?_
                        refine lv_bipush (v := 12) hx hb dX12_spans_163 (by decide) ?_
                        refine lv_icmp_ge (tgt := 277) hx hb dX12_spans_165 (by decide) (fun c_70 => ?_) (fun c_70 => ?_)
                        · have k_71 : (12 : Int) ≤ (i_64).toInt := z_le c_70
                          obtain rfl : i_64 = 12 := z_eq' (show (i_64).toInt = (12 : Int) by omega)
                          obtain ⟨z_73, ez_73⟩ : ∃ y : Int32, y = i_27 + 1 := ⟨_, rfl⟩
                          have kz_73 : (z_73).toInt = (i_27).toInt + (1 : Int) := by rw [ez_73]; exact z_add (b := 1) rfl rfl (z_al hF_30.1 (by decide)) (z_ah hF_30.2 (by decide))
                          refine lv_iinc (v := z_73) (lv' := [(1, .int z_73), (2, .int 12), (0, .ref h0)]) hx hb dX12_spans_277 hl (k := 1) rfl (by rw [ez_73]; rfl) (by decide) rfl (fun ls hl => ?_)
                          refine lv_goto (tgt := 154) hx hb dX12_spans_280 (by decide) ?_
                          exact ih_26 z_73 f_65 f_66 _ _ _ (show (13 - (z_73).toInt).toNat < n_25 by omega) (show ((0 : Int) ≤ (z_73).toInt ∧ (z_73).toInt ≤ (12 : Int)) by omega) (show k_li (k_M2 fhlt) 12 (12 * (z_73).toInt) 0 fi00 f_65 from k_li_w hF_68 (fun x y _ _ _ _ _ => by omega)) (show k_gi (k_M2 fhlt) 12 (12 * (z_73).toInt) 0 la00 f_66 from k_gi_w hF_69 (fun x y _ _ _ _ _ => by omega)) hP hD hS (lv_sub hl [0, 2] rfl)
                        · have k_74 : (12 : Int) > (i_64).toInt := z_nle c_70
                          refine lv_iconst (v := 0) hx hb dX12_spans_168 (by decide) ?_
                          refine lv_istore_n (lv' := [(3, .int 0), (2, .int i_64), (1, .int i_27), (0, .ref h0)]) hx hb dX12_spans_169 rfl hl (by decide) rfl (fun ls hl => ?_)
                          have loop_75 : ∀ (n_76 : Nat) (i_78 : Int32) (f_79 : Nat → Int32) (f_80 : Nat → Int32) (H : Heap) (locs : List Loc) (ls : Array Slot), (13 - (i_78).toInt).toNat < n_76 → (((0 : Int) ≤ (i_78).toInt ∧ (i_78).toInt ≤ (12 : Int))) → (k_li (k_M2 fhlt) 12 (i_64).toInt (i_78).toInt fi00 f_79) → (k_gi (k_M2 fhlt) 12 (i_64).toInt (i_78).toInt la00 f_80) → va_P (dC, dI) vwCl [(h0, .inr (12, [h0_0, h0_1, h0_2, h0_3, .int mn, .ref hs, .ref ha, .ref hb9, .ref hc9, .ref hct, h0_10, .ref hbd, .ref hlt, h0_13, .ref hfi, .ref hla, .int mq, h0_17, h0_18, h0_19, h0_20, h0_21, h0_22, h0_23, h0_24, h0_25, h0_26, h0_27, h0_28, h0_29, h0_30, h0_31, h0_32, h0_33, h0_34, h0_35, h0_36, h0_37, h0_38, h0_39, h0_40, h0_41, h0_42, h0_43, h0_44, h0_45, h0_46, h0_47, h0_48, h0_49, h0_50, h0_51, h0_52, h0_53, h0_54, h0_55, h0_56, h0_57, h0_58, h0_59, h0_60, h0_61, h0_62, h0_63, h0_64, h0_65, h0_66, h0_67, h0_68, h0_69])), (hct, .inl (chct, 80, .inl fhct)), (hs, .inl (chs, 80, .inl fhs)), (ha, .inl (cha, 80, .inl fha)), (hb9, .inl (chb9, 80, .inl fhb9)), (hc9, .inl (chc9, 80, .inl fhc9)), (hbd, .inl (chbd, 12, .inl fhbd)), (hlt, .inl (chlt, 144, .inl fhlt)), (hfi, .inl (chfi, 12, .inl f_79)), (hla, .inl (chla, 12, .inl f_80))] H → va_D A [(h0, .inr (12, [h0_0, h0_1, h0_2, h0_3, .int mn, .ref hs, .ref ha, .ref hb9, .ref hc9, .ref hct, h0_10, .ref hbd, .ref hlt, h0_13, .ref hfi, .ref hla, .int mq, h0_17, h0_18, h0_19, h0_20, h0_21, h0_22, h0_23, h0_24, h0_25, h0_26, h0_27, h0_28, h0_29, h0_30, h0_31, h0_32, h0_33, h0_34, h0_35, h0_36, h0_37, h0_38, h0_39, h0_40, h0_41, h0_42, h0_43, h0_44, h0_45, h0_46, h0_47, h0_48, h0_49, h0_50, h0_51, h0_52, h0_53, h0_54, h0_55, h0_56, h0_57, h0_58, h0_59, h0_60, h0_61, h0_62, h0_63, h0_64, h0_65, h0_66, h0_67, h0_68, h0_69])), (hct, .inl (chct, 80, .inl fhct)), (hs, .inl (chs, 80, .inl fhs)), (ha, .inl (cha, 80, .inl fha)), (hb9, .inl (chb9, 80, .inl fhb9)), (hc9, .inl (chc9, 80, .inl fhc9)), (hbd, .inl (chbd, 12, .inl fhbd)), (hlt, .inl (chlt, 144, .inl fhlt)), (hfi, .inl (chfi, 12, .inl f_79)), (hla, .inl (chla, 12, .inl f_80))] → va_S A s.heap H locs → lv_has ls 4 [(3, .int i_78), (2, .int i_64), (1, .int i_27), (0, .ref h0)] → W p l e ({ frames := 0, cells := 0, slots := 0, locals := 0 } : Room) s m ([.ref h0] : List Value).toArray below meth c H locs 0 0 QQ (F0 m 170 ls []) := by
                            intro n_76
                            induction n_76 with
                            | zero => intro i_78 f_79 f_80 H locs ls hm; exact absurd hm (Nat.not_lt_zero _)
                            | succ n_76 ih_77 =>
                              intro i_78 f_79 f_80 H locs ls hm hF_81 hF_82 hF_83 hP hD hS hl
                              refine lv_iload_n hx hb dX12_spans_170 rfl (lv_at hl 0 rfl) ?_
                              refine lv_bipush (v := 12) hx hb dX12_spans_171 (by decide) ?_
                              refine lv_icmp_ge (tgt := 271) hx hb dX12_spans_173 (by decide) (fun c_84 => ?_) (fun c_84 => ?_)
                              · have k_85 : (12 : Int) ≤ (i_78).toInt := z_le c_84
                                obtain rfl : i_78 = 12 := z_eq' (show (i_78).toInt = (12 : Int) by omega)
                                obtain ⟨z_87, ez_87⟩ : ∃ y : Int32, y = i_64 + 1 := ⟨_, rfl⟩
                                have kz_87 : (z_87).toInt = (i_64).toInt + (1 : Int) := by rw [ez_87]; exact z_add (b := 1) rfl rfl (z_al hF_67.1 (by decide)) (z_ah hF_67.2 (by decide))
                                refine lv_iinc (v := z_87) (lv' := [(2, .int z_87), (3, .int 12), (1, .int i_27), (0, .ref h0)]) hx hb dX12_spans_271 hl (k := 1) rfl (by rw [ez_87]; rfl) (by decide) rfl (fun ls hl => ?_)
                                refine lv_goto (tgt := 162) hx hb dX12_spans_274 (by decide) ?_
                                exact ih_63 z_87 f_79 f_80 _ _ _ (show (13 - (z_87).toInt).toNat < n_62 by omega) (show ((0 : Int) ≤ (z_87).toInt ∧ (z_87).toInt ≤ (12 : Int)) by omega) (show k_li (k_M2 fhlt) 12 (z_87).toInt 0 fi00 f_79 from k_li_w hF_82 (fun x y _ _ _ _ _ => by omega)) (show k_gi (k_M2 fhlt) 12 (z_87).toInt 0 la00 f_80 from k_gi_w hF_83 (fun x y _ _ _ _ _ => by omega)) hP hD hS (lv_sub hl [0, 2, 3] rfl)
                              · have k_88 : (12 : Int) > (i_78).toInt := z_nle c_84
                                refine lv_aload_n hx hb dX12_spans_176 rfl (lv_at hl 3 rfl) ?_
                                refine va_get (D := (dC, dI)) (ci := 12) (v := .ref hlt) (C := RX12) (T := TX12) (N := 70) hx hb hts hiX12 hown hK hP 0 rfl rfl 12 (by decide) w__fieldLink_RX12_35_ShellHeapModel_later_Z_ (fun _ h9 => h9) rfl dX12_spans_177 ?_
                                refine lv_bipush (v := 12) hx hb dX12_spans_180 (by decide) ?_
                                refine lv_iload_n hx hb dX12_spans_182 rfl (lv_at hl 1 rfl) ?_
                                refine lv_imul hx hb dX12_spans_183 ?_
                                refine lv_topi (fun z_89 ez_89 => ?_)
                                have kz_89 : (z_89).toInt = (12 : Int) * (i_64).toInt := by rw [ez_89]; exact z_mul (a := (12 : Int)) (b := (i_64).toInt) rfl rfl (by omega) (by omega)
                                refine lv_iload_n hx hb dX12_spans_184 rfl (lv_at hl 0 rfl) ?_
                                refine lv_iadd hx hb dX12_spans_185 ?_
                                refine lv_topi (fun z_90 ez_90 => ?_)
                                have kz_90 : (z_90).toInt = (z_89).toInt + (i_78).toInt := by rw [ez_90]; exact z_add (a := (z_89).toInt) (b := (i_78).toInt) rfl rfl (by omega) (by omega)
                                refine va_zald hx hb hK hP 7 6 rfl rfl (z_vpin (by omega) (by omega)) dX12_spans_186 ?_
                                refine lv_topi (fun z_91 ez_91 => ?_)
                                have kxz_91 : (z_91).toInt = (fhlt (z_90 : Int32).toNatClampNeg).toInt := by rw [ez_91]
                                refine lv_if_ne (tgt := 193) hx hb dX12_spans_187 (by decide) (fun c_92 => ?_) (fun c_92 => ?_)
                                · have k_93 : (z_91).toInt ≠ (0 : Int) := z_ne c_92
                                  refine lv_aload_n hx hb dX12_spans_193 rfl (lv_at hl 3 rfl) ?_
                                  refine va_get (D := (dC, dI)) (ci := 12) (v := .ref hfi) (C := RX12) (T := TX12) (N := 70) hx hb hts hiX12 hown hK hP 0 rfl rfl 14 (by decide) w__fieldLink_RX12_41_ShellHeapModel_first_I_ (fun _ h9 => h9) rfl dX12_spans_194 ?_
                                  refine lv_iload_n hx hb dX12_spans_197 rfl (lv_at hl 1 rfl) ?_
                                  refine lv_aload_n hx hb dX12_spans_198 rfl (lv_at hl 3 rfl) ?_
                                  refine va_get (D := (dC, dI)) (ci := 12) (v := .ref hfi) (C := RX12) (T := TX12) (N := 70) hx hb hts hiX12 hown hK hP 0 rfl rfl 14 (by decide) w__fieldLink_RX12_41_ShellHeapModel_first_I_ (fun _ h9 => h9) rfl dX12_spans_199 ?_
                                  refine lv_iload_n hx hb dX12_spans_202 rfl (lv_at hl 0 rfl) ?_
                                  refine va_iald hx hb hK hP 8 7 rfl rfl (z_vpin (by omega) (by omega)) dX12_spans_203 ?_
                                  refine lv_topi (fun z_94 ez_94 => ?_)
                                  have kxz_94 : (z_94).toInt = (f_79 (i_78 : Int32).toNatClampNeg).toInt := by rw [ez_94]
                                  refine lv_aload_n hx hb dX12_spans_204 rfl (lv_at hl 3 rfl) ?_
                                  refine va_get (D := (dC, dI)) (ci := 12) (v := .ref hfi) (C := RX12) (T := TX12) (N := 70) hx hb hts hiX12 hown hK hP 0 rfl rfl 14 (by decide) w__fieldLink_RX12_41_ShellHeapModel_first_I_ (fun _ h9 => h9) rfl dX12_spans_205 ?_
                                  refine lv_iload_n hx hb dX12_spans_208 rfl (lv_at hl 1 rfl) ?_
                                  refine va_iald hx hb hK hP 8 7 rfl rfl (z_vpin (by omega) (by omega)) dX12_spans_209 ?_
                                  refine lv_topi (fun z_95 ez_95 => ?_)
                                  have kxz_95 : (z_95).toInt = (f_79 (i_64 : Int32).toNatClampNeg).toInt := by rw [ez_95]
                                  refine lv_icmp_le (tgt := 222) hx hb dX12_spans_210 (by decide) (fun c_96 => ?_) (fun c_96 => ?_)
                                  · have k_97 : (z_94).toInt ≤ (z_95).toInt := z_le c_96
                                    refine lv_aload_n hx hb dX12_spans_222 rfl (lv_at hl 3 rfl) ?_
                                    refine va_get (D := (dC, dI)) (ci := 12) (v := .ref hfi) (C := RX12) (T := TX12) (N := 70) hx hb hts hiX12 hown hK hP 0 rfl rfl 14 (by decide) w__fieldLink_RX12_41_ShellHeapModel_first_I_ (fun _ h9 => h9) rfl dX12_spans_223 ?_
                                    refine lv_iload_n hx hb dX12_spans_226 rfl (lv_at hl 1 rfl) ?_
                                    refine va_iald hx hb hK hP 8 7 rfl rfl (z_vpin (by omega) (by omega)) dX12_spans_227 ?_
                                    refine lv_topi (fun z_98 ez_98 => ?_)
                                    have kxz_98 : (z_98).toInt = (f_79 (i_64 : Int32).toNatClampNeg).toInt := by rw [ez_98]
                                    refine va_iast hx hb hK hP hD hS 8 7 rfl rfl (z_vpin (by omega) (by omega)) dX12_spans_228 (fun H_99 locs hP hD hS => ?_)
                                    obtain ⟨hP, hD⟩ := z_s_8 hP hD
                                    refine lv_aload_n hx hb dX12_spans_229 rfl (lv_at hl 3 rfl) ?_
                                    refine va_get (D := (dC, dI)) (ci := 12) (v := .ref hla) (C := RX12) (T := TX12) (N := 70) hx hb hts hiX12 hown hK hP 0 rfl rfl 15 (by decide) w__fieldLink_RX12_44_ShellHeapModel_last_I_ (fun _ h9 => h9) rfl dX12_spans_230 ?_
                                    refine lv_iload_n hx hb dX12_spans_233 rfl (lv_at hl 0 rfl) ?_
                                    refine lv_aload_n hx hb dX12_spans_234 rfl (lv_at hl 3 rfl) ?_
                                    refine va_get (D := (dC, dI)) (ci := 12) (v := .ref hla) (C := RX12) (T := TX12) (N := 70) hx hb hts hiX12 hown hK hP 0 rfl rfl 15 (by decide) w__fieldLink_RX12_44_ShellHeapModel_last_I_ (fun _ h9 => h9) rfl dX12_spans_235 ?_
                                    refine lv_iload_n hx hb dX12_spans_238 rfl (lv_at hl 1 rfl) ?_
                                    refine va_iald hx hb hK hP 9 8 rfl rfl (z_vpin (by omega) (by omega)) dX12_spans_239 ?_
                                    refine lv_topi (fun z_101 ez_101 => ?_)
                                    have kxz_101 : (z_101).toInt = (f_80 (i_64 : Int32).toNatClampNeg).toInt := by rw [ez_101]
                                    refine lv_aload_n hx hb dX12_spans_240 rfl (lv_at hl 3 rfl) ?_
                                    refine va_get (D := (dC, dI)) (ci := 12) (v := .ref hla) (C := RX12) (T := TX12) (N := 70) hx hb hts hiX12 hown hK hP 0 rfl rfl 15 (by decide) w__fieldLink_RX12_44_ShellHeapModel_last_I_ (fun _ h9 => h9) rfl dX12_spans_241 ?_
                                    refine lv_iload_n hx hb dX12_spans_244 rfl (lv_at hl 0 rfl) ?_
                                    refine va_iald hx hb hK hP 9 8 rfl rfl (z_vpin (by omega) (by omega)) dX12_spans_245 ?_
                                    refine lv_topi (fun z_102 ez_102 => ?_)
                                    have kxz_102 : (z_102).toInt = (f_80 (i_78 : Int32).toNatClampNeg).toInt := by rw [ez_102]
                                    refine lv_icmp_ge (tgt := 258) hx hb dX12_spans_246 (by decide) (fun c_103 => ?_) (fun c_103 => ?_)
                                    · have k_104 : (z_102).toInt ≤ (z_101).toInt := z_le c_103
                                      refine lv_aload_n hx hb dX12_spans_258 rfl (lv_at hl 3 rfl) ?_
                                      refine va_get (D := (dC, dI)) (ci := 12) (v := .ref hla) (C := RX12) (T := TX12) (N := 70) hx hb hts hiX12 hown hK hP 0 rfl rfl 15 (by decide) w__fieldLink_RX12_44_ShellHeapModel_last_I_ (fun _ h9 => h9) rfl dX12_spans_259 ?_
                                      refine lv_iload_n hx hb dX12_spans_262 rfl (lv_at hl 0 rfl) ?_
                                      refine va_iald hx hb hK hP 9 8 rfl rfl (z_vpin (by omega) (by omega)) dX12_spans_263 ?_
                                      refine lv_topi (fun z_105 ez_105 => ?_)
                                      have kxz_105 : (z_105).toInt = (f_80 (i_78 : Int32).toNatClampNeg).toInt := by rw [ez_105]
                                      refine va_iast hx hb hK hP hD hS 9 8 rfl rfl (z_vpin (by omega) (by omega)) dX12_spans_264 (fun H_106 locs hP hD hS => ?_)
                                      obtain ⟨hP, hD⟩ := z_s_9 hP hD
                                      obtain ⟨z_108, ez_108⟩ : ∃ y : Int32, y = i_78 + 1 := ⟨_, rfl⟩
                                      have kz_108 : (z_108).toInt = (i_78).toInt + (1 : Int) := by rw [ez_108]; exact z_add (b := 1) rfl rfl (z_al hF_81.1 (by decide)) (z_ah hF_81.2 (by decide))
                                      refine lv_iinc (v := z_108) (lv' := [(3, .int z_108), (2, .int i_64), (1, .int i_27), (0, .ref h0)]) hx hb dX12_spans_265 hl (k := 0) rfl (by rw [ez_108]; rfl) (by decide) rfl (fun ls hl => ?_)
                                      refine lv_goto (tgt := 170) hx hb dX12_spans_268 (by decide) ?_
                                      exact ih_77 z_108 (upd f_79 (i_64 : Int32).toNatClampNeg z_98) (upd f_80 (i_78 : Int32).toNatClampNeg z_105) _ _ _ (show (13 - (z_108).toInt).toNat < n_76 by omega) (show ((0 : Int) ≤ (z_108).toInt ∧ (z_108).toInt ≤ (12 : Int)) by omega) (show k_li (k_M2 fhlt) 12 (i_64).toInt (z_108).toInt fi00 (upd f_79 (i_64 : Int32).toNatClampNeg z_98) from k_li_y (i := i_64) (j := i_78) hTt hF_82 ⟨by omega, by omega⟩ ⟨by omega, by omega⟩ (by omega) ((k_M2i (a := (i_64).toInt) (b := (i_78).toInt) (d := z_90) ⟨by omega, by omega⟩ ⟨by omega, by omega⟩ (by omega)).mpr (by omega)) (by omega)) (show k_gi (k_M2 fhlt) 12 (i_64).toInt (z_108).toInt la00 (upd f_80 (i_78 : Int32).toNatClampNeg z_105) from k_gi_y (i := i_64) (j := i_78) hTt hF_83 ⟨by omega, by omega⟩ ⟨by omega, by omega⟩ (by omega) ((k_M2i (a := (i_64).toInt) (b := (i_78).toInt) (d := z_90) ⟨by omega, by omega⟩ ⟨by omega, by omega⟩ (by omega)).mpr (by omega)) (by omega)) hP hD hS (lv_sub hl [0, 1, 2, 3] rfl)
                                    · have k_109 : (z_102).toInt > (z_101).toInt := z_nle c_103
                                      refine lv_aload_n hx hb dX12_spans_249 rfl (lv_at hl 3 rfl) ?_
                                      refine va_get (D := (dC, dI)) (ci := 12) (v := .ref hla) (C := RX12) (T := TX12) (N := 70) hx hb hts hiX12 hown hK hP 0 rfl rfl 15 (by decide) w__fieldLink_RX12_44_ShellHeapModel_last_I_ (fun _ h9 => h9) rfl dX12_spans_250 ?_
                                      refine lv_iload_n hx hb dX12_spans_253 rfl (lv_at hl 1 rfl) ?_
                                      refine va_iald hx hb hK hP 9 8 rfl rfl (z_vpin (by omega) (by omega)) dX12_spans_254 ?_
                                      refine lv_topi (fun z_110 ez_110 => ?_)
                                      have kxz_110 : (z_110).toInt = (f_80 (i_64 : Int32).toNatClampNeg).toInt := by rw [ez_110]
                                      refine lv_goto (tgt := 264) hx hb dX12_spans_255 (by decide) ?_
                                      refine va_iast hx hb hK hP hD hS 9 8 rfl rfl (z_vpin (by omega) (by omega)) dX12_spans_264 (fun H_111 locs hP hD hS => ?_)
                                      obtain ⟨hP, hD⟩ := z_s_9 hP hD
                                      obtain ⟨z_113, ez_113⟩ : ∃ y : Int32, y = i_78 + 1 := ⟨_, rfl⟩
                                      have kz_113 : (z_113).toInt = (i_78).toInt + (1 : Int) := by rw [ez_113]; exact z_add (b := 1) rfl rfl (z_al hF_81.1 (by decide)) (z_ah hF_81.2 (by decide))
                                      refine lv_iinc (v := z_113) (lv' := [(3, .int z_113), (2, .int i_64), (1, .int i_27), (0, .ref h0)]) hx hb dX12_spans_265 hl (k := 0) rfl (by rw [ez_113]; rfl) (by decide) rfl (fun ls hl => ?_)
                                      refine lv_goto (tgt := 170) hx hb dX12_spans_268 (by decide) ?_
                                      exact ih_77 z_113 (upd f_79 (i_64 : Int32).toNatClampNeg z_98) (upd f_80 (i_78 : Int32).toNatClampNeg z_110) _ _ _ (show (13 - (z_113).toInt).toNat < n_76 by omega) (show ((0 : Int) ≤ (z_113).toInt ∧ (z_113).toInt ≤ (12 : Int)) by omega) (show k_li (k_M2 fhlt) 12 (i_64).toInt (z_113).toInt fi00 (upd f_79 (i_64 : Int32).toNatClampNeg z_98) from k_li_y (i := i_64) (j := i_78) hTt hF_82 ⟨by omega, by omega⟩ ⟨by omega, by omega⟩ (by omega) ((k_M2i (a := (i_64).toInt) (b := (i_78).toInt) (d := z_90) ⟨by omega, by omega⟩ ⟨by omega, by omega⟩ (by omega)).mpr (by omega)) (by omega)) (show k_gi (k_M2 fhlt) 12 (i_64).toInt (z_113).toInt la00 (upd f_80 (i_78 : Int32).toNatClampNeg z_110) from k_gi_y (i := i_64) (j := i_78) hTt hF_83 ⟨by omega, by omega⟩ ⟨by omega, by omega⟩ (by omega) ((k_M2i (a := (i_64).toInt) (b := (i_78).toInt) (d := z_90) ⟨by omega, by omega⟩ ⟨by omega, by omega⟩ (by omega)).mpr (by omega)) (by omega)) hP hD hS (lv_sub hl [0, 1, 2, 3] rfl)
                                  · have k_114 : (z_94).toInt > (z_95).toInt := z_nle c_96
                                    refine lv_aload_n hx hb dX12_spans_213 rfl (lv_at hl 3 rfl) ?_
                                    refine va_get (D := (dC, dI)) (ci := 12) (v := .ref hfi) (C := RX12) (T := TX12) (N := 70) hx hb hts hiX12 hown hK hP 0 rfl rfl 14 (by decide) w__fieldLink_RX12_41_ShellHeapModel_first_I_ (fun _ h9 => h9) rfl dX12_spans_214 ?_
                                    refine lv_iload_n hx hb dX12_spans_217 rfl (lv_at hl 0 rfl) ?_
                                    refine va_iald hx hb hK hP 8 7 rfl rfl (z_vpin (by omega) (by omega)) dX12_spans_218 ?_
                                    refine lv_topi (fun z_115 ez_115 => ?_)
                                    have kxz_115 : (z_115).toInt = (f_79 (i_78 : Int32).toNatClampNeg).toInt := by rw [ez_115]
                                    refine lv_goto (tgt := 228) hx hb dX12_spans_219 (by decide) ?_
                                    refine va_iast hx hb hK hP hD hS 8 7 rfl rfl (z_vpin (by omega) (by omega)) dX12_spans_228 (fun H_116 locs hP hD hS => ?_)
                                    obtain ⟨hP, hD⟩ := z_s_8 hP hD
                                    refine lv_aload_n hx hb dX12_spans_229 rfl (lv_at hl 3 rfl) ?_
                                    refine va_get (D := (dC, dI)) (ci := 12) (v := .ref hla) (C := RX12) (T := TX12) (N := 70) hx hb hts hiX12 hown hK hP 0 rfl rfl 15 (by decide) w__fieldLink_RX12_44_ShellHeapModel_last_I_ (fun _ h9 => h9) rfl dX12_spans_230 ?_
                                    refine lv_iload_n hx hb dX12_spans_233 rfl (lv_at hl 0 rfl) ?_
                                    refine lv_aload_n hx hb dX12_spans_234 rfl (lv_at hl 3 rfl) ?_
                                    refine va_get (D := (dC, dI)) (ci := 12) (v := .ref hla) (C := RX12) (T := TX12) (N := 70) hx hb hts hiX12 hown hK hP 0 rfl rfl 15 (by decide) w__fieldLink_RX12_44_ShellHeapModel_last_I_ (fun _ h9 => h9) rfl dX12_spans_235 ?_
                                    refine lv_iload_n hx hb dX12_spans_238 rfl (lv_at hl 1 rfl) ?_
                                    refine va_iald hx hb hK hP 9 8 rfl rfl (z_vpin (by omega) (by omega)) dX12_spans_239 ?_
                                    refine lv_topi (fun z_118 ez_118 => ?_)
                                    have kxz_118 : (z_118).toInt = (f_80 (i_64 : Int32).toNatClampNeg).toInt := by rw [ez_118]
                                    refine lv_aload_n hx hb dX12_spans_240 rfl (lv_at hl 3 rfl) ?_
                                    refine va_get (D := (dC, dI)) (ci := 12) (v := .ref hla) (C := RX12) (T := TX12) (N := 70) hx hb hts hiX12 hown hK hP 0 rfl rfl 15 (by decide) w__fieldLink_RX12_44_ShellHeapModel_last_I_ (fun _ h9 => h9) rfl dX12_spans_241 ?_
                                    refine lv_iload_n hx hb dX12_spans_244 rfl (lv_at hl 0 rfl) ?_
                                    refine va_iald hx hb hK hP 9 8 rfl rfl (z_vpin (by omega) (by omega)) dX12_spans_245 ?_
                                    refine lv_topi (fun z_119 ez_119 => ?_)
                                    have kxz_119 : (z_119).toInt = (f_80 (i_78 : Int32).toNatClampNeg).toInt := by rw [ez_119]
                                    refine lv_icmp_ge (tgt := 258) hx hb dX12_spans_246 (by decide) (fun c_120 => ?_) (fun c_120 => ?_)
                                    · have k_121 : (z_119).toInt ≤ (z_118).toInt := z_le c_120
                                      refine lv_aload_n hx hb dX12_spans_258 rfl (lv_at hl 3 rfl) ?_
                                      refine va_get (D := (dC, dI)) (ci := 12) (v := .ref hla) (C := RX12) (T := TX12) (N := 70) hx hb hts hiX12 hown hK hP 0 rfl rfl 15 (by decide) w__fieldLink_RX12_44_ShellHeapModel_last_I_ (fun _ h9 => h9) rfl dX12_spans_259 ?_
                                      refine lv_iload_n hx hb dX12_spans_262 rfl (lv_at hl 0 rfl) ?_
                                      refine va_iald hx hb hK hP 9 8 rfl rfl (z_vpin (by omega) (by omega)) dX12_spans_263 ?_
                                      refine lv_topi (fun z_122 ez_122 => ?_)
                                      have kxz_122 : (z_122).toInt = (f_80 (i_78 : Int32).toNatClampNeg).toInt := by rw [ez_122]
                                      refine va_iast hx hb hK hP hD hS 9 8 rfl rfl (z_vpin (by omega) (by omega)) dX12_spans_264 (fun H_123 locs hP hD hS => ?_)
                                      obtain ⟨hP, hD⟩ := z_s_9 hP hD
                                      obtain ⟨z_125, ez_125⟩ : ∃ y : Int32, y = i_78 + 1 := ⟨_, rfl⟩
                                      have kz_125 : (z_125).toInt = (i_78).toInt + (1 : Int) := by rw [ez_125]; exact z_add (b := 1) rfl rfl (z_al hF_81.1 (by decide)) (z_ah hF_81.2 (by decide))
                                      refine lv_iinc (v := z_125) (lv' := [(3, .int z_125), (2, .int i_64), (1, .int i_27), (0, .ref h0)]) hx hb dX12_spans_265 hl (k := 0) rfl (by rw [ez_125]; rfl) (by decide) rfl (fun ls hl => ?_)
                                      refine lv_goto (tgt := 170) hx hb dX12_spans_268 (by decide) ?_
                                      exact ih_77 z_125 (upd f_79 (i_64 : Int32).toNatClampNeg z_115) (upd f_80 (i_78 : Int32).toNatClampNeg z_122) _ _ _ (show (13 - (z_125).toInt).toNat < n_76 by omega) (show ((0 : Int) ≤ (z_125).toInt ∧ (z_125).toInt ≤ (12 : Int)) by omega) (show k_li (k_M2 fhlt) 12 (i_64).toInt (z_125).toInt fi00 (upd f_79 (i_64 : Int32).toNatClampNeg z_115) from k_li_y (i := i_64) (j := i_78) hTt hF_82 ⟨by omega, by omega⟩ ⟨by omega, by omega⟩ (by omega) ((k_M2i (a := (i_64).toInt) (b := (i_78).toInt) (d := z_90) ⟨by omega, by omega⟩ ⟨by omega, by omega⟩ (by omega)).mpr (by omega)) (by omega)) (show k_gi (k_M2 fhlt) 12 (i_64).toInt (z_125).toInt la00 (upd f_80 (i_78 : Int32).toNatClampNeg z_122) from k_gi_y (i := i_64) (j := i_78) hTt hF_83 ⟨by omega, by omega⟩ ⟨by omega, by omega⟩ (by omega) ((k_M2i (a := (i_64).toInt) (b := (i_78).toInt) (d := z_90) ⟨by omega, by omega⟩ ⟨by omega, by omega⟩ (by omega)).mpr (by omega)) (by omega)) hP hD hS (lv_sub hl [0, 1, 2, 3] rfl)
                                    · have k_126 : (z_119).toInt > (z_118).toInt := z_nle c_120
                                      refine lv_aload_n hx hb dX12_spans_249 rfl (lv_at hl 3 rfl) ?_
                                      refine va_get (D := (dC, dI)) (ci := 12) (v := .ref hla) (C := RX12) (T := TX12) (N := 70) hx hb hts hiX12 hown hK hP 0 rfl rfl 15 (by decide) w__fieldLink_RX12_44_ShellHeapModel_last_I_ (fun _ h9 => h9) rfl dX12_spans_250 ?_
                                      refine lv_iload_n hx hb dX12_spans_253 rfl (lv_at hl 1 rfl) ?_
                                      refine va_iald hx hb hK hP 9 8 rfl rfl (z_vpin (by omega) (by omega)) dX12_spans_254 ?_
                                      refine lv_topi (fun z_127 ez_127 => ?_)
                                      have kxz_127 : (z_127).toInt = (f_80 (i_64 : Int32).toNatClampNeg).toInt := by rw [ez_127]
                                      refine lv_goto (tgt := 264) hx hb dX12_spans_255 (by decide) ?_
                                      refine va_iast hx hb hK hP hD hS 9 8 rfl rfl (z_vpin (by omega) (by omega)) dX12_spans_264 (fun H_128 locs hP hD hS => ?_)
                                      obtain ⟨hP, hD⟩ := z_s_9 hP hD
                                      obtain ⟨z_130, ez_130⟩ : ∃ y : Int32, y = i_78 + 1 := ⟨_, rfl⟩
                                      have kz_130 : (z_130).toInt = (i_78).toInt + (1 : Int) := by rw [ez_130]; exact z_add (b := 1) rfl rfl (z_al hF_81.1 (by decide)) (z_ah hF_81.2 (by decide))
                                      refine lv_iinc (v := z_130) (lv' := [(3, .int z_130), (2, .int i_64), (1, .int i_27), (0, .ref h0)]) hx hb dX12_spans_265 hl (k := 0) rfl (by rw [ez_130]; rfl) (by decide) rfl (fun ls hl => ?_)
                                      refine lv_goto (tgt := 170) hx hb dX12_spans_268 (by decide) ?_
                                      exact ih_77 z_130 (upd f_79 (i_64 : Int32).toNatClampNeg z_115) (upd f_80 (i_78 : Int32).toNatClampNeg z_127) _ _ _ (show (13 - (z_130).toInt).toNat < n_76 by omega) (show ((0 : Int) ≤ (z_130).toInt ∧ (z_130).toInt ≤ (12 : Int)) by omega) (show k_li (k_M2 fhlt) 12 (i_64).toInt (z_130).toInt fi00 (upd f_79 (i_64 : Int32).toNatClampNeg z_115) from k_li_y (i := i_64) (j := i_78) hTt hF_82 ⟨by omega, by omega⟩ ⟨by omega, by omega⟩ (by omega) ((k_M2i (a := (i_64).toInt) (b := (i_78).toInt) (d := z_90) ⟨by omega, by omega⟩ ⟨by omega, by omega⟩ (by omega)).mpr (by omega)) (by omega)) (show k_gi (k_M2 fhlt) 12 (i_64).toInt (z_130).toInt la00 (upd f_80 (i_78 : Int32).toNatClampNeg z_127) from k_gi_y (i := i_64) (j := i_78) hTt hF_83 ⟨by omega, by omega⟩ ⟨by omega, by omega⟩ (by omega) ((k_M2i (a := (i_64).toInt) (b := (i_78).toInt) (d := z_90) ⟨by omega, by omega⟩ ⟨by omega, by omega⟩ (by omega)).mpr (by omega)) (by omega)) hP hD hS (lv_sub hl [0, 1, 2, 3] rfl)
                                · have k_131 : (z_91).toInt = (0 : Int) := z_eq c_92
                                  obtain rfl : z_91 = 0 := z_eq' (show (z_91).toInt = (0 : Int) by omega)
                                  refine lv_goto (tgt := 265) hx hb dX12_spans_190 (by decide) ?_
                                  obtain ⟨z_133, ez_133⟩ : ∃ y : Int32, y = i_78 + 1 := ⟨_, rfl⟩
                                  have kz_133 : (z_133).toInt = (i_78).toInt + (1 : Int) := by rw [ez_133]; exact z_add (b := 1) rfl rfl (z_al hF_81.1 (by decide)) (z_ah hF_81.2 (by decide))
                                  refine lv_iinc (v := z_133) (lv' := [(3, .int z_133), (2, .int i_64), (1, .int i_27), (0, .ref h0)]) hx hb dX12_spans_265 hl (k := 0) rfl (by rw [ez_133]; rfl) (by decide) rfl (fun ls hl => ?_)
                                  refine lv_goto (tgt := 170) hx hb dX12_spans_268 (by decide) ?_
                                  exact ih_77 z_133 f_79 f_80 _ _ _ (show (13 - (z_133).toInt).toNat < n_76 by omega) (show ((0 : Int) ≤ (z_133).toInt ∧ (z_133).toInt ≤ (12 : Int)) by omega) (show k_li (k_M2 fhlt) 12 (i_64).toInt (z_133).toInt fi00 f_79 from k_li_n (i := i_64) (j := i_78) hF_82 (by omega) (fun h9 => absurd ((k_M2i (a := (i_64).toInt) (b := (i_78).toInt) (d := z_90) ⟨by omega, by omega⟩ ⟨by omega, by omega⟩ (by omega)).mp h9) (by omega))) (show k_gi (k_M2 fhlt) 12 (i_64).toInt (z_133).toInt la00 f_80 from k_gi_n (i := i_64) (j := i_78) hF_83 (by omega) (fun h9 => absurd ((k_M2i (a := (i_64).toInt) (b := (i_78).toInt) (d := z_90) ⟨by omega, by omega⟩ ⟨by omega, by omega⟩ (by omega)).mp h9) (by omega))) hP hD hS (lv_sub hl [0, 1, 2, 3] rfl)
                          exact loop_75 _ 0 f_65 f_66 _ _ _ (Nat.lt_succ_self _) (show ((0 : Int) ≤ (0 : Int) ∧ (0 : Int) ≤ (12 : Int)) by omega) (show k_li (k_M2 fhlt) 12 (i_64).toInt (0 : Int) fi00 f_65 from hF_68) (show k_gi (k_M2 fhlt) 12 (i_64).toInt (0 : Int) la00 f_66 from hF_69) hP hD hS hl
                    exact loop_61 _ 0 f_28 f_29 _ _ _ (Nat.lt_succ_self _) (show ((0 : Int) ≤ (0 : Int) ∧ (0 : Int) ≤ (12 : Int)) by omega) (show k_li (k_M2 fhlt) 12 (0 : Int) 0 fi00 f_28 from k_li_w hF_31 (fun x y _ _ _ _ _ => by omega)) (show k_gi (k_M2 fhlt) 12 (0 : Int) 0 la00 f_29 from k_gi_w hF_32 (fun x y _ _ _ _ _ => by omega)) hP hD hS hl
              exact loop_24 _ 0 f_17 f_18 _ _ _ (Nat.lt_succ_self _) (show ((0 : Int) ≤ (0 : Int) ∧ (0 : Int) ≤ (12 : Int)) by omega) (show k_li (k_M2 fhlt) 12 (12 * (0 : Int)) 0 fi00 f_17 from by rw [hfi00]; exact k_li_w k_li_0 (fun x y _ _ _ _ _ => by omega)) (show k_gi (k_M2 fhlt) 12 (12 * (0 : Int)) 0 la00 f_18 from by rw [hla00]; exact k_gi_w k_gi_0 (fun x y _ _ _ _ _ => by omega)) hP hD hS hl
            · have k_134 : (mn).toInt > (i_16).toInt := z_nle c_22
              refine lv_aload_n hx hb dX12_spans_40 rfl (lv_at hl 1 rfl) ?_
              refine va_get (D := (dC, dI)) (ci := 12) (v := .ref hct) (C := RX12) (T := TX12) (N := 70) hx hb hts hiX12 hown hK hP 0 rfl rfl 9 (by decide) w__fieldLink_RX12_25_ShellHeapModel_counts_Z_ (fun _ h9 => h9) rfl dX12_spans_41 ?_
              refine lv_iload_n hx hb dX12_spans_44 rfl (lv_at hl 0 rfl) ?_
              refine va_zald hx hb hK hP 1 0 rfl rfl (z_vpin (by omega) (by omega)) dX12_spans_45 ?_
              refine lv_topi (fun z_135 ez_135 => ?_)
              have kxz_135 : (z_135).toInt = (fhct (i_16 : Int32).toNatClampNeg).toInt := by rw [ez_135]
              refine lv_if_eq (tgt := 146) hx hb dX12_spans_46 (by decide) (fun c_136 => ?_) (fun c_136 => ?_)
              · have k_137 : (z_135).toInt = (0 : Int) := z_eq c_136
                obtain rfl : z_135 = 0 := z_eq' (show (z_135).toInt = (0 : Int) by omega)
                obtain ⟨z_139, ez_139⟩ : ∃ y : Int32, y = i_16 + 1 := ⟨_, rfl⟩
                have kz_139 : (z_139).toInt = (i_16).toInt + (1 : Int) := by rw [ez_139]; exact z_add (b := 1) rfl rfl (z_al hF_19.1 (by decide)) (z_ah hF_19.2 (by decide))
                refine lv_iinc (v := z_139) (lv' := [(1, .int z_139), (0, .ref h0)]) hx hb dX12_spans_146 hl (k := 0) rfl (by rw [ez_139]; rfl) (by decide) rfl (fun ls hl => ?_)
                refine lv_goto (tgt := 32) hx hb dX12_spans_149 (by decide) ?_
                exact ih_15 z_139 f_17 f_18 _ _ _ (show (81 - (z_139).toInt).toNat < n_14 by omega) (show ((0 : Int) ≤ (z_139).toInt ∧ (z_139).toInt ≤ (80 : Int)) by omega) (show k_m0 (k_D fhs fha fhb9 (k_iv fhct) fhbd (mn).toInt (z_139).toInt) 12 f_17 from k_m0_i hF_20 (fun x v => k_D_n (i := i_16) (by omega) (by omega) (fun h9 => k_iv_n (by omega) h9.1) x v)) (show k_n0 (k_D fhs fha fhc9 (k_iv fhct) fhbd (mn).toInt (z_139).toInt) 12 f_18 from k_n0_i hF_21 (fun x v => k_D_n (i := i_16) (by omega) (by omega) (fun h9 => k_iv_n (by omega) h9.1) x v)) hP hD hS (lv_sub hl [0, 1] rfl)
              · have k_140 : (z_135).toInt ≠ (0 : Int) := z_ne c_136
                refine lv_aload_n hx hb dX12_spans_49 rfl (lv_at hl 1 rfl) ?_
                refine va_get (D := (dC, dI)) (ci := 12) (v := .ref hs) (C := RX12) (T := TX12) (N := 70) hx hb hts hiX12 hown hK hP 0 rfl rfl 5 (by decide) w__fieldLink_RX12_13_ShellHeapModel_sort_I_ (fun _ h9 => h9) rfl dX12_spans_50 ?_
                refine lv_iload_n hx hb dX12_spans_53 rfl (lv_at hl 0 rfl) ?_
                refine va_iald hx hb hK hP 2 1 rfl rfl (z_vpin (by omega) (by omega)) dX12_spans_54 ?_
                refine lv_topi (fun z_141 ez_141 => ?_)
                have kxz_141 : (z_141).toInt = (fhs (i_16 : Int32).toNatClampNeg).toInt := by rw [ez_141]
                refine lv_iconst (v := 3) hx hb dX12_spans_55 (by decide) ?_
                refine lv_icmp_eq (tgt := 62) hx hb dX12_spans_56 (by decide) (fun c_142 => ?_) (fun c_142 => ?_)
                · have k_143 : (z_141).toInt = (3 : Int) := z_eq c_142
                  obtain rfl : z_141 = 3 := z_eq' (show (z_141).toInt = (3 : Int) by omega)
                  refine lv_aload_n hx hb dX12_spans_62 rfl (lv_at hl 1 rfl) ?_
                  refine va_get (D := (dC, dI)) (ci := 12) (v := .ref hbd) (C := RX12) (T := TX12) (N := 70) hx hb hts hiX12 hown hK hP 0 rfl rfl 11 (by decide) w__fieldLink_RX12_32_ShellHeapModel_bedOf_I_ (fun _ h9 => h9) rfl dX12_spans_63 ?_
                  refine lv_aload_n hx hb dX12_spans_66 rfl (lv_at hl 1 rfl) ?_
                  refine va_get (D := (dC, dI)) (ci := 12) (v := .ref ha) (C := RX12) (T := TX12) (N := 70) hx hb hts hiX12 hown hK hP 0 rfl rfl 6 (by decide) w__fieldLink_RX12_16_ShellHeapModel_noteA_I_ (fun _ h9 => h9) rfl dX12_spans_67 ?_
                  refine lv_iload_n hx hb dX12_spans_70 rfl (lv_at hl 0 rfl) ?_
                  refine va_iald hx hb hK hP 3 2 rfl rfl (z_vpin (by omega) (by omega)) dX12_spans_71 ?_
                  refine lv_topi (fun z_145 ez_145 => ?_)
                  have kz_145 : ((0 : Int) ≤ (z_145).toInt ∧ (z_145).toInt ≤ (79 : Int)) := by rw [ez_145]; exact hI_ha _
                  have kxz_145 : (z_145).toInt = (fha (i_16 : Int32).toNatClampNeg).toInt := by rw [ez_145]
                  have krz_145 := k_rd_a hRD (by omega) (by omega) (by omega) ez_145
                  refine va_iald hx hb hK hP 6 5 rfl rfl (z_vpin (by omega) (by omega)) dX12_spans_72 ?_
                  refine lv_topi (fun z_146 ez_146 => ?_)
                  have kz_146 : ((0 : Int) ≤ (z_146).toInt ∧ (z_146).toInt ≤ (11 : Int)) := by rw [ez_146]; exact hI_hbd _
                  have kxz_146 : (z_146).toInt = (fhbd (z_145 : Int32).toNatClampNeg).toInt := by rw [ez_146]
                  have ke_147 : (z_146).toInt = (fhbd (fha (i_16 : Int32).toNatClampNeg).toNatClampNeg).toInt := by rw [← ez_145, ez_146]
                  refine lv_istore_n (lv' := [(2, .int z_146), (1, .int i_16), (0, .ref h0)]) hx hb dX12_spans_73 rfl hl (by decide) rfl (fun ls hl => ?_)
                  refine lv_aload_n hx hb dX12_spans_74 rfl (lv_at hl 2 rfl) ?_
                  refine va_get (D := (dC, dI)) (ci := 12) (v := .ref hfi) (C := RX12) (T := TX12) (N := 70) hx hb hts hiX12 hown hK hP 0 rfl rfl 14 (by decide) w__fieldLink_RX12_41_ShellHeapModel_first_I_ (fun _ h9 => h9) rfl dX12_spans_75 ?_
                  refine lv_iload_n hx hb dX12_spans_78 rfl (lv_at hl 0 rfl) ?_
                  refine lv_aload_n hx hb dX12_spans_79 rfl (lv_at hl 2 rfl) ?_
                  refine va_get (D := (dC, dI)) (ci := 12) (v := .ref hb9) (C := RX12) (T := TX12) (N := 70) hx hb hts hiX12 hown hK hP 0 rfl rfl 7 (by decide) w__fieldLink_RX12_19_ShellHeapModel_noteB_I_ (fun _ h9 => h9) rfl dX12_spans_80 ?_
                  refine lv_iload_n hx hb dX12_spans_83 rfl (lv_at hl 1 rfl) ?_
                  refine va_iald hx hb hK hP 4 3 rfl rfl (z_vpin (by omega) (by omega)) dX12_spans_84 ?_
                  refine lv_topi (fun z_148 ez_148 => ?_)
                  have kxz_148 : (z_148).toInt = (fhb9 (i_16 : Int32).toNatClampNeg).toInt := by rw [ez_148]
                  refine lv_aload_n hx hb dX12_spans_85 rfl (lv_at hl 2 rfl) ?_
                  refine va_get (D := (dC, dI)) (ci := 12) (v := .ref hfi) (C := RX12) (T := TX12) (N := 70) hx hb hts hiX12 hown hK hP 0 rfl rfl 14 (by decide) w__fieldLink_RX12_41_ShellHeapModel_first_I_ (fun _ h9 => h9) rfl dX12_spans_86 ?_
                  refine lv_iload_n hx hb dX12_spans_89 rfl (lv_at hl 0 rfl) ?_
                  refine va_iald hx hb hK hP 8 7 rfl rfl (z_vpinB kz_146 (by decide) (by decide)) dX12_spans_90 ?_
                  refine lv_topi (fun z_149 ez_149 => ?_)
                  have kxz_149 : (z_149).toInt = (f_17 (z_146 : Int32).toNatClampNeg).toInt := by rw [ez_149]
                  refine lv_icmp_le (tgt := 103) hx hb dX12_spans_91 (by decide) (fun c_150 => ?_) (fun c_150 => ?_)
                  · have k_151 : (z_148).toInt ≤ (z_149).toInt := z_le c_150
                    refine lv_aload_n hx hb dX12_spans_103 rfl (lv_at hl 2 rfl) ?_
                    refine va_get (D := (dC, dI)) (ci := 12) (v := .ref hfi) (C := RX12) (T := TX12) (N := 70) hx hb hts hiX12 hown hK hP 0 rfl rfl 14 (by decide) w__fieldLink_RX12_41_ShellHeapModel_first_I_ (fun _ h9 => h9) rfl dX12_spans_104 ?_
                    refine lv_iload_n hx hb dX12_spans_107 rfl (lv_at hl 0 rfl) ?_
                    refine va_iald hx hb hK hP 8 7 rfl rfl (z_vpinB kz_146 (by decide) (by decide)) dX12_spans_108 ?_
                    refine lv_topi (fun z_152 ez_152 => ?_)
                    have kxz_152 : (z_152).toInt = (f_17 (z_146 : Int32).toNatClampNeg).toInt := by rw [ez_152]
                    refine va_iast hx hb hK hP hD hS 8 7 rfl rfl (z_vpinB kz_146 (by decide) (by decide)) dX12_spans_109 (fun H_153 locs hP hD hS => ?_)
                    obtain ⟨hP, hD⟩ := z_s_8 hP hD
                    refine lv_aload_n hx hb dX12_spans_110 rfl (lv_at hl 2 rfl) ?_
                    refine va_get (D := (dC, dI)) (ci := 12) (v := .ref hla) (C := RX12) (T := TX12) (N := 70) hx hb hts hiX12 hown hK hP 0 rfl rfl 15 (by decide) w__fieldLink_RX12_44_ShellHeapModel_last_I_ (fun _ h9 => h9) rfl dX12_spans_111 ?_
                    refine lv_iload_n hx hb dX12_spans_114 rfl (lv_at hl 0 rfl) ?_
                    refine lv_aload_n hx hb dX12_spans_115 rfl (lv_at hl 2 rfl) ?_
                    refine va_get (D := (dC, dI)) (ci := 12) (v := .ref hc9) (C := RX12) (T := TX12) (N := 70) hx hb hts hiX12 hown hK hP 0 rfl rfl 8 (by decide) w__fieldLink_RX12_22_ShellHeapModel_noteC_I_ (fun _ h9 => h9) rfl dX12_spans_116 ?_
                    refine lv_iload_n hx hb dX12_spans_119 rfl (lv_at hl 1 rfl) ?_
                    refine va_iald hx hb hK hP 5 4 rfl rfl (z_vpin (by omega) (by omega)) dX12_spans_120 ?_
                    refine lv_topi (fun z_155 ez_155 => ?_)
                    have kxz_155 : (z_155).toInt = (fhc9 (i_16 : Int32).toNatClampNeg).toInt := by rw [ez_155]
                    refine lv_aload_n hx hb dX12_spans_121 rfl (lv_at hl 2 rfl) ?_
                    refine va_get (D := (dC, dI)) (ci := 12) (v := .ref hla) (C := RX12) (T := TX12) (N := 70) hx hb hts hiX12 hown hK hP 0 rfl rfl 15 (by decide) w__fieldLink_RX12_44_ShellHeapModel_last_I_ (fun _ h9 => h9) rfl dX12_spans_122 ?_
                    refine lv_iload_n hx hb dX12_spans_125 rfl (lv_at hl 0 rfl) ?_
                    refine va_iald hx hb hK hP 9 8 rfl rfl (z_vpinB kz_146 (by decide) (by decide)) dX12_spans_126 ?_
                    refine lv_topi (fun z_156 ez_156 => ?_)
                    have kxz_156 : (z_156).toInt = (f_18 (z_146 : Int32).toNatClampNeg).toInt := by rw [ez_156]
                    refine lv_icmp_ge (tgt := 139) hx hb dX12_spans_127 (by decide) (fun c_157 => ?_) (fun c_157 => ?_)
                    · have k_158 : (z_156).toInt ≤ (z_155).toInt := z_le c_157
                      refine lv_aload_n hx hb dX12_spans_139 rfl (lv_at hl 2 rfl) ?_
                      refine va_get (D := (dC, dI)) (ci := 12) (v := .ref hla) (C := RX12) (T := TX12) (N := 70) hx hb hts hiX12 hown hK hP 0 rfl rfl 15 (by decide) w__fieldLink_RX12_44_ShellHeapModel_last_I_ (fun _ h9 => h9) rfl dX12_spans_140 ?_
                      refine lv_iload_n hx hb dX12_spans_143 rfl (lv_at hl 0 rfl) ?_
                      refine va_iald hx hb hK hP 9 8 rfl rfl (z_vpinB kz_146 (by decide) (by decide)) dX12_spans_144 ?_
                      refine lv_topi (fun z_159 ez_159 => ?_)
                      have kxz_159 : (z_159).toInt = (f_18 (z_146 : Int32).toNatClampNeg).toInt := by rw [ez_159]
                      refine va_iast hx hb hK hP hD hS 9 8 rfl rfl (z_vpinB kz_146 (by decide) (by decide)) dX12_spans_145 (fun H_160 locs hP hD hS => ?_)
                      obtain ⟨hP, hD⟩ := z_s_9 hP hD
                      obtain ⟨z_162, ez_162⟩ : ∃ y : Int32, y = i_16 + 1 := ⟨_, rfl⟩
                      have kz_162 : (z_162).toInt = (i_16).toInt + (1 : Int) := by rw [ez_162]; exact z_add (b := 1) rfl rfl (z_al hF_19.1 (by decide)) (z_ah hF_19.2 (by decide))
                      refine lv_iinc (v := z_162) (lv' := [(1, .int z_162), (2, .int z_146), (0, .ref h0)]) hx hb dX12_spans_146 hl (k := 1) rfl (by rw [ez_162]; rfl) (by decide) rfl (fun ls hl => ?_)
                      refine lv_goto (tgt := 32) hx hb dX12_spans_149 (by decide) ?_
                      exact ih_15 z_162 (upd f_17 (z_146 : Int32).toNatClampNeg z_152) (upd f_18 (z_146 : Int32).toNatClampNeg z_159) _ _ _ (show (81 - (z_162).toInt).toNat < n_14 by omega) (show ((0 : Int) ≤ (z_162).toInt ∧ (z_162).toInt ≤ (80 : Int)) by omega) (show k_m0 (k_D fhs fha fhb9 (k_iv fhct) fhbd (mn).toInt (z_162).toInt) 12 (upd f_17 (z_146 : Int32).toNatClampNeg z_152) from k_m0_y (u := z_146) (w := (fhb9 (i_16 : Int32).toNatClampNeg).toInt) hF_20 (by omega) (fun x v => by rw [k_D_y (i := i_16) (by omega) (by omega) (k_iv_c (by omega) (by omega) (by omega)) (by omega), ke_147]) (by omega)) (show k_n0 (k_D fhs fha fhc9 (k_iv fhct) fhbd (mn).toInt (z_162).toInt) 12 (upd f_18 (z_146 : Int32).toNatClampNeg z_159) from k_n0_y (u := z_146) (w := (fhc9 (i_16 : Int32).toNatClampNeg).toInt) hF_21 (by omega) (fun x v => by rw [k_D_y (i := i_16) (by omega) (by omega) (k_iv_c (by omega) (by omega) (by omega)) (by omega), ke_147]) (by omega)) hP hD hS (lv_sub hl [0, 2] rfl)
                    · have k_163 : (z_156).toInt > (z_155).toInt := z_nle c_157
                      refine lv_aload_n hx hb dX12_spans_130 rfl (lv_at hl 2 rfl) ?_
                      refine va_get (D := (dC, dI)) (ci := 12) (v := .ref hc9) (C := RX12) (T := TX12) (N := 70) hx hb hts hiX12 hown hK hP 0 rfl rfl 8 (by decide) w__fieldLink_RX12_22_ShellHeapModel_noteC_I_ (fun _ h9 => h9) rfl dX12_spans_131 ?_
                      refine lv_iload_n hx hb dX12_spans_134 rfl (lv_at hl 1 rfl) ?_
                      refine va_iald hx hb hK hP 5 4 rfl rfl (z_vpin (by omega) (by omega)) dX12_spans_135 ?_
                      refine lv_topi (fun z_164 ez_164 => ?_)
                      have kxz_164 : (z_164).toInt = (fhc9 (i_16 : Int32).toNatClampNeg).toInt := by rw [ez_164]
                      refine lv_goto (tgt := 145) hx hb dX12_spans_136 (by decide) ?_
                      refine va_iast hx hb hK hP hD hS 9 8 rfl rfl (z_vpinB kz_146 (by decide) (by decide)) dX12_spans_145 (fun H_165 locs hP hD hS => ?_)
                      obtain ⟨hP, hD⟩ := z_s_9 hP hD
                      obtain ⟨z_167, ez_167⟩ : ∃ y : Int32, y = i_16 + 1 := ⟨_, rfl⟩
                      have kz_167 : (z_167).toInt = (i_16).toInt + (1 : Int) := by rw [ez_167]; exact z_add (b := 1) rfl rfl (z_al hF_19.1 (by decide)) (z_ah hF_19.2 (by decide))
                      refine lv_iinc (v := z_167) (lv' := [(1, .int z_167), (2, .int z_146), (0, .ref h0)]) hx hb dX12_spans_146 hl (k := 1) rfl (by rw [ez_167]; rfl) (by decide) rfl (fun ls hl => ?_)
                      refine lv_goto (tgt := 32) hx hb dX12_spans_149 (by decide) ?_
                      exact ih_15 z_167 (upd f_17 (z_146 : Int32).toNatClampNeg z_152) (upd f_18 (z_146 : Int32).toNatClampNeg z_164) _ _ _ (show (81 - (z_167).toInt).toNat < n_14 by omega) (show ((0 : Int) ≤ (z_167).toInt ∧ (z_167).toInt ≤ (80 : Int)) by omega) (show k_m0 (k_D fhs fha fhb9 (k_iv fhct) fhbd (mn).toInt (z_167).toInt) 12 (upd f_17 (z_146 : Int32).toNatClampNeg z_152) from k_m0_y (u := z_146) (w := (fhb9 (i_16 : Int32).toNatClampNeg).toInt) hF_20 (by omega) (fun x v => by rw [k_D_y (i := i_16) (by omega) (by omega) (k_iv_c (by omega) (by omega) (by omega)) (by omega), ke_147]) (by omega)) (show k_n0 (k_D fhs fha fhc9 (k_iv fhct) fhbd (mn).toInt (z_167).toInt) 12 (upd f_18 (z_146 : Int32).toNatClampNeg z_164) from k_n0_y (u := z_146) (w := (fhc9 (i_16 : Int32).toNatClampNeg).toInt) hF_21 (by omega) (fun x v => by rw [k_D_y (i := i_16) (by omega) (by omega) (k_iv_c (by omega) (by omega) (by omega)) (by omega), ke_147]) (by omega)) hP hD hS (lv_sub hl [0, 2] rfl)
                  · have k_168 : (z_148).toInt > (z_149).toInt := z_nle c_150
                    refine lv_aload_n hx hb dX12_spans_94 rfl (lv_at hl 2 rfl) ?_
                    refine va_get (D := (dC, dI)) (ci := 12) (v := .ref hb9) (C := RX12) (T := TX12) (N := 70) hx hb hts hiX12 hown hK hP 0 rfl rfl 7 (by decide) w__fieldLink_RX12_19_ShellHeapModel_noteB_I_ (fun _ h9 => h9) rfl dX12_spans_95 ?_
                    refine lv_iload_n hx hb dX12_spans_98 rfl (lv_at hl 1 rfl) ?_
                    refine va_iald hx hb hK hP 4 3 rfl rfl (z_vpin (by omega) (by omega)) dX12_spans_99 ?_
                    refine lv_topi (fun z_169 ez_169 => ?_)
                    have kxz_169 : (z_169).toInt = (fhb9 (i_16 : Int32).toNatClampNeg).toInt := by rw [ez_169]
                    refine lv_goto (tgt := 109) hx hb dX12_spans_100 (by decide) ?_
                    refine va_iast hx hb hK hP hD hS 8 7 rfl rfl (z_vpinB kz_146 (by decide) (by decide)) dX12_spans_109 (fun H_170 locs hP hD hS => ?_)
                    obtain ⟨hP, hD⟩ := z_s_8 hP hD
                    refine lv_aload_n hx hb dX12_spans_110 rfl (lv_at hl 2 rfl) ?_
                    refine va_get (D := (dC, dI)) (ci := 12) (v := .ref hla) (C := RX12) (T := TX12) (N := 70) hx hb hts hiX12 hown hK hP 0 rfl rfl 15 (by decide) w__fieldLink_RX12_44_ShellHeapModel_last_I_ (fun _ h9 => h9) rfl dX12_spans_111 ?_
                    refine lv_iload_n hx hb dX12_spans_114 rfl (lv_at hl 0 rfl) ?_
                    refine lv_aload_n hx hb dX12_spans_115 rfl (lv_at hl 2 rfl) ?_
                    refine va_get (D := (dC, dI)) (ci := 12) (v := .ref hc9) (C := RX12) (T := TX12) (N := 70) hx hb hts hiX12 hown hK hP 0 rfl rfl 8 (by decide) w__fieldLink_RX12_22_ShellHeapModel_noteC_I_ (fun _ h9 => h9) rfl dX12_spans_116 ?_
                    refine lv_iload_n hx hb dX12_spans_119 rfl (lv_at hl 1 rfl) ?_
                    refine va_iald hx hb hK hP 5 4 rfl rfl (z_vpin (by omega) (by omega)) dX12_spans_120 ?_
                    refine lv_topi (fun z_172 ez_172 => ?_)
                    have kxz_172 : (z_172).toInt = (fhc9 (i_16 : Int32).toNatClampNeg).toInt := by rw [ez_172]
                    refine lv_aload_n hx hb dX12_spans_121 rfl (lv_at hl 2 rfl) ?_
                    refine va_get (D := (dC, dI)) (ci := 12) (v := .ref hla) (C := RX12) (T := TX12) (N := 70) hx hb hts hiX12 hown hK hP 0 rfl rfl 15 (by decide) w__fieldLink_RX12_44_ShellHeapModel_last_I_ (fun _ h9 => h9) rfl dX12_spans_122 ?_
                    refine lv_iload_n hx hb dX12_spans_125 rfl (lv_at hl 0 rfl) ?_
                    refine va_iald hx hb hK hP 9 8 rfl rfl (z_vpinB kz_146 (by decide) (by decide)) dX12_spans_126 ?_
                    refine lv_topi (fun z_173 ez_173 => ?_)
                    have kxz_173 : (z_173).toInt = (f_18 (z_146 : Int32).toNatClampNeg).toInt := by rw [ez_173]
                    refine lv_icmp_ge (tgt := 139) hx hb dX12_spans_127 (by decide) (fun c_174 => ?_) (fun c_174 => ?_)
                    · have k_175 : (z_173).toInt ≤ (z_172).toInt := z_le c_174
                      refine lv_aload_n hx hb dX12_spans_139 rfl (lv_at hl 2 rfl) ?_
                      refine va_get (D := (dC, dI)) (ci := 12) (v := .ref hla) (C := RX12) (T := TX12) (N := 70) hx hb hts hiX12 hown hK hP 0 rfl rfl 15 (by decide) w__fieldLink_RX12_44_ShellHeapModel_last_I_ (fun _ h9 => h9) rfl dX12_spans_140 ?_
                      refine lv_iload_n hx hb dX12_spans_143 rfl (lv_at hl 0 rfl) ?_
                      refine va_iald hx hb hK hP 9 8 rfl rfl (z_vpinB kz_146 (by decide) (by decide)) dX12_spans_144 ?_
                      refine lv_topi (fun z_176 ez_176 => ?_)
                      have kxz_176 : (z_176).toInt = (f_18 (z_146 : Int32).toNatClampNeg).toInt := by rw [ez_176]
                      refine va_iast hx hb hK hP hD hS 9 8 rfl rfl (z_vpinB kz_146 (by decide) (by decide)) dX12_spans_145 (fun H_177 locs hP hD hS => ?_)
                      obtain ⟨hP, hD⟩ := z_s_9 hP hD
                      obtain ⟨z_179, ez_179⟩ : ∃ y : Int32, y = i_16 + 1 := ⟨_, rfl⟩
                      have kz_179 : (z_179).toInt = (i_16).toInt + (1 : Int) := by rw [ez_179]; exact z_add (b := 1) rfl rfl (z_al hF_19.1 (by decide)) (z_ah hF_19.2 (by decide))
                      refine lv_iinc (v := z_179) (lv' := [(1, .int z_179), (2, .int z_146), (0, .ref h0)]) hx hb dX12_spans_146 hl (k := 1) rfl (by rw [ez_179]; rfl) (by decide) rfl (fun ls hl => ?_)
                      refine lv_goto (tgt := 32) hx hb dX12_spans_149 (by decide) ?_
                      exact ih_15 z_179 (upd f_17 (z_146 : Int32).toNatClampNeg z_169) (upd f_18 (z_146 : Int32).toNatClampNeg z_176) _ _ _ (show (81 - (z_179).toInt).toNat < n_14 by omega) (show ((0 : Int) ≤ (z_179).toInt ∧ (z_179).toInt ≤ (80 : Int)) by omega) (show k_m0 (k_D fhs fha fhb9 (k_iv fhct) fhbd (mn).toInt (z_179).toInt) 12 (upd f_17 (z_146 : Int32).toNatClampNeg z_169) from k_m0_y (u := z_146) (w := (fhb9 (i_16 : Int32).toNatClampNeg).toInt) hF_20 (by omega) (fun x v => by rw [k_D_y (i := i_16) (by omega) (by omega) (k_iv_c (by omega) (by omega) (by omega)) (by omega), ke_147]) (by omega)) (show k_n0 (k_D fhs fha fhc9 (k_iv fhct) fhbd (mn).toInt (z_179).toInt) 12 (upd f_18 (z_146 : Int32).toNatClampNeg z_176) from k_n0_y (u := z_146) (w := (fhc9 (i_16 : Int32).toNatClampNeg).toInt) hF_21 (by omega) (fun x v => by rw [k_D_y (i := i_16) (by omega) (by omega) (k_iv_c (by omega) (by omega) (by omega)) (by omega), ke_147]) (by omega)) hP hD hS (lv_sub hl [0, 2] rfl)
                    · have k_180 : (z_173).toInt > (z_172).toInt := z_nle c_174
                      refine lv_aload_n hx hb dX12_spans_130 rfl (lv_at hl 2 rfl) ?_
                      refine va_get (D := (dC, dI)) (ci := 12) (v := .ref hc9) (C := RX12) (T := TX12) (N := 70) hx hb hts hiX12 hown hK hP 0 rfl rfl 8 (by decide) w__fieldLink_RX12_22_ShellHeapModel_noteC_I_ (fun _ h9 => h9) rfl dX12_spans_131 ?_
                      refine lv_iload_n hx hb dX12_spans_134 rfl (lv_at hl 1 rfl) ?_
                      refine va_iald hx hb hK hP 5 4 rfl rfl (z_vpin (by omega) (by omega)) dX12_spans_135 ?_
                      refine lv_topi (fun z_181 ez_181 => ?_)
                      have kxz_181 : (z_181).toInt = (fhc9 (i_16 : Int32).toNatClampNeg).toInt := by rw [ez_181]
                      refine lv_goto (tgt := 145) hx hb dX12_spans_136 (by decide) ?_
                      refine va_iast hx hb hK hP hD hS 9 8 rfl rfl (z_vpinB kz_146 (by decide) (by decide)) dX12_spans_145 (fun H_182 locs hP hD hS => ?_)
                      obtain ⟨hP, hD⟩ := z_s_9 hP hD
                      obtain ⟨z_184, ez_184⟩ : ∃ y : Int32, y = i_16 + 1 := ⟨_, rfl⟩
                      have kz_184 : (z_184).toInt = (i_16).toInt + (1 : Int) := by rw [ez_184]; exact z_add (b := 1) rfl rfl (z_al hF_19.1 (by decide)) (z_ah hF_19.2 (by decide))
                      refine lv_iinc (v := z_184) (lv' := [(1, .int z_184), (2, .int z_146), (0, .ref h0)]) hx hb dX12_spans_146 hl (k := 1) rfl (by rw [ez_184]; rfl) (by decide) rfl (fun ls hl => ?_)
                      refine lv_goto (tgt := 32) hx hb dX12_spans_149 (by decide) ?_
                      exact ih_15 z_184 (upd f_17 (z_146 : Int32).toNatClampNeg z_169) (upd f_18 (z_146 : Int32).toNatClampNeg z_181) _ _ _ (show (81 - (z_184).toInt).toNat < n_14 by omega) (show ((0 : Int) ≤ (z_184).toInt ∧ (z_184).toInt ≤ (80 : Int)) by omega) (show k_m0 (k_D fhs fha fhb9 (k_iv fhct) fhbd (mn).toInt (z_184).toInt) 12 (upd f_17 (z_146 : Int32).toNatClampNeg z_169) from k_m0_y (u := z_146) (w := (fhb9 (i_16 : Int32).toNatClampNeg).toInt) hF_20 (by omega) (fun x v => by rw [k_D_y (i := i_16) (by omega) (by omega) (k_iv_c (by omega) (by omega) (by omega)) (by omega), ke_147]) (by omega)) (show k_n0 (k_D fhs fha fhc9 (k_iv fhct) fhbd (mn).toInt (z_184).toInt) 12 (upd f_18 (z_146 : Int32).toNatClampNeg z_181) from k_n0_y (u := z_146) (w := (fhc9 (i_16 : Int32).toNatClampNeg).toInt) hF_21 (by omega) (fun x v => by rw [k_D_y (i := i_16) (by omega) (by omega) (k_iv_c (by omega) (by omega) (by omega)) (by omega), ke_147]) (by omega)) hP hD hS (lv_sub hl [0, 2] rfl)
                · have k_185 : (z_141).toInt ≠ (3 : Int) := z_ne c_142
                  refine lv_goto (tgt := 146) hx hb dX12_spans_59 (by decide) ?_
                  obtain ⟨z_186, ez_186⟩ : ∃ y : Int32, y = i_16 + 1 := ⟨_, rfl⟩
                  have kz_186 : (z_186).toInt = (i_16).toInt + (1 : Int) := by rw [ez_186]; exact z_add (b := 1) rfl rfl (z_al hF_19.1 (by decide)) (z_ah hF_19.2 (by decide))
                  refine lv_iinc (v := z_186) (lv' := [(1, .int z_186), (0, .ref h0)]) hx hb dX12_spans_146 hl (k := 0) rfl (by rw [ez_186]; rfl) (by decide) rfl (fun ls hl => ?_)
                  refine lv_goto (tgt := 32) hx hb dX12_spans_149 (by decide) ?_
                  exact ih_15 z_186 f_17 f_18 _ _ _ (show (81 - (z_186).toInt).toNat < n_14 by omega) (show ((0 : Int) ≤ (z_186).toInt ∧ (z_186).toInt ≤ (80 : Int)) by omega) (show k_m0 (k_D fhs fha fhb9 (k_iv fhct) fhbd (mn).toInt (z_186).toInt) 12 f_17 from k_m0_i hF_20 (fun x v => k_D_n (i := i_16) (by omega) (by omega) (fun h9 => absurd h9.2 (by omega)) x v)) (show k_n0 (k_D fhs fha fhc9 (k_iv fhct) fhbd (mn).toInt (z_186).toInt) 12 f_18 from k_n0_i hF_21 (fun x v => k_D_n (i := i_16) (by omega) (by omega) (fun h9 => absurd h9.2 (by omega)) x v)) hP hD hS (lv_sub hl [0, 1] rfl)
        exact loop_13 _ 0 f_5 f_6 _ _ _ (Nat.lt_succ_self _) (show ((0 : Int) ≤ (0 : Int) ∧ (0 : Int) ≤ (80 : Int)) by omega) (show k_m0 (k_D fhs fha fhb9 (k_iv fhct) fhbd (mn).toInt (0 : Int)) 12 f_5 from k_m0_0 hF_8 (by omega)) (show k_n0 (k_D fhs fha fhc9 (k_iv fhct) fhbd (mn).toInt (0 : Int)) 12 f_6 from k_n0_0 hF_9 (by omega)) hP hD hS hl
      · have k_187 : (12 : Int) > (i_4).toInt := z_nle c_10
        refine lv_aload_n hx hb dX12_spans_8 rfl (lv_at hl 1 rfl) ?_
        refine va_get (D := (dC, dI)) (ci := 12) (v := .ref hfi) (C := RX12) (T := TX12) (N := 70) hx hb hts hiX12 hown hK hP 0 rfl rfl 14 (by decide) w__fieldLink_RX12_41_ShellHeapModel_first_I_ (fun _ h9 => h9) rfl dX12_spans_9 ?_
        refine lv_iload_n hx hb dX12_spans_12 rfl (lv_at hl 0 rfl) ?_
        refine lv_iconst (v := 0) hx hb dX12_spans_13 (by decide) ?_
        refine va_iast hx hb hK hP hD hS 8 7 rfl rfl (z_vpin (by omega) (by omega)) dX12_spans_14 (fun H_188 locs hP hD hS => ?_)
        obtain ⟨hP, hD⟩ := z_s_8 hP hD
        refine lv_aload_n hx hb dX12_spans_15 rfl (lv_at hl 1 rfl) ?_
        refine va_get (D := (dC, dI)) (ci := 12) (v := .ref hla) (C := RX12) (T := TX12) (N := 70) hx hb hts hiX12 hown hK hP 0 rfl rfl 15 (by decide) w__fieldLink_RX12_44_ShellHeapModel_last_I_ (fun _ h9 => h9) rfl dX12_spans_16 ?_
        refine lv_iload_n hx hb dX12_spans_19 rfl (lv_at hl 0 rfl) ?_
        refine lv_sipush (v := 9999) hx hb dX12_spans_20 (by decide) ?_
        refine va_iast hx hb hK hP hD hS 9 8 rfl rfl (z_vpin (by omega) (by omega)) dX12_spans_23 (fun H_190 locs hP hD hS => ?_)
        obtain ⟨hP, hD⟩ := z_s_9 hP hD
        obtain ⟨z_192, ez_192⟩ : ∃ y : Int32, y = i_4 + 1 := ⟨_, rfl⟩
        have kz_192 : (z_192).toInt = (i_4).toInt + (1 : Int) := by rw [ez_192]; exact z_add (b := 1) rfl rfl (z_al hF_7.1 (by decide)) (z_ah hF_7.2 (by decide))
        refine lv_iinc (v := z_192) (lv' := [(1, .int z_192), (0, .ref h0)]) hx hb dX12_spans_24 hl (k := 0) rfl (by rw [ez_192]; rfl) (by decide) rfl (fun ls hl => ?_)
        refine lv_goto (tgt := 2) hx hb dX12_spans_27 (by decide) ?_
        exact ih_3 z_192 (upd f_5 (i_4 : Int32).toNatClampNeg 0) (upd f_6 (i_4 : Int32).toNatClampNeg 9999) _ _ _ (show (13 - (z_192).toInt).toNat < n_2 by omega) (show ((0 : Int) ≤ (z_192).toInt ∧ (z_192).toInt ≤ (12 : Int)) by omega) (show k_z (z_192).toInt (upd f_5 (i_4 : Int32).toNatClampNeg 0) from k_z_s (i := i_4) hF_8 (by omega) (by decide) (by omega)) (show kY9 (z_192).toInt (upd f_6 (i_4 : Int32).toNatClampNeg 9999) from kY9_s (i := i_4) hF_9 (by omega) (by omega) (by decide)) hP hD hS (lv_sub hl [0, 1] rfl)
  exact loop_1 _ 0 fhfi fhla _ _ _ (Nat.lt_succ_self _) (show ((0 : Int) ≤ (0 : Int) ∧ (0 : Int) ≤ (12 : Int)) by omega) (show k_z (0 : Int) fhfi from k_z_0 (by decide)) (show kY9 (0 : Int) fhla from kY9_0) hP hD hS hl
