def u_s_X12_days : List Cond := .code yX12_days cX12_days 4 (some .long) :: ([.fieldLink RX12 145 "ShellHeapModel" "thrown" "I", .methodLink RX12 157 yX12_isLayer, .instanceMethod yX12_isLayer, .selects RX12 yX12_isLayer yX12_isLayer, .initialized RX12, .constantLong RX12 274 (-1), .constant RX12 220 (99999), .fieldLink RX12 154 "ShellHeapModel" "notes" "I", .methodLink RX12 173 yX12_know, .instanceMethod yX12_know, .selects RX12 yX12_know yX12_know, .fieldLink RX12 32 "ShellHeapModel" "bedOf" "[I", .methodLink RX12 279 yX12_food, .instanceMethod yX12_food, .selects RX12 yX12_food yX12_food, .constantLong RX12 286 (100)] ++ (wsX120 ++ (u_s_X12_isLayer ++ (u_s_X12_know ++ (u_s_X12_food ++ [])))))
set_option maxRecDepth 20000 in
theorem gw_s_X12_days_s_X12_isLayer_157 : GoodIn u_s_X12_days (wsV RX12 157 RX12 yX12_isLayer u_s_X12_isLayer) := z_gV (z_gr _ [2, 3, 4, 5] rfl (by decide +kernel)) (fun w h => ⟨z_mc (z_mr (z_mr (z_ml h))), gd_s_X12_isLayer w h⟩)
set_option maxRecDepth 20000 in
theorem gw_s_X12_days_s_X12_know_173 : GoodIn u_s_X12_days (wsV RX12 173 RX12 yX12_know u_s_X12_know) := z_gV (z_gr _ [9, 10, 11, 5] rfl (by decide +kernel)) (fun w h => ⟨z_mc (z_mr (z_mr (z_mr (z_ml h)))), gd_s_X12_know w h⟩)
set_option maxRecDepth 20000 in
theorem gw_s_X12_days_s_X12_food_279 : GoodIn u_s_X12_days (wsV RX12 279 RX12 yX12_food u_s_X12_food) := z_gV (z_gr _ [13, 14, 15, 5] rfl (by decide +kernel)) (fun w h => ⟨z_mc (z_mr (z_mr (z_mr (z_mr (z_ml h))))), gd_s_X12_food w h⟩)
set_option maxHeartbeats 4000000 in
set_option maxRecDepth 100000 in
theorem s_X12_days (l : Launch) (dC : Nat → ClassId) (dI : Nat → Nat → Nat) (sz : Nat) (h0 : Nat) (p1 : Int32) (p2 : Int32) (p3 : Int32) (h0_0 : Value) (h0_1 : Value) (mx : Int32) (ml : Int32) (mn : Int32) (hs : Nat) (ha : Nat) (hb9 : Nat) (hc9 : Nat) (hct : Nat) (hfo : Nat) (hbd : Nat) (hlt : Nat) (hrk : Nat) (hfi : Nat) (hla : Nat) (mq : Int32) (h0_17 : Value) (h0_18 : Value) (h0_19 : Value) (h0_20 : Value) (h0_21 : Value) (h0_22 : Value) (mk : Int32) (hme : Nat) (hv : Nat) (hkp : Nat) (h0_27 : Value) (h0_28 : Value) (h0_29 : Value) (h0_30 : Value) (h0_31 : Value) (h0_32 : Value) (h0_33 : Value) (h0_34 : Value) (h0_35 : Value) (h0_36 : Value) (h0_37 : Value) (h0_38 : Value) (h0_39 : Value) (h0_40 : Value) (h0_41 : Value) (h0_42 : Value) (h0_43 : Value) (h0_44 : Value) (h0_45 : Value) (h0_46 : Value) (h0_47 : Value) (h0_48 : Value) (h0_49 : Value) (h0_50 : Value) (h0_51 : Value) (h0_52 : Value) (h0_53 : Value) (h0_54 : Value) (h0_55 : Value) (h0_56 : Value) (h0_57 : Value) (h0_58 : Value) (h0_59 : Value) (h0_60 : Value) (h0_61 : Value) (h0_62 : Value) (h0_63 : Value) (h0_64 : Value) (h0_65 : Value) (h0_66 : Value) (h0_67 : Value) (h0_68 : Value) (h0_69 : Value) (chct : ClassId) (fhct : Nat → Int32) (chs : ClassId) (fhs : Nat → Int32) (cha : ClassId) (fha : Nat → Int32) (chb9 : ClassId) (fhb9 : Nat → Int32) (chc9 : ClassId) (fhc9 : Nat → Int32) (chbd : ClassId) (fhbd : Nat → Int32) (chlt : ClassId) (fhlt : Nat → Int32) (chrk : ClassId) (fhrk : Nat → Int32) (chfi : ClassId) (fhfi : Nat → Int32) (chla : ClassId) (fhla : Nat → Int32) (chfo : ClassId) (fhfo : Nat → Int32) (chme : ClassId) (fhme : Nat → Int32) (chv : ClassId) (fhv : Nat → Int32) (chkp : ClassId) (fhkp : Nat → Int32) (hB_mn : ((0 : Int) ≤ (mn).toInt ∧ (mn).toInt ≤ (80 : Int))) (hB_ml : ((0 : Int) ≤ (ml).toInt ∧ (ml).toInt ≤ (12 : Int))) (hB_mq : ((0 : Int) ≤ (mq).toInt ∧ (mq).toInt ≤ (2 : Int))) (hB_mk : ((0 : Int) ≤ (mk).toInt ∧ (mk).toInt ≤ (6 : Int))) (hI_ha : ∀ j : Nat, ((0 : Int) ≤ (fha j).toInt ∧ (fha j).toInt ≤ (79 : Int))) (hI_hbd : ∀ j : Nat, ((0 : Int) ≤ (fhbd j).toInt ∧ (fhbd j).toInt ≤ (11 : Int))) (hI_hkp : ∀ j : Nat, ((1 : Int) ≤ (fhkp j).toInt ∧ (fhkp j).toInt ≤ (16 : Int))) (hR : ∀ j : Nat, z_relm (fhs j) (fha j) (fhb9 j)) : Met l yX12_days u_s_X12_days ({ frames := 4, cells := 0, slots := 0, locals := 100 }) (va_Pc [.ref h0, .int p1, .int p2, .int p3] (z_C (dC, dI) vwCl [(h0, .inr (12, [h0_0, h0_1, .int mx, .int ml, .int mn, .ref hs, .ref ha, .ref hb9, .ref hc9, .ref hct, .ref hfo, .ref hbd, .ref hlt, .ref hrk, .ref hfi, .ref hla, .int mq, h0_17, h0_18, h0_19, h0_20, h0_21, h0_22, .int mk, .ref hme, .ref hv, .ref hkp, h0_27, h0_28, h0_29, h0_30, h0_31, h0_32, h0_33, h0_34, h0_35, h0_36, h0_37, h0_38, h0_39, h0_40, h0_41, h0_42, h0_43, h0_44, h0_45, h0_46, h0_47, h0_48, h0_49, h0_50, h0_51, h0_52, h0_53, h0_54, h0_55, h0_56, h0_57, h0_58, h0_59, h0_60, h0_61, h0_62, h0_63, h0_64, h0_65, h0_66, h0_67, h0_68, h0_69])), (hct, .inl (chct, 80, .inl fhct)), (hs, .inl (chs, 80, .inl fhs)), (ha, .inl (cha, 80, .inl fha)), (hb9, .inl (chb9, 80, .inl fhb9)), (hc9, .inl (chc9, 80, .inl fhc9)), (hbd, .inl (chbd, 12, .inl fhbd)), (hlt, .inl (chlt, 144, .inl fhlt)), (hrk, .inl (chrk, 12, .inl fhrk)), (hfi, .inl (chfi, 12, .inl fhfi)), (hla, .inl (chla, 12, .inl fhla)), (hfo, .inl (chfo, 11520, .inl fhfo)), (hme, .inl (chme, 6, .inl fhme)), (hv, .inl (chv, 6, .inl fhv)), (hkp, .inl (chkp, 24, .inl fhkp))] [(chct, .boolean), (chs, .int), (cha, .int), (chb9, .int), (chc9, .int), (chbd, .int), (chlt, .boolean), (chrk, .int), (chfi, .int), (chla, .int), (chfo, .int), (chme, .int), (chv, .int), (chkp, .int)] sz)) (va_Ql (fun (r : Int64) (_ : Unit) => True) (fun (_ : Unit) (t : State) => ∃ (n_h0_thrown : Int32), ∃ (n_h0_quarrelNow : Int32), ∃ (g_hct : Nat → Int32), ∃ (g_hbd : Nat → Int32), ∃ (g_hlt : Nat → Int32), ∃ (g_hrk : Nat → Int32), ∃ (g_hfi : Nat → Int32), ∃ (g_hla : Nat → Int32), ((0 : Int) ≤ (n_h0_quarrelNow).toInt ∧ (n_h0_quarrelNow).toInt ≤ (2 : Int)) ∧ (∀ j : Nat, ((0 : Int) ≤ (g_hbd j).toInt ∧ (g_hbd j).toInt ≤ (11 : Int))) ∧ va_P (dC, dI) vwCl [(h0, .inr (12, [h0_0, h0_1, .int n_h0_thrown, .int ml, .int mn, .ref hs, .ref ha, .ref hb9, .ref hc9, .ref hct, .ref hfo, .ref hbd, .ref hlt, .ref hrk, .ref hfi, .ref hla, .int n_h0_quarrelNow, h0_17, h0_18, h0_19, h0_20, h0_21, h0_22, .int mk, .ref hme, .ref hv, .ref hkp, h0_27, h0_28, h0_29, h0_30, h0_31, h0_32, h0_33, h0_34, h0_35, h0_36, h0_37, h0_38, h0_39, h0_40, h0_41, h0_42, h0_43, h0_44, h0_45, h0_46, h0_47, h0_48, h0_49, h0_50, h0_51, h0_52, h0_53, h0_54, h0_55, h0_56, h0_57, h0_58, h0_59, h0_60, h0_61, h0_62, h0_63, h0_64, h0_65, h0_66, h0_67, h0_68, h0_69])), (hct, .inl (chct, 80, .inl g_hct)), (hs, .inl (chs, 80, .inl fhs)), (ha, .inl (cha, 80, .inl fha)), (hb9, .inl (chb9, 80, .inl fhb9)), (hc9, .inl (chc9, 80, .inl fhc9)), (hbd, .inl (chbd, 12, .inl g_hbd)), (hlt, .inl (chlt, 144, .inl g_hlt)), (hrk, .inl (chrk, 12, .inl g_hrk)), (hfi, .inl (chfi, 12, .inl g_hfi)), (hla, .inl (chla, 12, .inl g_hla)), (hfo, .inl (chfo, 11520, .inl fhfo)), (hme, .inl (chme, 6, .inl fhme)), (hv, .inl (chv, 6, .inl fhv)), (hkp, .inl (chkp, 24, .inl fhkp))] t.heap ∧ va_K (dC, dI) vwCl [] t ∧ va_D (va_A [(h0, .inr (12, [h0_0, h0_1, .int mx, .int ml, .int mn, .ref hs, .ref ha, .ref hb9, .ref hc9, .ref hct, .ref hfo, .ref hbd, .ref hlt, .ref hrk, .ref hfi, .ref hla, .int mq, h0_17, h0_18, h0_19, h0_20, h0_21, h0_22, .int mk, .ref hme, .ref hv, .ref hkp, h0_27, h0_28, h0_29, h0_30, h0_31, h0_32, h0_33, h0_34, h0_35, h0_36, h0_37, h0_38, h0_39, h0_40, h0_41, h0_42, h0_43, h0_44, h0_45, h0_46, h0_47, h0_48, h0_49, h0_50, h0_51, h0_52, h0_53, h0_54, h0_55, h0_56, h0_57, h0_58, h0_59, h0_60, h0_61, h0_62, h0_63, h0_64, h0_65, h0_66, h0_67, h0_68, h0_69])), (hct, .inl (chct, 80, .inl fhct)), (hs, .inl (chs, 80, .inl fhs)), (ha, .inl (cha, 80, .inl fha)), (hb9, .inl (chb9, 80, .inl fhb9)), (hc9, .inl (chc9, 80, .inl fhc9)), (hbd, .inl (chbd, 12, .inl fhbd)), (hlt, .inl (chlt, 144, .inl fhlt)), (hrk, .inl (chrk, 12, .inl fhrk)), (hfi, .inl (chfi, 12, .inl fhfi)), (hla, .inl (chla, 12, .inl fhla)), (hfo, .inl (chfo, 11520, .inl fhfo)), (hme, .inl (chme, 6, .inl fhme)), (hv, .inl (chv, 6, .inl fhv)), (hkp, .inl (chkp, 24, .inl fhkp))] sz) [(h0, .inr (12, [h0_0, h0_1, .int n_h0_thrown, .int ml, .int mn, .ref hs, .ref ha, .ref hb9, .ref hc9, .ref hct, .ref hfo, .ref hbd, .ref hlt, .ref hrk, .ref hfi, .ref hla, .int n_h0_quarrelNow, h0_17, h0_18, h0_19, h0_20, h0_21, h0_22, .int mk, .ref hme, .ref hv, .ref hkp, h0_27, h0_28, h0_29, h0_30, h0_31, h0_32, h0_33, h0_34, h0_35, h0_36, h0_37, h0_38, h0_39, h0_40, h0_41, h0_42, h0_43, h0_44, h0_45, h0_46, h0_47, h0_48, h0_49, h0_50, h0_51, h0_52, h0_53, h0_54, h0_55, h0_56, h0_57, h0_58, h0_59, h0_60, h0_61, h0_62, h0_63, h0_64, h0_65, h0_66, h0_67, h0_68, h0_69])), (hct, .inl (chct, 80, .inl g_hct)), (hs, .inl (chs, 80, .inl fhs)), (ha, .inl (cha, 80, .inl fha)), (hb9, .inl (chb9, 80, .inl fhb9)), (hc9, .inl (chc9, 80, .inl fhc9)), (hbd, .inl (chbd, 12, .inl g_hbd)), (hlt, .inl (chlt, 144, .inl g_hlt)), (hrk, .inl (chrk, 12, .inl g_hrk)), (hfi, .inl (chfi, 12, .inl g_hfi)), (hla, .inl (chla, 12, .inl g_hla)), (hfo, .inl (chfo, 11520, .inl fhfo)), (hme, .inl (chme, 6, .inl fhme)), (hv, .inl (chv, 6, .inl fhv)), (hkp, .inl (chkp, 24, .inl fhkp))]) (va_A [(h0, .inr (12, [h0_0, h0_1, .int mx, .int ml, .int mn, .ref hs, .ref ha, .ref hb9, .ref hc9, .ref hct, .ref hfo, .ref hbd, .ref hlt, .ref hrk, .ref hfi, .ref hla, .int mq, h0_17, h0_18, h0_19, h0_20, h0_21, h0_22, .int mk, .ref hme, .ref hv, .ref hkp, h0_27, h0_28, h0_29, h0_30, h0_31, h0_32, h0_33, h0_34, h0_35, h0_36, h0_37, h0_38, h0_39, h0_40, h0_41, h0_42, h0_43, h0_44, h0_45, h0_46, h0_47, h0_48, h0_49, h0_50, h0_51, h0_52, h0_53, h0_54, h0_55, h0_56, h0_57, h0_58, h0_59, h0_60, h0_61, h0_62, h0_63, h0_64, h0_65, h0_66, h0_67, h0_68, h0_69])), (hct, .inl (chct, 80, .inl fhct)), (hs, .inl (chs, 80, .inl fhs)), (ha, .inl (cha, 80, .inl fha)), (hb9, .inl (chb9, 80, .inl fhb9)), (hc9, .inl (chc9, 80, .inl fhc9)), (hbd, .inl (chbd, 12, .inl fhbd)), (hlt, .inl (chlt, 144, .inl fhlt)), (hrk, .inl (chrk, 12, .inl fhrk)), (hfi, .inl (chfi, 12, .inl fhfi)), (hla, .inl (chla, 12, .inl fhla)), (hfo, .inl (chfo, 11520, .inl fhfo)), (hme, .inl (chme, 6, .inl fhme)), (hv, .inl (chv, 6, .inl fhv)), (hkp, .inl (chkp, 24, .inl fhkp))] sz)) 0 0 (va_A [(h0, .inr (12, [h0_0, h0_1, .int mx, .int ml, .int mn, .ref hs, .ref ha, .ref hb9, .ref hc9, .ref hct, .ref hfo, .ref hbd, .ref hlt, .ref hrk, .ref hfi, .ref hla, .int mq, h0_17, h0_18, h0_19, h0_20, h0_21, h0_22, .int mk, .ref hme, .ref hv, .ref hkp, h0_27, h0_28, h0_29, h0_30, h0_31, h0_32, h0_33, h0_34, h0_35, h0_36, h0_37, h0_38, h0_39, h0_40, h0_41, h0_42, h0_43, h0_44, h0_45, h0_46, h0_47, h0_48, h0_49, h0_50, h0_51, h0_52, h0_53, h0_54, h0_55, h0_56, h0_57, h0_58, h0_59, h0_60, h0_61, h0_62, h0_63, h0_64, h0_65, h0_66, h0_67, h0_68, h0_69])), (hct, .inl (chct, 80, .inl fhct)), (hs, .inl (chs, 80, .inl fhs)), (ha, .inl (cha, 80, .inl fha)), (hb9, .inl (chb9, 80, .inl fhb9)), (hc9, .inl (chc9, 80, .inl fhc9)), (hbd, .inl (chbd, 12, .inl fhbd)), (hlt, .inl (chlt, 144, .inl fhlt)), (hrk, .inl (chrk, 12, .inl fhrk)), (hfi, .inl (chfi, 12, .inl fhfi)), (hla, .inl (chla, 12, .inl fhla)), (hfo, .inl (chfo, 11520, .inl fhfo)), (hme, .inl (chme, 6, .inl fhme)), (hv, .inl (chv, 6, .inl fhv)), (hkp, .inl (chkp, 24, .inl fhkp))] sz) := by
  refine Met.ofW (cc := cX12_days) (maxL := 4) (ret := (some .long)) (by decide) rfl ?_
  intro p e s m args below meth c s₁ B hml hv
  obtain ⟨rfl, hsz, hP, hK, hD0⟩ := hv
  have hx := B.exec
  have hb := B.bytes
  have hr := B.returns
  have hts := atoms_spec (ws := u_s_X12_days) B.pre
  have hown : s.vm.findClass RX12 = some m.cls := findClass_of_methodNamed B.named
  have hlocks := B.notSynchronized
  subst hsz
  have hD := hD0.self (sz := s.heap.size)
  generalize hAe : va_A [(h0, .inr (12, [h0_0, h0_1, .int mx, .int ml, .int mn, .ref hs, .ref ha, .ref hb9, .ref hc9, .ref hct, .ref hfo, .ref hbd, .ref hlt, .ref hrk, .ref hfi, .ref hla, .int mq, h0_17, h0_18, h0_19, h0_20, h0_21, h0_22, .int mk, .ref hme, .ref hv, .ref hkp, h0_27, h0_28, h0_29, h0_30, h0_31, h0_32, h0_33, h0_34, h0_35, h0_36, h0_37, h0_38, h0_39, h0_40, h0_41, h0_42, h0_43, h0_44, h0_45, h0_46, h0_47, h0_48, h0_49, h0_50, h0_51, h0_52, h0_53, h0_54, h0_55, h0_56, h0_57, h0_58, h0_59, h0_60, h0_61, h0_62, h0_63, h0_64, h0_65, h0_66, h0_67, h0_68, h0_69])), (hct, .inl (chct, 80, .inl fhct)), (hs, .inl (chs, 80, .inl fhs)), (ha, .inl (cha, 80, .inl fha)), (hb9, .inl (chb9, 80, .inl fhb9)), (hc9, .inl (chc9, 80, .inl fhc9)), (hbd, .inl (chbd, 12, .inl fhbd)), (hlt, .inl (chlt, 144, .inl fhlt)), (hrk, .inl (chrk, 12, .inl fhrk)), (hfi, .inl (chfi, 12, .inl fhfi)), (hla, .inl (chla, 12, .inl fhla)), (hfo, .inl (chfo, 11520, .inl fhfo)), (hme, .inl (chme, 6, .inl fhme)), (hv, .inl (chv, 6, .inl fhv)), (hkp, .inl (chkp, 24, .inl fhkp))] s.heap.size = A at hD ⊢
  have hA : ∀ q : Nat, s.heap.size ≤ q → A q := fun q h => by rw [← hAe]; exact Or.inr h
  have hS : va_S A s.heap s.heap [] := va_S.rf
  have hP : va_P (dC, dI) vwCl [(h0, .inr (12, [h0_0, h0_1, .int mx, .int ml, .int mn, .ref hs, .ref ha, .ref hb9, .ref hc9, .ref hct, .ref hfo, .ref hbd, .ref hlt, .ref hrk, .ref hfi, .ref hla, .int mq, h0_17, h0_18, h0_19, h0_20, h0_21, h0_22, .int mk, .ref hme, .ref hv, .ref hkp, h0_27, h0_28, h0_29, h0_30, h0_31, h0_32, h0_33, h0_34, h0_35, h0_36, h0_37, h0_38, h0_39, h0_40, h0_41, h0_42, h0_43, h0_44, h0_45, h0_46, h0_47, h0_48, h0_49, h0_50, h0_51, h0_52, h0_53, h0_54, h0_55, h0_56, h0_57, h0_58, h0_59, h0_60, h0_61, h0_62, h0_63, h0_64, h0_65, h0_66, h0_67, h0_68, h0_69])), (hct, .inl (chct, 80, .inl fhct)), (hs, .inl (chs, 80, .inl fhs)), (ha, .inl (cha, 80, .inl fha)), (hb9, .inl (chb9, 80, .inl fhb9)), (hc9, .inl (chc9, 80, .inl fhc9)), (hbd, .inl (chbd, 12, .inl fhbd)), (hlt, .inl (chlt, 144, .inl fhlt)), (hrk, .inl (chrk, 12, .inl fhrk)), (hfi, .inl (chfi, 12, .inl fhfi)), (hla, .inl (chla, 12, .inl fhla)), (hfo, .inl (chfo, 11520, .inl fhfo)), (hme, .inl (chme, 6, .inl fhme)), (hv, .inl (chv, 6, .inl fhv)), (hkp, .inl (chkp, 24, .inl fhkp))] s.heap := hP
  have w__fieldLink_RX12_145_ShellHeapModel_thrown_I_ := hts (.fieldLink RX12 145 "ShellHeapModel" "thrown" "I") (z_mc (z_ml z_m0))
  have hiX12 := show ∀ w ∈ u_ws RX12 TX12 70, w ∈ u_s_X12_days from fun w h => z_mc (z_mr (z_ml h))
  have w__constantLong_RX12_274_1_ := hts (.constantLong RX12 274 (-1)) (z_mc (z_ml z_m5))
  have w__constant_RX12_220_99999_ := hts (.constant RX12 220 (99999)) (z_mc (z_ml z_m6))
  have w__fieldLink_RX12_154_ShellHeapModel_notes_I_ := hts (.fieldLink RX12 154 "ShellHeapModel" "notes" "I") (z_mc (z_ml z_m7))
  have w__fieldLink_RX12_32_ShellHeapModel_bedOf_I_ := hts (.fieldLink RX12 32 "ShellHeapModel" "bedOf" "[I") (z_mc (z_ml z_m11))
  have w__constantLong_RX12_286_100_ := hts (.constantLong RX12 286 (100)) (z_mc (z_ml z_m15))
  have krr_p1 := z_rng p1
  have krr_p2 := z_rng p2
  have krr_p3 := z_rng p3
  have hl := lv_entry ([.ref h0, .int p1, .int p2, .int p3]) (n := 4) (Nat.le_of_ble_eq_true rfl)
  rw [lg_entry_eq]
  generalize (lg_sl ([.ref h0, .int p1, .int p2, .int p3]) ++ List.replicate (4 - (lg_sl ([.ref h0, .int p1, .int p2, .int p3])).length) Slot.unset).toArray = ls at hl ⊢
  have hl : lv_has ls 4 [(0, .ref h0), (1, .int p1), (2, .int p2), (3, .int p3)] := hl
  refine lv_aload_n hx hb dX12_days_0 rfl (lv_at hl 0 rfl) ?_
  refine lv_iconst (v := 0) hx hb dX12_days_1 (by decide) ?_
  refine va_put (D := (dC, dI)) (ci := 12) (v := .int 0) (ty := .int) (C := RX12) (T := TX12) (N := 70) hx hb hts hiX12 tyX12 tyX12_ok nmX12 hown hK hP hD hS 0 rfl rfl 2 (by decide) w__fieldLink_RX12_145_ShellHeapModel_thrown_I_ (fun _ h9 => h9) rfl (by decide +kernel) rfl rfl (Nat.le_of_ble_eq_true rfl) dX12_days_2 (fun H_1 locs hP hD hS => ?_)
  obtain ⟨hP, hD⟩ := z_s_0_2 hP hD
  refine lv_aload_n hx hb dX12_days_5 rfl (lv_at hl 0 rfl) ?_
  refine lv_iload_n hx hb dX12_days_6 rfl (lv_at hl 1 rfl) ?_
  obtain ⟨hPc, hDc⟩ := z_sub2 (ws' := [(h0, .inr (12, [h0_0, h0_1, .int 0, .int ml, .int mn, .ref hs, .ref ha, .ref hb9, .ref hc9, .ref hct, .ref hfo, .ref hbd, .ref hlt, .ref hrk, .ref hfi, .ref hla, .int mq, h0_17, h0_18, h0_19, h0_20, h0_21, h0_22, .int mk, .ref hme, .ref hv, .ref hkp, h0_27, h0_28, h0_29, h0_30, h0_31, h0_32, h0_33, h0_34, h0_35, h0_36, h0_37, h0_38, h0_39, h0_40, h0_41, h0_42, h0_43, h0_44, h0_45, h0_46, h0_47, h0_48, h0_49, h0_50, h0_51, h0_52, h0_53, h0_54, h0_55, h0_56, h0_57, h0_58, h0_59, h0_60, h0_61, h0_62, h0_63, h0_64, h0_65, h0_66, h0_67, h0_68, h0_69]))]) hP hD [0] (by decide) rfl
  have hKc := hK.sub (tys' := []) [] rfl
  have hFc := va_free (ws := []) (wc := []) (z_D0 _) hS hA [] rfl
  refine va_calli (va_runV (As := [.int p1]) (rest := []) ⟨hx, hb, hml, hown, hts⟩ (s_X12_isLayer l dC dI H_1.size h0 p1 h0_0 h0_1 (.int 0) ml (.int mn) (.ref hs) (.ref ha) (.ref hb9) (.ref hc9) (.ref hct) (.ref hfo) (.ref hbd) (.ref hlt) (.ref hrk) (.ref hfi) (.ref hla) (.int mq) h0_17 h0_18 h0_19 h0_20 h0_21 h0_22 (.int mk) (.ref hme) (.ref hv) (.ref hkp) h0_27 h0_28 h0_29 h0_30 h0_31 h0_32 h0_33 h0_34 h0_35 h0_36 h0_37 h0_38 h0_39 h0_40 h0_41 h0_42 h0_43 h0_44 h0_45 h0_46 h0_47 h0_48 h0_49 h0_50 h0_51 h0_52 h0_53 h0_54 h0_55 h0_56 h0_57 h0_58 h0_59 h0_60 h0_61 h0_62 h0_63 h0_64 h0_65 h0_66 h0_67 h0_68 h0_69 hB_ml) (cwV 1 hts gw_s_X12_days_s_X12_isLayer_157 rfl rfl rfl (by decide +kernel) ⟨Nat.le_of_ble_eq_true rfl, Nat.le_of_ble_eq_true rfl⟩) ⟨z_blind, va_recv hKc hPc (ci := 12) (q0 := 0) rfl rfl, z_pre hPc hKc hDc⟩ rfl rfl hl.1 rfl (lv_room (Nat.le_of_ble_eq_true rfl)) dX12_days_7 ⟨Nat.le_of_ble_eq_true rfl, Nat.le_of_ble_eq_true rfl⟩) hS (fun q _ h => hFc q h) hFc (fun r_3 u t H_2 locs ht hvm hw_4 hB hz1 hk1 hS => ?_)
  replace hP := z_pure hP hk1
  clear hPc hDc hKc
  rcases hw_4 with ⟨rfl, hw_4⟩ | ⟨rfl, hw_4⟩
  · have hw_4 : (0 ≤ p1.toInt ∧ p1.toInt < ml.toInt) := hw_4
    refine lv_if_eq (tgt := 35) hx hb dX12_days_10 (by decide) (fun c_5 => absurd c_5 (by decide)) (fun _ => ?_)
    refine lv_iload_n hx hb dX12_days_13 rfl (lv_at hl 2 rfl) ?_
    refine lv_iconst (v := 1) hx hb dX12_days_14 (by decide) ?_
    refine lv_icmp_lt (tgt := 35) hx hb dX12_days_15 (by decide) (fun c_6 => ?_) (fun c_6 => ?_)
    · have k_7 : (p2).toInt < (1 : Int) := z_lt c_6
      refine lv_ldc2 (v := (-1)) hx hb hown w__constantLong_RX12_274_1_ dX12_days_35 ?_
      have hP9 := hP
      have hD9 := hD
      have hK9 := hK.sub (tys' := []) [] rfl
      refine W.widen (k := 0) (n := 0) (Nat.le_of_ble_eq_true rfl) (Nat.le_of_ble_eq_true rfl) ?_
      exact W.lret (v := (-1)) hx hb hr (fun t ht hW => ⟨⟨(-1), (), rfl, trivial, ⟨0, mq, fhct, fhbd, fhlt, fhrk, fhfi, fhla, hB_mq, hI_hbd, by rw [ht]; exact hP9, va_K.moved hW.alike hK9, hD9⟩⟩, hS.F ht⟩) hS.2.2 dX12_days_38
    · have k_8 : (p2).toInt ≥ (1 : Int) := z_nlt c_6
      refine lv_iload_n hx hb dX12_days_18 rfl (lv_at hl 2 rfl) ?_
      refine lv_ldc (v := 99999) hx hb hown w__constant_RX12_220_99999_ dX12_days_19 ?_
      refine lv_icmp_gt (tgt := 35) hx hb dX12_days_21 (by decide) (fun c_9 => ?_) (fun c_9 => ?_)
      · have k_10 : (99999 : Int) < (p2).toInt := z_lt c_9
        refine lv_ldc2 (v := (-1)) hx hb hown w__constantLong_RX12_274_1_ dX12_days_35 ?_
        have hP9 := hP
        have hD9 := hD
        have hK9 := hK.sub (tys' := []) [] rfl
        refine W.widen (k := 0) (n := 0) (Nat.le_of_ble_eq_true rfl) (Nat.le_of_ble_eq_true rfl) ?_
        exact W.lret (v := (-1)) hx hb hr (fun t ht hW => ⟨⟨(-1), (), rfl, trivial, ⟨0, mq, fhct, fhbd, fhlt, fhrk, fhfi, fhla, hB_mq, hI_hbd, by rw [ht]; exact hP9, va_K.moved hW.alike hK9, hD9⟩⟩, hS.F ht⟩) hS.2.2 dX12_days_38
      · have k_11 : (99999 : Int) ≥ (p2).toInt := z_nlt c_9
        refine lv_iload_n hx hb dX12_days_24 rfl (lv_at hl 3 rfl) ?_
        refine lv_iconst (v := 1) hx hb dX12_days_25 (by decide) ?_
        refine lv_icmp_lt (tgt := 35) hx hb dX12_days_26 (by decide) (fun c_12 => ?_) (fun c_12 => ?_)
        · have k_13 : (p3).toInt < (1 : Int) := z_lt c_12
          refine lv_ldc2 (v := (-1)) hx hb hown w__constantLong_RX12_274_1_ dX12_days_35 ?_
          have hP9 := hP
          have hD9 := hD
          have hK9 := hK.sub (tys' := []) [] rfl
          refine W.widen (k := 0) (n := 0) (Nat.le_of_ble_eq_true rfl) (Nat.le_of_ble_eq_true rfl) ?_
          exact W.lret (v := (-1)) hx hb hr (fun t ht hW => ⟨⟨(-1), (), rfl, trivial, ⟨0, mq, fhct, fhbd, fhlt, fhrk, fhfi, fhla, hB_mq, hI_hbd, by rw [ht]; exact hP9, va_K.moved hW.alike hK9, hD9⟩⟩, hS.F ht⟩) hS.2.2 dX12_days_38
        · have k_14 : (p3).toInt ≥ (1 : Int) := z_nlt c_12
          refine lv_iload_n hx hb dX12_days_29 rfl (lv_at hl 3 rfl) ?_
          refine lv_bipush (v := 100) hx hb dX12_days_30 (by decide) ?_
          refine lv_icmp_le (tgt := 39) hx hb dX12_days_32 (by decide) (fun c_15 => ?_) (fun c_15 => ?_)
          · have k_16 : (p3).toInt ≤ (100 : Int) := z_le c_15
            refine lv_aload_n hx hb dX12_days_39 rfl (lv_at hl 0 rfl) ?_
            refine lv_aload_n hx hb dX12_days_40 rfl (lv_at hl 0 rfl) ?_
            refine va_get (D := (dC, dI)) (ci := 12) (v := .int mn) (C := RX12) (T := TX12) (N := 70) hx hb hts hiX12 hown hK hP 0 rfl rfl 4 (by decide) w__fieldLink_RX12_154_ShellHeapModel_notes_I_ (fun _ h9 => h9) rfl dX12_days_41 ?_
            obtain ⟨hPc, hDc, hFc⟩ := z_sub3 (ws' := [(h0, .inr (12, [h0_0, h0_1, .int 0, .int ml, .int mn, .ref hs, .ref ha, .ref hb9, .ref hc9, .ref hct, .ref hfo, .ref hbd, .ref hlt, .ref hrk, .ref hfi, .ref hla, .int mq, h0_17, h0_18, h0_19, h0_20, h0_21, h0_22, .int mk, .ref hme, .ref hv, .ref hkp, h0_27, h0_28, h0_29, h0_30, h0_31, h0_32, h0_33, h0_34, h0_35, h0_36, h0_37, h0_38, h0_39, h0_40, h0_41, h0_42, h0_43, h0_44, h0_45, h0_46, h0_47, h0_48, h0_49, h0_50, h0_51, h0_52, h0_53, h0_54, h0_55, h0_56, h0_57, h0_58, h0_59, h0_60, h0_61, h0_62, h0_63, h0_64, h0_65, h0_66, h0_67, h0_68, h0_69])), (hct, .inl (chct, 80, .inl fhct)), (hs, .inl (chs, 80, .inl fhs)), (ha, .inl (cha, 80, .inl fha)), (hb9, .inl (chb9, 80, .inl fhb9)), (hc9, .inl (chc9, 80, .inl fhc9)), (hbd, .inl (chbd, 12, .inl fhbd)), (hlt, .inl (chlt, 144, .inl fhlt)), (hrk, .inl (chrk, 12, .inl fhrk)), (hfi, .inl (chfi, 12, .inl fhfi)), (hla, .inl (chla, 12, .inl fhla))]) hP hD hS hA [0, 1, 2, 3, 4, 5, 6, 7, 8, 9, 10] (by decide) rfl
            have hKc := hK.sub (tys' := [(chct, .boolean), (chs, .int), (cha, .int), (chb9, .int), (chc9, .int), (chbd, .int), (chlt, .boolean), (chrk, .int), (chfi, .int), (chla, .int)]) [0, 1, 2, 3, 4, 5, 6, 7, 8, 9] rfl
            refine va_callv (va_runV (As := [.int mn]) (rest := []) ⟨hx, hb, hml, hown, hts⟩ (s_X12_know l dC dI H_2.size h0 mn h0_0 h0_1 (.int 0) (.int ml) mn hs ha hb9 hc9 hct (.ref hfo) hbd hlt hrk hfi hla mq h0_17 h0_18 h0_19 h0_20 h0_21 h0_22 (.int mk) (.ref hme) (.ref hv) (.ref hkp) h0_27 h0_28 h0_29 h0_30 h0_31 h0_32 h0_33 h0_34 h0_35 h0_36 h0_37 h0_38 h0_39 h0_40 h0_41 h0_42 h0_43 h0_44 h0_45 h0_46 h0_47 h0_48 h0_49 h0_50 h0_51 h0_52 h0_53 h0_54 h0_55 h0_56 h0_57 h0_58 h0_59 h0_60 h0_61 h0_62 h0_63 h0_64 h0_65 h0_66 h0_67 h0_68 h0_69 chct fhct chs fhs cha fha chb9 fhb9 chc9 fhc9 chbd fhbd chlt fhlt chrk fhrk chfi fhfi chla fhla hB_mq hB_mn hB_mn hI_ha hI_hbd hR) (cwV 1 hts gw_s_X12_days_s_X12_know_173 rfl rfl rfl (by decide +kernel) ⟨Nat.le_of_ble_eq_true rfl, Nat.le_of_ble_eq_true rfl⟩) ⟨z_blind, va_recv hKc hPc (ci := 12) (q0 := 0) rfl rfl, z_pre hPc hKc hDc⟩ rfl rfl hl.1 rfl (lv_room (Nat.le_of_ble_eq_true rfl)) dX12_days_44 ⟨Nat.le_of_ble_eq_true rfl, Nat.le_of_ble_eq_true rfl⟩) hS (fun q _ h => hFc q h) hFc (fun u t H_17 locs ht hvm hw_19 hB hz1 hk1 hS => ?_)
            obtain ⟨n_h0_quarrelNow_20, g_hct_21, g_hbd_22, g_hlt_23, g_hrk_24, g_hfi_25, g_hla_26, hp_27, hp_28, hP1, hK1, hD1⟩ := hB
            rw [ht] at hP1
            have hK1 := va_K.moved hvm.symm hK1
            obtain ⟨hP, hD⟩ := z_ap_4 (va_join (wr := [(hfo, .inl (chfo, 11520, .inl fhfo)), (hme, .inl (chme, 6, .inl fhme)), (hv, .inl (chv, 6, .inl fhv)), (hkp, .inl (chkp, 24, .inl fhkp))]) hP hD [0, 1, 2, 3, 4, 5, 6, 7, 8, 9, 10] [11, 12, 13, 14] rfl rfl (by decide) (by decide) hk1 hFc hP1 hD1)
            clear hPc hDc hKc
            refine lv_aload_n hx hb dX12_days_47 rfl (lv_at hl 0 rfl) ?_
            refine lv_aload_n hx hb dX12_days_48 rfl (lv_at hl 0 rfl) ?_
            refine va_get (D := (dC, dI)) (ci := 12) (v := .ref hbd) (C := RX12) (T := TX12) (N := 70) hx hb hts hiX12 hown hK hP 4 rfl rfl 11 (by decide) w__fieldLink_RX12_32_ShellHeapModel_bedOf_I_ (fun _ h9 => h9) rfl dX12_days_49 ?_
            refine lv_iload_n hx hb dX12_days_52 rfl (lv_at hl 1 rfl) ?_
            refine va_iald hx hb hK hP 10 5 rfl rfl (z_vpin (by omega) (by omega)) dX12_days_53 ?_
            refine lv_topi (fun z_29 ez_29 => ?_)
            have kz_29 : ((0 : Int) ≤ (z_29).toInt ∧ (z_29).toInt ≤ (11 : Int)) := by rw [ez_29]; exact hp_28 _
            obtain ⟨hPc, hDc⟩ := z_sub2 (ws' := [(h0, .inr (12, [h0_0, h0_1, .int 0, .int ml, .int mn, .ref hs, .ref ha, .ref hb9, .ref hc9, .ref hct, .ref hfo, .ref hbd, .ref hlt, .ref hrk, .ref hfi, .ref hla, .int n_h0_quarrelNow_20, h0_17, h0_18, h0_19, h0_20, h0_21, h0_22, .int mk, .ref hme, .ref hv, .ref hkp, h0_27, h0_28, h0_29, h0_30, h0_31, h0_32, h0_33, h0_34, h0_35, h0_36, h0_37, h0_38, h0_39, h0_40, h0_41, h0_42, h0_43, h0_44, h0_45, h0_46, h0_47, h0_48, h0_49, h0_50, h0_51, h0_52, h0_53, h0_54, h0_55, h0_56, h0_57, h0_58, h0_59, h0_60, h0_61, h0_62, h0_63, h0_64, h0_65, h0_66, h0_67, h0_68, h0_69])), (hct, .inl (chct, 80, .inl g_hct_21)), (hs, .inl (chs, 80, .inl fhs)), (ha, .inl (cha, 80, .inl fha)), (hb9, .inl (chb9, 80, .inl fhb9)), (hbd, .inl (chbd, 12, .inl g_hbd_22)), (hfo, .inl (chfo, 11520, .inl fhfo)), (hv, .inl (chv, 6, .inl fhv)), (hkp, .inl (chkp, 24, .inl fhkp)), (hme, .inl (chme, 6, .inl fhme))]) hP hD [4, 5, 6, 7, 8, 10, 0, 2, 3, 1] (by decide) rfl
            have hKc := hK.sub (tys' := [(chct, .boolean), (chs, .int), (cha, .int), (chb9, .int), (chbd, .int), (chfo, .int), (chv, .int), (chkp, .int), (chme, .int)]) [0, 1, 2, 3, 5, 10, 12, 13, 11] rfl
            have hFc := va_free (ws := []) (wc := []) (z_D0 _) hS hA [] rfl
            refine va_calll (va_runV (As := [.int z_29]) (rest := []) ⟨hx, hb, hml, hown, hts⟩ (s_X12_food l dC dI H_17.size h0 z_29 h0_0 h0_1 (.int 0) (.int ml) mn hs ha hb9 (.ref hc9) hct hfo hbd (.ref hlt) (.ref hrk) (.ref hfi) (.ref hla) (.int n_h0_quarrelNow_20) h0_17 h0_18 h0_19 h0_20 h0_21 h0_22 mk hme hv hkp h0_27 h0_28 h0_29 h0_30 h0_31 h0_32 h0_33 h0_34 h0_35 h0_36 h0_37 h0_38 h0_39 h0_40 h0_41 h0_42 h0_43 h0_44 h0_45 h0_46 h0_47 h0_48 h0_49 h0_50 h0_51 h0_52 h0_53 h0_54 h0_55 h0_56 h0_57 h0_58 h0_59 h0_60 h0_61 h0_62 h0_63 h0_64 h0_65 h0_66 h0_67 h0_68 h0_69 chct g_hct_21 chs fhs cha fha chb9 fhb9 chbd g_hbd_22 chfo fhfo chv fhv chkp fhkp chme fhme hB_mn hB_mk hI_ha hp_28 hI_hkp hR) (cwV 1 hts gw_s_X12_days_s_X12_food_279 rfl rfl rfl (by decide +kernel) ⟨Nat.le_of_ble_eq_true rfl, Nat.le_of_ble_eq_true rfl⟩) ⟨z_blind, va_recv hKc hPc (ci := 12) (q0 := 0) rfl rfl, z_pre hPc hKc hDc⟩ rfl rfl hl.1 rfl (lv_room (Nat.le_of_ble_eq_true rfl)) dX12_days_54 ⟨Nat.le_of_ble_eq_true rfl, Nat.le_of_ble_eq_true rfl⟩) hS (fun q _ h => hFc q h) hFc (fun r_31 u t H_30 locs ht hvm hw_32 hB hz1 hk1 hS => ?_)
            replace hP := z_pure hP hk1
            clear hPc hDc hKc
            refine lv_ldc2 (v := 100) hx hb hown w__constantLong_RX12_286_100_ dX12_days_57 ?_
            refine lv_lmul hx hb dX12_days_60 ?_
            refine lv_topl (fun z_33 ez_33 => ?_)
            refine lv_iload_n hx hb dX12_days_61 rfl (lv_at hl 2 rfl) ?_
            refine lv_i2l hx hb dX12_days_62 rfl ?_
            refine lv_topl (fun z_34 ez_34 => ?_)
            have kz_34 : (z_34).toInt = (p2).toInt := by rw [ez_34]; exact z_i2l _
            refine lv_iload_n hx hb dX12_days_63 rfl (lv_at hl 3 rfl) ?_
            refine lv_i2l hx hb dX12_days_64 rfl ?_
            refine lv_topl (fun z_35 ez_35 => ?_)
            have kz_35 : (z_35).toInt = (p3).toInt := by rw [ez_35]; exact z_i2l _
            refine lv_lmul hx hb dX12_days_65 ?_
            refine lv_topl (fun z_36 ez_36 => ?_)
            have kz_36 : (1 : Int) ≤ (z_36).toInt := by rw [ez_36]; exact z_lmulpos (by omega) (by omega) (by omega) (by omega)
            refine lv_ldiv hx hb dX12_days_66 (fun q => absurd (show (z_36).toInt = (0 : Int) from congrArg Int64.toInt q) (by omega)) ?_
            refine lv_topl (fun z_37 ez_37 => ?_)
            obtain ⟨hP9, hD9⟩ := z_sub2 (ws' := [(h0, .inr (12, [h0_0, h0_1, .int 0, .int ml, .int mn, .ref hs, .ref ha, .ref hb9, .ref hc9, .ref hct, .ref hfo, .ref hbd, .ref hlt, .ref hrk, .ref hfi, .ref hla, .int n_h0_quarrelNow_20, h0_17, h0_18, h0_19, h0_20, h0_21, h0_22, .int mk, .ref hme, .ref hv, .ref hkp, h0_27, h0_28, h0_29, h0_30, h0_31, h0_32, h0_33, h0_34, h0_35, h0_36, h0_37, h0_38, h0_39, h0_40, h0_41, h0_42, h0_43, h0_44, h0_45, h0_46, h0_47, h0_48, h0_49, h0_50, h0_51, h0_52, h0_53, h0_54, h0_55, h0_56, h0_57, h0_58, h0_59, h0_60, h0_61, h0_62, h0_63, h0_64, h0_65, h0_66, h0_67, h0_68, h0_69])), (hct, .inl (chct, 80, .inl g_hct_21)), (hs, .inl (chs, 80, .inl fhs)), (ha, .inl (cha, 80, .inl fha)), (hb9, .inl (chb9, 80, .inl fhb9)), (hc9, .inl (chc9, 80, .inl fhc9)), (hbd, .inl (chbd, 12, .inl g_hbd_22)), (hlt, .inl (chlt, 144, .inl g_hlt_23)), (hrk, .inl (chrk, 12, .inl g_hrk_24)), (hfi, .inl (chfi, 12, .inl g_hfi_25)), (hla, .inl (chla, 12, .inl g_hla_26)), (hfo, .inl (chfo, 11520, .inl fhfo)), (hme, .inl (chme, 6, .inl fhme)), (hv, .inl (chv, 6, .inl fhv)), (hkp, .inl (chkp, 24, .inl fhkp))]) hP hD [4, 5, 6, 7, 8, 9, 10, 11, 12, 13, 14, 0, 1, 2, 3] (by decide) rfl
            have hK9 := hK.sub (tys' := []) [] rfl
            refine W.widen (k := 0) (n := 0) (Nat.le_of_ble_eq_true rfl) (Nat.le_of_ble_eq_true rfl) ?_
            exact W.lret (v := z_37) hx hb hr (fun t ht hW => ⟨⟨z_37, (), rfl, trivial, ⟨0, n_h0_quarrelNow_20, g_hct_21, g_hbd_22, g_hlt_23, g_hrk_24, g_hfi_25, g_hla_26, hp_27, hp_28, by rw [ht]; exact hP9, va_K.moved hW.alike hK9, hD9⟩⟩, hS.F ht⟩) hS.2.2 dX12_days_67
          · have k_38 : (p3).toInt > (100 : Int) := z_nle c_15
            refine lv_ldc2 (v := (-1)) hx hb hown w__constantLong_RX12_274_1_ dX12_days_35 ?_
            have hP9 := hP
            have hD9 := hD
            have hK9 := hK.sub (tys' := []) [] rfl
            refine W.widen (k := 0) (n := 0) (Nat.le_of_ble_eq_true rfl) (Nat.le_of_ble_eq_true rfl) ?_
            exact W.lret (v := (-1)) hx hb hr (fun t ht hW => ⟨⟨(-1), (), rfl, trivial, ⟨0, mq, fhct, fhbd, fhlt, fhrk, fhfi, fhla, hB_mq, hI_hbd, by rw [ht]; exact hP9, va_K.moved hW.alike hK9, hD9⟩⟩, hS.F ht⟩) hS.2.2 dX12_days_38
  · have hw_4 : True := hw_4
    refine lv_if_eq (tgt := 35) hx hb dX12_days_10 (by decide) (fun _ => ?_) (fun c_39 => absurd (by decide) c_39)
    refine lv_ldc2 (v := (-1)) hx hb hown w__constantLong_RX12_274_1_ dX12_days_35 ?_
    have hP9 := hP
    have hD9 := hD
    have hK9 := hK.sub (tys' := []) [] rfl
    refine W.widen (k := 0) (n := 0) (Nat.le_of_ble_eq_true rfl) (Nat.le_of_ble_eq_true rfl) ?_
    exact W.lret (v := (-1)) hx hb hr (fun t ht hW => ⟨⟨(-1), (), rfl, trivial, ⟨0, mq, fhct, fhbd, fhlt, fhrk, fhfi, fhla, hB_mq, hI_hbd, by rw [ht]; exact hP9, va_K.moved hW.alike hK9, hD9⟩⟩, hS.F ht⟩) hS.2.2 dX12_days_38
def u_s_X12_readings : List Cond := .code yX12_readings cX12_readings 9 (some .int) :: ([.fieldLink RX12 145 "ShellHeapModel" "thrown" "I", .methodLink RX12 157 yX12_isLayer, .instanceMethod yX12_isLayer, .selects RX12 yX12_isLayer yX12_isLayer, .initialized RX12, .methodLink RX12 288 yX12_isReader, .static yX12_isReader, .methodLink RX12 291 yX12_isFew, .static yX12_isFew, .fieldLink RX12 154 "ShellHeapModel" "notes" "I", .methodLink RX12 173 yX12_know, .instanceMethod yX12_know, .selects RX12 yX12_know yX12_know, .fieldLink RX12 32 "ShellHeapModel" "bedOf" "[I", .methodLink RX12 294 yX12_gather, .instanceMethod yX12_gather, .selects RX12 yX12_gather yX12_gather, .fieldLink RX12 81 "ShellHeapModel" "readings" "[I"] ++ (wsX120 ++ (u_s_X12_isLayer ++ (u_s_X12_isReader ++ (u_s_X12_isFew ++ (u_s_X12_know ++ (u_s_X12_gather ++ [])))))))
set_option maxRecDepth 20000 in
theorem gw_s_X12_readings_s_X12_isLayer_157 : GoodIn u_s_X12_readings (wsV RX12 157 RX12 yX12_isLayer u_s_X12_isLayer) := z_gV (z_gr _ [2, 3, 4, 5] rfl (by decide +kernel)) (fun w h => ⟨z_mc (z_mr (z_mr (z_ml h))), gd_s_X12_isLayer w h⟩)
set_option maxRecDepth 20000 in
theorem gw_s_X12_readings_s_X12_isReader_288 : GoodIn u_s_X12_readings (va_wsS RX12 288 yX12_isReader u_s_X12_isReader) := z_gS (z_gr _ [6, 7, 5] rfl (by decide +kernel)) (fun w h => ⟨z_mc (z_mr (z_mr (z_mr (z_ml h)))), gd_s_X12_isReader w h⟩)
set_option maxRecDepth 20000 in
theorem gw_s_X12_readings_s_X12_isFew_291 : GoodIn u_s_X12_readings (va_wsS RX12 291 yX12_isFew u_s_X12_isFew) := z_gS (z_gr _ [8, 9, 5] rfl (by decide +kernel)) (fun w h => ⟨z_mc (z_mr (z_mr (z_mr (z_mr (z_ml h))))), gd_s_X12_isFew w h⟩)
set_option maxRecDepth 20000 in
theorem gw_s_X12_readings_s_X12_know_173 : GoodIn u_s_X12_readings (wsV RX12 173 RX12 yX12_know u_s_X12_know) := z_gV (z_gr _ [11, 12, 13, 5] rfl (by decide +kernel)) (fun w h => ⟨z_mc (z_mr (z_mr (z_mr (z_mr (z_mr (z_ml h)))))), gd_s_X12_know w h⟩)
set_option maxRecDepth 20000 in
theorem gw_s_X12_readings_s_X12_gather_294 : GoodIn u_s_X12_readings (wsV RX12 294 RX12 yX12_gather u_s_X12_gather) := z_gV (z_gr _ [15, 16, 17, 5] rfl (by decide +kernel)) (fun w h => ⟨z_mc (z_mr (z_mr (z_mr (z_mr (z_mr (z_mr (z_ml h))))))), gd_s_X12_gather w h⟩)
set_option maxHeartbeats 4000000 in
set_option maxRecDepth 100000 in
theorem s_X12_readings (l : Launch) (dC : Nat → ClassId) (dI : Nat → Nat → Nat) (sz : Nat) (h0 : Nat) (p1 : Int32) (p2 : Int32) (p3 : Int32) (p4 : Int32) (p5 : Int32) (p6 : Int32) (h0_0 : Value) (h0_1 : Value) (mx : Int32) (ml : Int32) (mn : Int32) (hs : Nat) (ha : Nat) (hb9 : Nat) (hc9 : Nat) (hct : Nat) (h0_10 : Value) (hbd : Nat) (hlt : Nat) (hrk : Nat) (hfi : Nat) (hla : Nat) (mq : Int32) (h0_17 : Value) (h0_18 : Value) (h0_19 : Value) (h0_20 : Value) (h0_21 : Value) (h0_22 : Value) (h0_23 : Value) (h0_24 : Value) (h0_25 : Value) (h0_26 : Value) (h0_27 : Value) (h0_28 : Value) (h0_29 : Value) (h0_30 : Value) (h0_31 : Value) (h0_32 : Value) (h0_33 : Value) (h0_34 : Value) (h0_35 : Value) (a_rg : Nat) (a_td : Nat) (h0_38 : Value) (h0_39 : Value) (h0_40 : Value) (h0_41 : Value) (h0_42 : Value) (h0_43 : Value) (h0_44 : Value) (h0_45 : Value) (h0_46 : Value) (h0_47 : Value) (h0_48 : Value) (h0_49 : Value) (h0_50 : Value) (h0_51 : Value) (h0_52 : Value) (h0_53 : Value) (h0_54 : Value) (h0_55 : Value) (h0_56 : Value) (h0_57 : Value) (h0_58 : Value) (h0_59 : Value) (h0_60 : Value) (h0_61 : Value) (h0_62 : Value) (h0_63 : Value) (h0_64 : Value) (h0_65 : Value) (h0_66 : Value) (h0_67 : Value) (h0_68 : Value) (h0_69 : Value) (chct : ClassId) (fhct : Nat → Int32) (chs : ClassId) (fhs : Nat → Int32) (cha : ClassId) (fha : Nat → Int32) (chb9 : ClassId) (fhb9 : Nat → Int32) (chc9 : ClassId) (fhc9 : Nat → Int32) (chbd : ClassId) (fhbd : Nat → Int32) (chlt : ClassId) (fhlt : Nat → Int32) (chrk : ClassId) (fhrk : Nat → Int32) (chfi : ClassId) (fhfi : Nat → Int32) (chla : ClassId) (fhla : Nat → Int32) (ca_rg : ClassId) (fa_rg : Nat → Int32) (ca_td : ClassId) (fa_td : Nat → Int32) (hB_mn : ((0 : Int) ≤ (mn).toInt ∧ (mn).toInt ≤ (80 : Int))) (hB_ml : ((0 : Int) ≤ (ml).toInt ∧ (ml).toInt ≤ (12 : Int))) (hB_mq : ((0 : Int) ≤ (mq).toInt ∧ (mq).toInt ≤ (2 : Int))) (hI_ha : ∀ j : Nat, ((0 : Int) ≤ (fha j).toInt ∧ (fha j).toInt ≤ (79 : Int))) (hI_hbd : ∀ j : Nat, ((0 : Int) ≤ (fhbd j).toInt ∧ (fhbd j).toInt ≤ (11 : Int))) (hR : ∀ j : Nat, z_relm (fhs j) (fha j) (fhb9 j)) : Met l yX12_readings u_s_X12_readings ({ frames := 2, cells := 0, slots := 0, locals := 47 }) (va_Pc [.ref h0, .int p1, .int p2, .int p3, .int p4, .int p5, .int p6] (z_C (dC, dI) vwCl [(h0, .inr (12, [h0_0, h0_1, .int mx, .int ml, .int mn, .ref hs, .ref ha, .ref hb9, .ref hc9, .ref hct, h0_10, .ref hbd, .ref hlt, .ref hrk, .ref hfi, .ref hla, .int mq, h0_17, h0_18, h0_19, h0_20, h0_21, h0_22, h0_23, h0_24, h0_25, h0_26, h0_27, h0_28, h0_29, h0_30, h0_31, h0_32, h0_33, h0_34, h0_35, .ref a_rg, .ref a_td, h0_38, h0_39, h0_40, h0_41, h0_42, h0_43, h0_44, h0_45, h0_46, h0_47, h0_48, h0_49, h0_50, h0_51, h0_52, h0_53, h0_54, h0_55, h0_56, h0_57, h0_58, h0_59, h0_60, h0_61, h0_62, h0_63, h0_64, h0_65, h0_66, h0_67, h0_68, h0_69])), (hct, .inl (chct, 80, .inl fhct)), (hs, .inl (chs, 80, .inl fhs)), (ha, .inl (cha, 80, .inl fha)), (hb9, .inl (chb9, 80, .inl fhb9)), (hc9, .inl (chc9, 80, .inl fhc9)), (hbd, .inl (chbd, 12, .inl fhbd)), (hlt, .inl (chlt, 144, .inl fhlt)), (hrk, .inl (chrk, 12, .inl fhrk)), (hfi, .inl (chfi, 12, .inl fhfi)), (hla, .inl (chla, 12, .inl fhla)), (a_rg, .inl (ca_rg, 144, .inl fa_rg)), (a_td, .inl (ca_td, 4, .inl fa_td))] [(chct, .boolean), (chs, .int), (cha, .int), (chb9, .int), (chc9, .int), (chbd, .int), (chlt, .boolean), (chrk, .int), (chfi, .int), (chla, .int), (ca_rg, .int), (ca_td, .int)] sz)) (va_Qi (fun (r : Int32) (_ : Unit) => True) (fun (_ : Unit) (t : State) => ∃ (n_h0_thrown : Int32), ∃ (n_h0_quarrelNow : Int32), ∃ (g_hct : Nat → Int32), ∃ (g_hbd : Nat → Int32), ∃ (g_hlt : Nat → Int32), ∃ (g_hrk : Nat → Int32), ∃ (g_hfi : Nat → Int32), ∃ (g_hla : Nat → Int32), ∃ (g_a_rg : Nat → Int32), ∃ (g_a_td : Nat → Int32), ((0 : Int) ≤ (n_h0_quarrelNow).toInt ∧ (n_h0_quarrelNow).toInt ≤ (2 : Int)) ∧ (∀ j : Nat, ((0 : Int) ≤ (g_hbd j).toInt ∧ (g_hbd j).toInt ≤ (11 : Int))) ∧ va_P (dC, dI) vwCl [(h0, .inr (12, [h0_0, h0_1, .int n_h0_thrown, .int ml, .int mn, .ref hs, .ref ha, .ref hb9, .ref hc9, .ref hct, h0_10, .ref hbd, .ref hlt, .ref hrk, .ref hfi, .ref hla, .int n_h0_quarrelNow, h0_17, h0_18, h0_19, h0_20, h0_21, h0_22, h0_23, h0_24, h0_25, h0_26, h0_27, h0_28, h0_29, h0_30, h0_31, h0_32, h0_33, h0_34, h0_35, .ref a_rg, .ref a_td, h0_38, h0_39, h0_40, h0_41, h0_42, h0_43, h0_44, h0_45, h0_46, h0_47, h0_48, h0_49, h0_50, h0_51, h0_52, h0_53, h0_54, h0_55, h0_56, h0_57, h0_58, h0_59, h0_60, h0_61, h0_62, h0_63, h0_64, h0_65, h0_66, h0_67, h0_68, h0_69])), (hct, .inl (chct, 80, .inl g_hct)), (hs, .inl (chs, 80, .inl fhs)), (ha, .inl (cha, 80, .inl fha)), (hb9, .inl (chb9, 80, .inl fhb9)), (hc9, .inl (chc9, 80, .inl fhc9)), (hbd, .inl (chbd, 12, .inl g_hbd)), (hlt, .inl (chlt, 144, .inl g_hlt)), (hrk, .inl (chrk, 12, .inl g_hrk)), (hfi, .inl (chfi, 12, .inl g_hfi)), (hla, .inl (chla, 12, .inl g_hla)), (a_rg, .inl (ca_rg, 144, .inl g_a_rg)), (a_td, .inl (ca_td, 4, .inl g_a_td))] t.heap ∧ va_K (dC, dI) vwCl [] t ∧ va_D (va_A [(h0, .inr (12, [h0_0, h0_1, .int mx, .int ml, .int mn, .ref hs, .ref ha, .ref hb9, .ref hc9, .ref hct, h0_10, .ref hbd, .ref hlt, .ref hrk, .ref hfi, .ref hla, .int mq, h0_17, h0_18, h0_19, h0_20, h0_21, h0_22, h0_23, h0_24, h0_25, h0_26, h0_27, h0_28, h0_29, h0_30, h0_31, h0_32, h0_33, h0_34, h0_35, .ref a_rg, .ref a_td, h0_38, h0_39, h0_40, h0_41, h0_42, h0_43, h0_44, h0_45, h0_46, h0_47, h0_48, h0_49, h0_50, h0_51, h0_52, h0_53, h0_54, h0_55, h0_56, h0_57, h0_58, h0_59, h0_60, h0_61, h0_62, h0_63, h0_64, h0_65, h0_66, h0_67, h0_68, h0_69])), (hct, .inl (chct, 80, .inl fhct)), (hs, .inl (chs, 80, .inl fhs)), (ha, .inl (cha, 80, .inl fha)), (hb9, .inl (chb9, 80, .inl fhb9)), (hc9, .inl (chc9, 80, .inl fhc9)), (hbd, .inl (chbd, 12, .inl fhbd)), (hlt, .inl (chlt, 144, .inl fhlt)), (hrk, .inl (chrk, 12, .inl fhrk)), (hfi, .inl (chfi, 12, .inl fhfi)), (hla, .inl (chla, 12, .inl fhla)), (a_rg, .inl (ca_rg, 144, .inl fa_rg)), (a_td, .inl (ca_td, 4, .inl fa_td))] sz) [(h0, .inr (12, [h0_0, h0_1, .int n_h0_thrown, .int ml, .int mn, .ref hs, .ref ha, .ref hb9, .ref hc9, .ref hct, h0_10, .ref hbd, .ref hlt, .ref hrk, .ref hfi, .ref hla, .int n_h0_quarrelNow, h0_17, h0_18, h0_19, h0_20, h0_21, h0_22, h0_23, h0_24, h0_25, h0_26, h0_27, h0_28, h0_29, h0_30, h0_31, h0_32, h0_33, h0_34, h0_35, .ref a_rg, .ref a_td, h0_38, h0_39, h0_40, h0_41, h0_42, h0_43, h0_44, h0_45, h0_46, h0_47, h0_48, h0_49, h0_50, h0_51, h0_52, h0_53, h0_54, h0_55, h0_56, h0_57, h0_58, h0_59, h0_60, h0_61, h0_62, h0_63, h0_64, h0_65, h0_66, h0_67, h0_68, h0_69])), (hct, .inl (chct, 80, .inl g_hct)), (hs, .inl (chs, 80, .inl fhs)), (ha, .inl (cha, 80, .inl fha)), (hb9, .inl (chb9, 80, .inl fhb9)), (hc9, .inl (chc9, 80, .inl fhc9)), (hbd, .inl (chbd, 12, .inl g_hbd)), (hlt, .inl (chlt, 144, .inl g_hlt)), (hrk, .inl (chrk, 12, .inl g_hrk)), (hfi, .inl (chfi, 12, .inl g_hfi)), (hla, .inl (chla, 12, .inl g_hla)), (a_rg, .inl (ca_rg, 144, .inl g_a_rg)), (a_td, .inl (ca_td, 4, .inl g_a_td))]) (va_A [(h0, .inr (12, [h0_0, h0_1, .int mx, .int ml, .int mn, .ref hs, .ref ha, .ref hb9, .ref hc9, .ref hct, h0_10, .ref hbd, .ref hlt, .ref hrk, .ref hfi, .ref hla, .int mq, h0_17, h0_18, h0_19, h0_20, h0_21, h0_22, h0_23, h0_24, h0_25, h0_26, h0_27, h0_28, h0_29, h0_30, h0_31, h0_32, h0_33, h0_34, h0_35, .ref a_rg, .ref a_td, h0_38, h0_39, h0_40, h0_41, h0_42, h0_43, h0_44, h0_45, h0_46, h0_47, h0_48, h0_49, h0_50, h0_51, h0_52, h0_53, h0_54, h0_55, h0_56, h0_57, h0_58, h0_59, h0_60, h0_61, h0_62, h0_63, h0_64, h0_65, h0_66, h0_67, h0_68, h0_69])), (hct, .inl (chct, 80, .inl fhct)), (hs, .inl (chs, 80, .inl fhs)), (ha, .inl (cha, 80, .inl fha)), (hb9, .inl (chb9, 80, .inl fhb9)), (hc9, .inl (chc9, 80, .inl fhc9)), (hbd, .inl (chbd, 12, .inl fhbd)), (hlt, .inl (chlt, 144, .inl fhlt)), (hrk, .inl (chrk, 12, .inl fhrk)), (hfi, .inl (chfi, 12, .inl fhfi)), (hla, .inl (chla, 12, .inl fhla)), (a_rg, .inl (ca_rg, 144, .inl fa_rg)), (a_td, .inl (ca_td, 4, .inl fa_td))] sz)) 0 0 (va_A [(h0, .inr (12, [h0_0, h0_1, .int mx, .int ml, .int mn, .ref hs, .ref ha, .ref hb9, .ref hc9, .ref hct, h0_10, .ref hbd, .ref hlt, .ref hrk, .ref hfi, .ref hla, .int mq, h0_17, h0_18, h0_19, h0_20, h0_21, h0_22, h0_23, h0_24, h0_25, h0_26, h0_27, h0_28, h0_29, h0_30, h0_31, h0_32, h0_33, h0_34, h0_35, .ref a_rg, .ref a_td, h0_38, h0_39, h0_40, h0_41, h0_42, h0_43, h0_44, h0_45, h0_46, h0_47, h0_48, h0_49, h0_50, h0_51, h0_52, h0_53, h0_54, h0_55, h0_56, h0_57, h0_58, h0_59, h0_60, h0_61, h0_62, h0_63, h0_64, h0_65, h0_66, h0_67, h0_68, h0_69])), (hct, .inl (chct, 80, .inl fhct)), (hs, .inl (chs, 80, .inl fhs)), (ha, .inl (cha, 80, .inl fha)), (hb9, .inl (chb9, 80, .inl fhb9)), (hc9, .inl (chc9, 80, .inl fhc9)), (hbd, .inl (chbd, 12, .inl fhbd)), (hlt, .inl (chlt, 144, .inl fhlt)), (hrk, .inl (chrk, 12, .inl fhrk)), (hfi, .inl (chfi, 12, .inl fhfi)), (hla, .inl (chla, 12, .inl fhla)), (a_rg, .inl (ca_rg, 144, .inl fa_rg)), (a_td, .inl (ca_td, 4, .inl fa_td))] sz) := by
  refine Met.ofW (cc := cX12_readings) (maxL := 9) (ret := (some .int)) (by decide) rfl ?_
  intro p e s m args below meth c s₁ B hml hv
  obtain ⟨rfl, hsz, hP, hK, hD0⟩ := hv
  have hx := B.exec
  have hb := B.bytes
  have hr := B.returns
  have hts := atoms_spec (ws := u_s_X12_readings) B.pre
  have hown : s.vm.findClass RX12 = some m.cls := findClass_of_methodNamed B.named
  have hlocks := B.notSynchronized
  subst hsz
  have hD := hD0.self (sz := s.heap.size)
  generalize hAe : va_A [(h0, .inr (12, [h0_0, h0_1, .int mx, .int ml, .int mn, .ref hs, .ref ha, .ref hb9, .ref hc9, .ref hct, h0_10, .ref hbd, .ref hlt, .ref hrk, .ref hfi, .ref hla, .int mq, h0_17, h0_18, h0_19, h0_20, h0_21, h0_22, h0_23, h0_24, h0_25, h0_26, h0_27, h0_28, h0_29, h0_30, h0_31, h0_32, h0_33, h0_34, h0_35, .ref a_rg, .ref a_td, h0_38, h0_39, h0_40, h0_41, h0_42, h0_43, h0_44, h0_45, h0_46, h0_47, h0_48, h0_49, h0_50, h0_51, h0_52, h0_53, h0_54, h0_55, h0_56, h0_57, h0_58, h0_59, h0_60, h0_61, h0_62, h0_63, h0_64, h0_65, h0_66, h0_67, h0_68, h0_69])), (hct, .inl (chct, 80, .inl fhct)), (hs, .inl (chs, 80, .inl fhs)), (ha, .inl (cha, 80, .inl fha)), (hb9, .inl (chb9, 80, .inl fhb9)), (hc9, .inl (chc9, 80, .inl fhc9)), (hbd, .inl (chbd, 12, .inl fhbd)), (hlt, .inl (chlt, 144, .inl fhlt)), (hrk, .inl (chrk, 12, .inl fhrk)), (hfi, .inl (chfi, 12, .inl fhfi)), (hla, .inl (chla, 12, .inl fhla)), (a_rg, .inl (ca_rg, 144, .inl fa_rg)), (a_td, .inl (ca_td, 4, .inl fa_td))] s.heap.size = A at hD ⊢
  have hA : ∀ q : Nat, s.heap.size ≤ q → A q := fun q h => by rw [← hAe]; exact Or.inr h
  have hS : va_S A s.heap s.heap [] := va_S.rf
  have hP : va_P (dC, dI) vwCl [(h0, .inr (12, [h0_0, h0_1, .int mx, .int ml, .int mn, .ref hs, .ref ha, .ref hb9, .ref hc9, .ref hct, h0_10, .ref hbd, .ref hlt, .ref hrk, .ref hfi, .ref hla, .int mq, h0_17, h0_18, h0_19, h0_20, h0_21, h0_22, h0_23, h0_24, h0_25, h0_26, h0_27, h0_28, h0_29, h0_30, h0_31, h0_32, h0_33, h0_34, h0_35, .ref a_rg, .ref a_td, h0_38, h0_39, h0_40, h0_41, h0_42, h0_43, h0_44, h0_45, h0_46, h0_47, h0_48, h0_49, h0_50, h0_51, h0_52, h0_53, h0_54, h0_55, h0_56, h0_57, h0_58, h0_59, h0_60, h0_61, h0_62, h0_63, h0_64, h0_65, h0_66, h0_67, h0_68, h0_69])), (hct, .inl (chct, 80, .inl fhct)), (hs, .inl (chs, 80, .inl fhs)), (ha, .inl (cha, 80, .inl fha)), (hb9, .inl (chb9, 80, .inl fhb9)), (hc9, .inl (chc9, 80, .inl fhc9)), (hbd, .inl (chbd, 12, .inl fhbd)), (hlt, .inl (chlt, 144, .inl fhlt)), (hrk, .inl (chrk, 12, .inl fhrk)), (hfi, .inl (chfi, 12, .inl fhfi)), (hla, .inl (chla, 12, .inl fhla)), (a_rg, .inl (ca_rg, 144, .inl fa_rg)), (a_td, .inl (ca_td, 4, .inl fa_td))] s.heap := hP
  have w__fieldLink_RX12_145_ShellHeapModel_thrown_I_ := hts (.fieldLink RX12 145 "ShellHeapModel" "thrown" "I") (z_mc (z_ml z_m0))
  have hiX12 := show ∀ w ∈ u_ws RX12 TX12 70, w ∈ u_s_X12_readings from fun w h => z_mc (z_mr (z_ml h))
  have w__fieldLink_RX12_154_ShellHeapModel_notes_I_ := hts (.fieldLink RX12 154 "ShellHeapModel" "notes" "I") (z_mc (z_ml z_m9))
  have w__fieldLink_RX12_32_ShellHeapModel_bedOf_I_ := hts (.fieldLink RX12 32 "ShellHeapModel" "bedOf" "[I") (z_mc (z_ml z_m13))
  have w__fieldLink_RX12_81_ShellHeapModel_readings_I_ := hts (.fieldLink RX12 81 "ShellHeapModel" "readings" "[I") (z_mc (z_ml z_m17))
  have krr_p1 := z_rng p1
  have krr_p2 := z_rng p2
  have krr_p3 := z_rng p3
  have krr_p4 := z_rng p4
  have krr_p5 := z_rng p5
  have krr_p6 := z_rng p6
  have hl := lv_entry ([.ref h0, .int p1, .int p2, .int p3, .int p4, .int p5, .int p6]) (n := 9) (Nat.le_of_ble_eq_true rfl)
  rw [lg_entry_eq]
  generalize (lg_sl ([.ref h0, .int p1, .int p2, .int p3, .int p4, .int p5, .int p6]) ++ List.replicate (9 - (lg_sl ([.ref h0, .int p1, .int p2, .int p3, .int p4, .int p5, .int p6])).length) Slot.unset).toArray = ls at hl ⊢
  have hl : lv_has ls 9 [(0, .ref h0), (1, .int p1), (2, .int p2), (3, .int p3), (4, .int p4), (5, .int p5), (6, .int p6)] := hl
  refine lv_aload_n hx hb dX12_readings_0 rfl (lv_at hl 0 rfl) ?_
  refine lv_iconst (v := 0) hx hb dX12_readings_1 (by decide) ?_
  refine va_put (D := (dC, dI)) (ci := 12) (v := .int 0) (ty := .int) (C := RX12) (T := TX12) (N := 70) hx hb hts hiX12 tyX12 tyX12_ok nmX12 hown hK hP hD hS 0 rfl rfl 2 (by decide) w__fieldLink_RX12_145_ShellHeapModel_thrown_I_ (fun _ h9 => h9) rfl (by decide +kernel) rfl rfl (Nat.le_of_ble_eq_true rfl) dX12_readings_2 (fun H_1 locs hP hD hS => ?_)
  obtain ⟨hP, hD⟩ := z_s_0_2 hP hD
  refine lv_aload_n hx hb dX12_readings_5 rfl (lv_at hl 0 rfl) ?_
  refine lv_iload_n hx hb dX12_readings_6 rfl (lv_at hl 1 rfl) ?_
  obtain ⟨hPc, hDc⟩ := z_sub2 (ws' := [(h0, .inr (12, [h0_0, h0_1, .int 0, .int ml, .int mn, .ref hs, .ref ha, .ref hb9, .ref hc9, .ref hct, h0_10, .ref hbd, .ref hlt, .ref hrk, .ref hfi, .ref hla, .int mq, h0_17, h0_18, h0_19, h0_20, h0_21, h0_22, h0_23, h0_24, h0_25, h0_26, h0_27, h0_28, h0_29, h0_30, h0_31, h0_32, h0_33, h0_34, h0_35, .ref a_rg, .ref a_td, h0_38, h0_39, h0_40, h0_41, h0_42, h0_43, h0_44, h0_45, h0_46, h0_47, h0_48, h0_49, h0_50, h0_51, h0_52, h0_53, h0_54, h0_55, h0_56, h0_57, h0_58, h0_59, h0_60, h0_61, h0_62, h0_63, h0_64, h0_65, h0_66, h0_67, h0_68, h0_69]))]) hP hD [0] (by decide) rfl
  have hKc := hK.sub (tys' := []) [] rfl
  have hFc := va_free (ws := []) (wc := []) (z_D0 _) hS hA [] rfl
  refine va_calli (va_runV (As := [.int p1]) (rest := []) ⟨hx, hb, hml, hown, hts⟩ (s_X12_isLayer l dC dI H_1.size h0 p1 h0_0 h0_1 (.int 0) ml (.int mn) (.ref hs) (.ref ha) (.ref hb9) (.ref hc9) (.ref hct) h0_10 (.ref hbd) (.ref hlt) (.ref hrk) (.ref hfi) (.ref hla) (.int mq) h0_17 h0_18 h0_19 h0_20 h0_21 h0_22 h0_23 h0_24 h0_25 h0_26 h0_27 h0_28 h0_29 h0_30 h0_31 h0_32 h0_33 h0_34 h0_35 (.ref a_rg) (.ref a_td) h0_38 h0_39 h0_40 h0_41 h0_42 h0_43 h0_44 h0_45 h0_46 h0_47 h0_48 h0_49 h0_50 h0_51 h0_52 h0_53 h0_54 h0_55 h0_56 h0_57 h0_58 h0_59 h0_60 h0_61 h0_62 h0_63 h0_64 h0_65 h0_66 h0_67 h0_68 h0_69 hB_ml) (cwV 1 hts gw_s_X12_readings_s_X12_isLayer_157 rfl rfl rfl (by decide +kernel) ⟨Nat.le_of_ble_eq_true rfl, Nat.le_of_ble_eq_true rfl⟩) ⟨z_blind, va_recv hKc hPc (ci := 12) (q0 := 0) rfl rfl, z_pre hPc hKc hDc⟩ rfl rfl hl.1 rfl (lv_room (Nat.le_of_ble_eq_true rfl)) dX12_readings_7 ⟨Nat.le_of_ble_eq_true rfl, Nat.le_of_ble_eq_true rfl⟩) hS (fun q _ h => hFc q h) hFc (fun r_3 u t H_2 locs ht hvm hw_4 hB hz1 hk1 hS => ?_)
  replace hP := z_pure hP hk1
  clear hPc hDc hKc
  rcases hw_4 with ⟨rfl, hw_4⟩ | ⟨rfl, hw_4⟩
  · have hw_4 : (0 ≤ p1.toInt ∧ p1.toInt < ml.toInt) := hw_4
    refine lv_if_eq (tgt := 64) hx hb dX12_readings_10 (by decide) (fun c_5 => absurd c_5 (by decide)) (fun _ => ?_)
    refine lv_iload_n hx hb dX12_readings_13 rfl (lv_at hl 2 rfl) ?_
    obtain ⟨hPc, hDc⟩ := z_sub2 (ws' := []) hP hD [] (by decide) rfl
    have hKc := hK.sub (tys' := []) [] rfl
    have hFc := va_free (ws := []) (wc := []) (z_D0 _) hS hA [] rfl
    refine va_calli (va_runS (As := [.int p2]) (rest := []) ⟨hx, hb, hml, hown, hts⟩ (s_X12_isReader l dC dI H_2.size p2) (va_cwS 1 hts gw_s_X12_readings_s_X12_isReader_288 rfl rfl rfl (by decide +kernel) ⟨Nat.le_of_ble_eq_true rfl, Nat.le_of_ble_eq_true rfl⟩) ⟨z_blind, z_pre hPc hKc hDc⟩ rfl rfl hl.1 rfl (lv_room (Nat.le_of_ble_eq_true rfl)) dX12_readings_14 ⟨Nat.le_of_ble_eq_true rfl, Nat.le_of_ble_eq_true rfl⟩) hS (fun q _ h => hFc q h) hFc (fun r_7 u t H_6 locs ht hvm hw_8 hB hz1 hk1 hS => ?_)
    replace hP := z_pure hP hk1
    clear hPc hDc hKc
    rcases hw_8 with ⟨rfl, hw_8⟩ | ⟨rfl, hw_8⟩
    · have hw_8 : (0 ≤ p2.toInt ∧ p2.toInt < 3) := hw_8
      refine lv_if_eq (tgt := 64) hx hb dX12_readings_17 (by decide) (fun c_9 => absurd c_9 (by decide)) (fun _ => ?_)
      refine lv_iload_n hx hb dX12_readings_20 rfl (lv_at hl 3 rfl) ?_
      obtain ⟨hPc, hDc⟩ := z_sub2 (ws' := []) hP hD [] (by decide) rfl
      have hKc := hK.sub (tys' := []) [] rfl
      have hFc := va_free (ws := []) (wc := []) (z_D0 _) hS hA [] rfl
      refine va_calli (va_runS (As := [.int p3]) (rest := []) ⟨hx, hb, hml, hown, hts⟩ (s_X12_isFew l dC dI H_6.size p3) (va_cwS 1 hts gw_s_X12_readings_s_X12_isFew_291 rfl rfl rfl (by decide +kernel) ⟨Nat.le_of_ble_eq_true rfl, Nat.le_of_ble_eq_true rfl⟩) ⟨z_blind, z_pre hPc hKc hDc⟩ rfl rfl hl.1 rfl (lv_room (Nat.le_of_ble_eq_true rfl)) dX12_readings_21 ⟨Nat.le_of_ble_eq_true rfl, Nat.le_of_ble_eq_true rfl⟩) hS (fun q _ h => hFc q h) hFc (fun r_11 u t H_10 locs ht hvm hw_12 hB hz1 hk1 hS => ?_)
      replace hP := z_pure hP hk1
      clear hPc hDc hKc
      rcases hw_12 with ⟨rfl, hw_12⟩ | ⟨rfl, hw_12⟩
      · have hw_12 : (0 ≤ p3.toInt ∧ p3.toInt ≤ 9) := hw_12
        refine lv_if_eq (tgt := 64) hx hb dX12_readings_24 (by decide) (fun c_13 => absurd c_13 (by decide)) (fun _ => ?_)
        refine lv_iload hx hb dX12_readings_27 (lv_at hl 4 rfl) ?_
        obtain ⟨hPc, hDc⟩ := z_sub2 (ws' := []) hP hD [] (by decide) rfl
        have hKc := hK.sub (tys' := []) [] rfl
        have hFc := va_free (ws := []) (wc := []) (z_D0 _) hS hA [] rfl
        refine va_calli (va_runS (As := [.int p4]) (rest := []) ⟨hx, hb, hml, hown, hts⟩ (s_X12_isFew l dC dI H_10.size p4) (va_cwS 1 hts gw_s_X12_readings_s_X12_isFew_291 rfl rfl rfl (by decide +kernel) ⟨Nat.le_of_ble_eq_true rfl, Nat.le_of_ble_eq_true rfl⟩) ⟨z_blind, z_pre hPc hKc hDc⟩ rfl rfl hl.1 rfl (lv_room (Nat.le_of_ble_eq_true rfl)) dX12_readings_29 ⟨Nat.le_of_ble_eq_true rfl, Nat.le_of_ble_eq_true rfl⟩) hS (fun q _ h => hFc q h) hFc (fun r_15 u t H_14 locs ht hvm hw_16 hB hz1 hk1 hS => ?_)
        replace hP := z_pure hP hk1
        clear hPc hDc hKc
        rcases hw_16 with ⟨rfl, hw_16⟩ | ⟨rfl, hw_16⟩
        · have hw_16 : (0 ≤ p4.toInt ∧ p4.toInt ≤ 9) := hw_16
          refine lv_if_eq (tgt := 64) hx hb dX12_readings_32 (by decide) (fun c_17 => absurd c_17 (by decide)) (fun _ => ?_)
          refine lv_iload hx hb dX12_readings_35 (lv_at hl 5 rfl) ?_
          obtain ⟨hPc, hDc⟩ := z_sub2 (ws' := []) hP hD [] (by decide) rfl
          have hKc := hK.sub (tys' := []) [] rfl
          have hFc := va_free (ws := []) (wc := []) (z_D0 _) hS hA [] rfl
          refine va_calli (va_runS (As := [.int p5]) (rest := []) ⟨hx, hb, hml, hown, hts⟩ (s_X12_isFew l dC dI H_14.size p5) (va_cwS 1 hts gw_s_X12_readings_s_X12_isFew_291 rfl rfl rfl (by decide +kernel) ⟨Nat.le_of_ble_eq_true rfl, Nat.le_of_ble_eq_true rfl⟩) ⟨z_blind, z_pre hPc hKc hDc⟩ rfl rfl hl.1 rfl (lv_room (Nat.le_of_ble_eq_true rfl)) dX12_readings_37 ⟨Nat.le_of_ble_eq_true rfl, Nat.le_of_ble_eq_true rfl⟩) hS (fun q _ h => hFc q h) hFc (fun r_19 u t H_18 locs ht hvm hw_20 hB hz1 hk1 hS => ?_)
          replace hP := z_pure hP hk1
          clear hPc hDc hKc
          rcases hw_20 with ⟨rfl, hw_20⟩ | ⟨rfl, hw_20⟩
          · have hw_20 : (0 ≤ p5.toInt ∧ p5.toInt ≤ 9) := hw_20
            refine lv_if_eq (tgt := 64) hx hb dX12_readings_40 (by decide) (fun c_21 => absurd c_21 (by decide)) (fun _ => ?_)
            refine lv_iload hx hb dX12_readings_43 (lv_at hl 6 rfl) ?_
            obtain ⟨hPc, hDc⟩ := z_sub2 (ws' := []) hP hD [] (by decide) rfl
            have hKc := hK.sub (tys' := []) [] rfl
            have hFc := va_free (ws := []) (wc := []) (z_D0 _) hS hA [] rfl
            refine va_calli (va_runS (As := [.int p6]) (rest := []) ⟨hx, hb, hml, hown, hts⟩ (s_X12_isFew l dC dI H_18.size p6) (va_cwS 1 hts gw_s_X12_readings_s_X12_isFew_291 rfl rfl rfl (by decide +kernel) ⟨Nat.le_of_ble_eq_true rfl, Nat.le_of_ble_eq_true rfl⟩) ⟨z_blind, z_pre hPc hKc hDc⟩ rfl rfl hl.1 rfl (lv_room (Nat.le_of_ble_eq_true rfl)) dX12_readings_45 ⟨Nat.le_of_ble_eq_true rfl, Nat.le_of_ble_eq_true rfl⟩) hS (fun q _ h => hFc q h) hFc (fun r_23 u t H_22 locs ht hvm hw_24 hB hz1 hk1 hS => ?_)
            replace hP := z_pure hP hk1
            clear hPc hDc hKc
            rcases hw_24 with ⟨rfl, hw_24⟩ | ⟨rfl, hw_24⟩
            · have hw_24 : (0 ≤ p6.toInt ∧ p6.toInt ≤ 9) := hw_24
              refine lv_if_eq (tgt := 64) hx hb dX12_readings_48 (by decide) (fun c_25 => absurd c_25 (by decide)) (fun _ => ?_)
              refine lv_iload_n hx hb dX12_readings_51 rfl (lv_at hl 3 rfl) ?_
              refine lv_iload hx hb dX12_readings_52 (lv_at hl 4 rfl) ?_
              refine lv_iadd hx hb dX12_readings_54 ?_
              refine lv_topi (fun z_26 ez_26 => ?_)
              refine lv_iload hx hb dX12_readings_55 (lv_at hl 5 rfl) ?_
              refine lv_iadd hx hb dX12_readings_57 ?_
              refine lv_topi (fun z_27 ez_27 => ?_)
              refine lv_iload hx hb dX12_readings_58 (lv_at hl 6 rfl) ?_
              refine lv_iadd hx hb dX12_readings_60 ?_
              refine lv_topi (fun z_28 ez_28 => ?_)
              refine lv_if_ne (tgt := 66) hx hb dX12_readings_61 (by decide) (fun c_29 => ?_) (fun c_29 => ?_)
              · have k_30 : (z_28).toInt ≠ (0 : Int) := z_ne c_29
                refine lv_aload_n hx hb dX12_readings_66 rfl (lv_at hl 0 rfl) ?_
                refine lv_aload_n hx hb dX12_readings_67 rfl (lv_at hl 0 rfl) ?_
                refine va_get (D := (dC, dI)) (ci := 12) (v := .int mn) (C := RX12) (T := TX12) (N := 70) hx hb hts hiX12 hown hK hP 0 rfl rfl 4 (by decide) w__fieldLink_RX12_154_ShellHeapModel_notes_I_ (fun _ h9 => h9) rfl dX12_readings_68 ?_
                obtain ⟨hPc, hDc, hFc⟩ := z_sub3 (ws' := [(h0, .inr (12, [h0_0, h0_1, .int 0, .int ml, .int mn, .ref hs, .ref ha, .ref hb9, .ref hc9, .ref hct, h0_10, .ref hbd, .ref hlt, .ref hrk, .ref hfi, .ref hla, .int mq, h0_17, h0_18, h0_19, h0_20, h0_21, h0_22, h0_23, h0_24, h0_25, h0_26, h0_27, h0_28, h0_29, h0_30, h0_31, h0_32, h0_33, h0_34, h0_35, .ref a_rg, .ref a_td, h0_38, h0_39, h0_40, h0_41, h0_42, h0_43, h0_44, h0_45, h0_46, h0_47, h0_48, h0_49, h0_50, h0_51, h0_52, h0_53, h0_54, h0_55, h0_56, h0_57, h0_58, h0_59, h0_60, h0_61, h0_62, h0_63, h0_64, h0_65, h0_66, h0_67, h0_68, h0_69])), (hct, .inl (chct, 80, .inl fhct)), (hs, .inl (chs, 80, .inl fhs)), (ha, .inl (cha, 80, .inl fha)), (hb9, .inl (chb9, 80, .inl fhb9)), (hc9, .inl (chc9, 80, .inl fhc9)), (hbd, .inl (chbd, 12, .inl fhbd)), (hlt, .inl (chlt, 144, .inl fhlt)), (hrk, .inl (chrk, 12, .inl fhrk)), (hfi, .inl (chfi, 12, .inl fhfi)), (hla, .inl (chla, 12, .inl fhla))]) hP hD hS hA [0, 1, 2, 3, 4, 5, 6, 7, 8, 9, 10] (by decide) rfl
                have hKc := hK.sub (tys' := [(chct, .boolean), (chs, .int), (cha, .int), (chb9, .int), (chc9, .int), (chbd, .int), (chlt, .boolean), (chrk, .int), (chfi, .int), (chla, .int)]) [0, 1, 2, 3, 4, 5, 6, 7, 8, 9] rfl
                refine va_callv (va_runV (As := [.int mn]) (rest := []) ⟨hx, hb, hml, hown, hts⟩ (s_X12_know l dC dI H_22.size h0 mn h0_0 h0_1 (.int 0) (.int ml) mn hs ha hb9 hc9 hct h0_10 hbd hlt hrk hfi hla mq h0_17 h0_18 h0_19 h0_20 h0_21 h0_22 h0_23 h0_24 h0_25 h0_26 h0_27 h0_28 h0_29 h0_30 h0_31 h0_32 h0_33 h0_34 h0_35 (.ref a_rg) (.ref a_td) h0_38 h0_39 h0_40 h0_41 h0_42 h0_43 h0_44 h0_45 h0_46 h0_47 h0_48 h0_49 h0_50 h0_51 h0_52 h0_53 h0_54 h0_55 h0_56 h0_57 h0_58 h0_59 h0_60 h0_61 h0_62 h0_63 h0_64 h0_65 h0_66 h0_67 h0_68 h0_69 chct fhct chs fhs cha fha chb9 fhb9 chc9 fhc9 chbd fhbd chlt fhlt chrk fhrk chfi fhfi chla fhla hB_mq hB_mn hB_mn hI_ha hI_hbd hR) (cwV 1 hts gw_s_X12_readings_s_X12_know_173 rfl rfl rfl (by decide +kernel) ⟨Nat.le_of_ble_eq_true rfl, Nat.le_of_ble_eq_true rfl⟩) ⟨z_blind, va_recv hKc hPc (ci := 12) (q0 := 0) rfl rfl, z_pre hPc hKc hDc⟩ rfl rfl hl.1 rfl (lv_room (Nat.le_of_ble_eq_true rfl)) dX12_readings_71 ⟨Nat.le_of_ble_eq_true rfl, Nat.le_of_ble_eq_true rfl⟩) hS (fun q _ h => hFc q h) hFc (fun u t H_31 locs ht hvm hw_33 hB hz1 hk1 hS => ?_)
                obtain ⟨n_h0_quarrelNow_34, g_hct_35, g_hbd_36, g_hlt_37, g_hrk_38, g_hfi_39, g_hla_40, hp_41, hp_42, hP1, hK1, hD1⟩ := hB
                rw [ht] at hP1
                have hK1 := va_K.moved hvm.symm hK1
                obtain ⟨hP, hD⟩ := z_ap_2 (va_join (wr := [(a_rg, .inl (ca_rg, 144, .inl fa_rg)), (a_td, .inl (ca_td, 4, .inl fa_td))]) hP hD [0, 1, 2, 3, 4, 5, 6, 7, 8, 9, 10] [11, 12] rfl rfl (by decide) (by decide) hk1 hFc hP1 hD1)
                clear hPc hDc hKc
                refine lv_aload_n hx hb dX12_readings_74 rfl (lv_at hl 0 rfl) ?_
                refine lv_aload_n hx hb dX12_readings_75 rfl (lv_at hl 0 rfl) ?_
                refine va_get (D := (dC, dI)) (ci := 12) (v := .ref hbd) (C := RX12) (T := TX12) (N := 70) hx hb hts hiX12 hown hK hP 2 rfl rfl 11 (by decide) w__fieldLink_RX12_32_ShellHeapModel_bedOf_I_ (fun _ h9 => h9) rfl dX12_readings_76 ?_
                refine lv_iload_n hx hb dX12_readings_79 rfl (lv_at hl 1 rfl) ?_
                refine va_iald hx hb hK hP 8 5 rfl rfl (z_vpin (by omega) (by omega)) dX12_readings_80 ?_
                refine lv_topi (fun z_43 ez_43 => ?_)
                have kz_43 : ((0 : Int) ≤ (z_43).toInt ∧ (z_43).toInt ≤ (11 : Int)) := by rw [ez_43]; exact hp_42 _
                refine lv_iload_n hx hb dX12_readings_81 rfl (lv_at hl 2 rfl) ?_
                obtain ⟨hPc, hDc, hFc⟩ := z_sub3 (ws' := [(h0, .inr (12, [h0_0, h0_1, .int 0, .int ml, .int mn, .ref hs, .ref ha, .ref hb9, .ref hc9, .ref hct, h0_10, .ref hbd, .ref hlt, .ref hrk, .ref hfi, .ref hla, .int n_h0_quarrelNow_34, h0_17, h0_18, h0_19, h0_20, h0_21, h0_22, h0_23, h0_24, h0_25, h0_26, h0_27, h0_28, h0_29, h0_30, h0_31, h0_32, h0_33, h0_34, h0_35, .ref a_rg, .ref a_td, h0_38, h0_39, h0_40, h0_41, h0_42, h0_43, h0_44, h0_45, h0_46, h0_47, h0_48, h0_49, h0_50, h0_51, h0_52, h0_53, h0_54, h0_55, h0_56, h0_57, h0_58, h0_59, h0_60, h0_61, h0_62, h0_63, h0_64, h0_65, h0_66, h0_67, h0_68, h0_69])), (hbd, .inl (chbd, 12, .inl g_hbd_36)), (a_td, .inl (ca_td, 4, .inl fa_td)), (a_rg, .inl (ca_rg, 144, .inl fa_rg))]) hP hD hS hA [2, 8, 1, 0] (by decide) rfl
                have hKc := hK.sub (tys' := [(chbd, .int), (ca_td, .int), (ca_rg, .int)]) [5, 11, 10] rfl
                refine va_calli (va_runV (As := [.int z_43, .int p2]) (rest := []) ⟨hx, hb, hml, hown, hts⟩ (s_X12_gather l dC dI H_31.size h0 z_43 p2 h0_0 h0_1 (.int 0) ml (.int mn) (.ref hs) (.ref ha) (.ref hb9) (.ref hc9) (.ref hct) h0_10 hbd (.ref hlt) (.ref hrk) (.ref hfi) (.ref hla) (.int n_h0_quarrelNow_34) h0_17 h0_18 h0_19 h0_20 h0_21 h0_22 h0_23 h0_24 h0_25 h0_26 h0_27 h0_28 h0_29 h0_30 h0_31 h0_32 h0_33 h0_34 h0_35 a_rg a_td h0_38 h0_39 h0_40 h0_41 h0_42 h0_43 h0_44 h0_45 h0_46 h0_47 h0_48 h0_49 h0_50 h0_51 h0_52 h0_53 h0_54 h0_55 h0_56 h0_57 h0_58 h0_59 h0_60 h0_61 h0_62 h0_63 h0_64 h0_65 h0_66 h0_67 h0_68 h0_69 chbd g_hbd_36 ca_td fa_td ca_rg fa_rg (by first | omega | decide) hB_ml hp_42) (cwV 2 hts gw_s_X12_readings_s_X12_gather_294 rfl rfl rfl (by decide +kernel) ⟨Nat.le_of_ble_eq_true rfl, Nat.le_of_ble_eq_true rfl⟩) ⟨z_blind, va_recv hKc hPc (ci := 12) (q0 := 0) rfl rfl, z_pre hPc hKc hDc⟩ rfl rfl hl.1 rfl (lv_room (Nat.le_of_ble_eq_true rfl)) dX12_readings_82 ⟨Nat.le_of_ble_eq_true rfl, Nat.le_of_ble_eq_true rfl⟩) hS (fun q _ h => hFc q h) hFc (fun r_45 u t H_44 locs ht hvm hw_46 hB hz1 hk1 hS => ?_)
                obtain ⟨g_h2_47, hP1, hK1, hD1⟩ := hB
                rw [ht] at hP1
                have hK1 := va_K.moved hvm.symm hK1
                obtain ⟨hP, hD⟩ := z_ap_9 (va_join (wr := [(hct, .inl (chct, 80, .inl g_hct_35)), (hs, .inl (chs, 80, .inl fhs)), (ha, .inl (cha, 80, .inl fha)), (hb9, .inl (chb9, 80, .inl fhb9)), (hc9, .inl (chc9, 80, .inl fhc9)), (hlt, .inl (chlt, 144, .inl g_hlt_37)), (hrk, .inl (chrk, 12, .inl g_hrk_38)), (hfi, .inl (chfi, 12, .inl g_hfi_39)), (hla, .inl (chla, 12, .inl g_hla_40))]) hP hD [2, 8, 1, 0] [3, 4, 5, 6, 7, 9, 10, 11, 12] rfl rfl (by decide) (by decide) hk1 hFc hP1 hD1)
                clear hPc hDc hKc
                refine lv_iload_n hx hb dX12_readings_85 rfl (lv_at hl 3 rfl) ?_
                refine lv_iadd hx hb dX12_readings_86 ?_
                refine lv_topi (fun z_48 ez_48 => ?_)
                refine lv_iload hx hb dX12_readings_87 (lv_at hl 4 rfl) ?_
                refine lv_iadd hx hb dX12_readings_89 ?_
                refine lv_topi (fun z_49 ez_49 => ?_)
                refine lv_iload hx hb dX12_readings_90 (lv_at hl 5 rfl) ?_
                refine lv_iadd hx hb dX12_readings_92 ?_
                refine lv_topi (fun z_50 ez_50 => ?_)
                refine lv_iload hx hb dX12_readings_93 (lv_at hl 6 rfl) ?_
                refine lv_iadd hx hb dX12_readings_95 ?_
                refine lv_topi (fun z_51 ez_51 => ?_)
                refine lv_istore (lv' := [(7, .int z_51), (0, .ref h0), (1, .int p1), (2, .int p2), (3, .int p3), (4, .int p4), (5, .int p5), (6, .int p6)]) hx hb dX12_readings_96 hl (by decide) rfl (fun ls hl => ?_)
                refine lv_iload hx hb dX12_readings_98 (lv_at hl 0 rfl) ?_
                refine lv_bipush (v := 40) hx hb dX12_readings_100 (by decide) ?_
                refine lv_icmp_le (tgt := 107) hx hb dX12_readings_102 (by decide) (fun c_52 => ?_) (fun c_52 => ?_)
                · have k_53 : (z_51).toInt ≤ (40 : Int) := z_le c_52
                  refine lv_bipush (v := 12) hx hb dX12_readings_107 (by decide) ?_
                  refine lv_iload_n hx hb dX12_readings_109 rfl (lv_at hl 2 rfl) ?_
                  refine lv_imul hx hb dX12_readings_110 ?_
                  refine lv_topi (fun z_54 ez_54 => ?_)
                  have kz_54 : (z_54).toInt = (12 : Int) * (p1).toInt := by rw [ez_54]; exact z_mul (a := (12 : Int)) (b := (p1).toInt) rfl rfl (by omega) (by omega)
                  refine lv_iconst (v := 4) hx hb dX12_readings_111 (by decide) ?_
                  refine lv_iload_n hx hb dX12_readings_112 rfl (lv_at hl 3 rfl) ?_
                  refine lv_imul hx hb dX12_readings_113 ?_
                  refine lv_topi (fun z_55 ez_55 => ?_)
                  have kz_55 : (z_55).toInt = (4 : Int) * (p2).toInt := by rw [ez_55]; exact z_mul (a := (4 : Int)) (b := (p2).toInt) rfl rfl (by omega) (by omega)
                  refine lv_iadd hx hb dX12_readings_114 ?_
                  refine lv_topi (fun z_56 ez_56 => ?_)
                  have kz_56 : (z_56).toInt = (z_54).toInt + (z_55).toInt := by rw [ez_56]; exact z_add (a := (z_54).toInt) (b := (z_55).toInt) rfl rfl (by omega) (by omega)
                  refine lv_istore (lv' := [(8, .int z_56), (7, .int z_51), (0, .ref h0), (1, .int p1), (2, .int p2), (3, .int p3), (4, .int p4), (5, .int p5), (6, .int p6)]) hx hb dX12_readings_115 hl (by decide) rfl (fun ls hl => ?_)
                  refine lv_aload_n hx hb dX12_readings_117 rfl (lv_at hl 2 rfl) ?_
                  refine va_get (D := (dC, dI)) (ci := 12) (v := .ref a_rg) (C := RX12) (T := TX12) (N := 70) hx hb hts hiX12 hown hK hP 9 rfl rfl 36 (by decide) w__fieldLink_RX12_81_ShellHeapModel_readings_I_ (fun _ h9 => h9) rfl dX12_readings_118 ?_
                  refine lv_iload hx hb dX12_readings_121 (lv_at hl 0 rfl) ?_
                  refine lv_dup2_11 hx hb dX12_readings_123 rfl rfl ?_
                  refine va_iald hx hb hK hP 12 10 rfl rfl (z_vpin (by omega) (by omega)) dX12_readings_124 ?_
                  refine lv_topi (fun z_57 ez_57 => ?_)
                  refine lv_iload_n hx hb dX12_readings_125 rfl (lv_at hl 5 rfl) ?_
                  refine lv_iadd hx hb dX12_readings_126 ?_
                  refine lv_topi (fun z_58 ez_58 => ?_)
                  refine va_iast hx hb hK hP hD hS 12 10 rfl rfl (z_vpin (by omega) (by omega)) dX12_readings_127 (fun H_59 locs hP hD hS => ?_)
                  obtain ⟨hP, hD⟩ := z_s_12 hP hD
                  generalize (upd fa_rg (z_56 : Int32).toNatClampNeg z_58) = f_60 at hP hD
                  refine lv_aload_n hx hb dX12_readings_128 rfl (lv_at hl 2 rfl) ?_
                  refine va_get (D := (dC, dI)) (ci := 12) (v := .ref a_rg) (C := RX12) (T := TX12) (N := 70) hx hb hts hiX12 hown hK hP 9 rfl rfl 36 (by decide) w__fieldLink_RX12_81_ShellHeapModel_readings_I_ (fun _ h9 => h9) rfl dX12_readings_129 ?_
                  refine lv_iload hx hb dX12_readings_132 (lv_at hl 0 rfl) ?_
                  refine lv_iconst (v := 1) hx hb dX12_readings_134 (by decide) ?_
                  refine lv_iadd hx hb dX12_readings_135 ?_
                  refine lv_topi (fun z_61 ez_61 => ?_)
                  have kz_61 : (z_61).toInt = (z_56).toInt + (1 : Int) := by rw [ez_61]; exact z_add (a := (z_56).toInt) (b := (1 : Int)) rfl rfl (by omega) (by omega)
                  refine lv_dup2_11 hx hb dX12_readings_136 rfl rfl ?_
                  refine va_iald hx hb hK hP 12 10 rfl rfl (z_vpin (by omega) (by omega)) dX12_readings_137 ?_
                  refine lv_topi (fun z_62 ez_62 => ?_)
                  refine lv_iload hx hb dX12_readings_138 (lv_at hl 6 rfl) ?_
                  refine lv_iadd hx hb dX12_readings_140 ?_
                  refine lv_topi (fun z_63 ez_63 => ?_)
                  refine va_iast hx hb hK hP hD hS 12 10 rfl rfl (z_vpin (by omega) (by omega)) dX12_readings_141 (fun H_64 locs hP hD hS => ?_)
                  obtain ⟨hP, hD⟩ := z_s_12 hP hD
                  generalize (upd f_60 (z_61 : Int32).toNatClampNeg z_63) = f_65 at hP hD
                  refine lv_aload_n hx hb dX12_readings_142 rfl (lv_at hl 2 rfl) ?_
                  refine va_get (D := (dC, dI)) (ci := 12) (v := .ref a_rg) (C := RX12) (T := TX12) (N := 70) hx hb hts hiX12 hown hK hP 9 rfl rfl 36 (by decide) w__fieldLink_RX12_81_ShellHeapModel_readings_I_ (fun _ h9 => h9) rfl dX12_readings_143 ?_
                  refine lv_iload hx hb dX12_readings_146 (lv_at hl 0 rfl) ?_
                  refine lv_iconst (v := 2) hx hb dX12_readings_148 (by decide) ?_
                  refine lv_iadd hx hb dX12_readings_149 ?_
                  refine lv_topi (fun z_66 ez_66 => ?_)
                  have kz_66 : (z_66).toInt = (z_56).toInt + (2 : Int) := by rw [ez_66]; exact z_add (a := (z_56).toInt) (b := (2 : Int)) rfl rfl (by omega) (by omega)
                  refine lv_dup2_11 hx hb dX12_readings_150 rfl rfl ?_
                  refine va_iald hx hb hK hP 12 10 rfl rfl (z_vpin (by omega) (by omega)) dX12_readings_151 ?_
                  refine lv_topi (fun z_67 ez_67 => ?_)
                  refine lv_iload hx hb dX12_readings_152 (lv_at hl 7 rfl) ?_
                  refine lv_iadd hx hb dX12_readings_154 ?_
                  refine lv_topi (fun z_68 ez_68 => ?_)
                  refine va_iast hx hb hK hP hD hS 12 10 rfl rfl (z_vpin (by omega) (by omega)) dX12_readings_155 (fun H_69 locs hP hD hS => ?_)
                  obtain ⟨hP, hD⟩ := z_s_12 hP hD
                  generalize (upd f_65 (z_66 : Int32).toNatClampNeg z_68) = f_70 at hP hD
                  refine lv_aload_n hx hb dX12_readings_156 rfl (lv_at hl 2 rfl) ?_
                  refine va_get (D := (dC, dI)) (ci := 12) (v := .ref a_rg) (C := RX12) (T := TX12) (N := 70) hx hb hts hiX12 hown hK hP 9 rfl rfl 36 (by decide) w__fieldLink_RX12_81_ShellHeapModel_readings_I_ (fun _ h9 => h9) rfl dX12_readings_157 ?_
                  refine lv_iload hx hb dX12_readings_160 (lv_at hl 0 rfl) ?_
                  refine lv_iconst (v := 3) hx hb dX12_readings_162 (by decide) ?_
                  refine lv_iadd hx hb dX12_readings_163 ?_
                  refine lv_topi (fun z_71 ez_71 => ?_)
                  have kz_71 : (z_71).toInt = (z_56).toInt + (3 : Int) := by rw [ez_71]; exact z_add (a := (z_56).toInt) (b := (3 : Int)) rfl rfl (by omega) (by omega)
                  refine lv_dup2_11 hx hb dX12_readings_164 rfl rfl ?_
                  refine va_iald hx hb hK hP 12 10 rfl rfl (z_vpin (by omega) (by omega)) dX12_readings_165 ?_
                  refine lv_topi (fun z_72 ez_72 => ?_)
                  refine lv_iload hx hb dX12_readings_166 (lv_at hl 8 rfl) ?_
                  refine lv_iadd hx hb dX12_readings_168 ?_
                  refine lv_topi (fun z_73 ez_73 => ?_)
                  refine va_iast hx hb hK hP hD hS 12 10 rfl rfl (z_vpin (by omega) (by omega)) dX12_readings_169 (fun H_74 locs hP hD hS => ?_)
                  obtain ⟨hP, hD⟩ := z_s_12 hP hD
                  generalize (upd f_70 (z_71 : Int32).toNatClampNeg z_73) = f_75 at hP hD
                  refine lv_iload hx hb dX12_readings_170 (lv_at hl 1 rfl) ?_
                  obtain ⟨hP9, hD9⟩ := z_sub2 (ws' := [(h0, .inr (12, [h0_0, h0_1, .int 0, .int ml, .int mn, .ref hs, .ref ha, .ref hb9, .ref hc9, .ref hct, h0_10, .ref hbd, .ref hlt, .ref hrk, .ref hfi, .ref hla, .int n_h0_quarrelNow_34, h0_17, h0_18, h0_19, h0_20, h0_21, h0_22, h0_23, h0_24, h0_25, h0_26, h0_27, h0_28, h0_29, h0_30, h0_31, h0_32, h0_33, h0_34, h0_35, .ref a_rg, .ref a_td, h0_38, h0_39, h0_40, h0_41, h0_42, h0_43, h0_44, h0_45, h0_46, h0_47, h0_48, h0_49, h0_50, h0_51, h0_52, h0_53, h0_54, h0_55, h0_56, h0_57, h0_58, h0_59, h0_60, h0_61, h0_62, h0_63, h0_64, h0_65, h0_66, h0_67, h0_68, h0_69])), (hct, .inl (chct, 80, .inl g_hct_35)), (hs, .inl (chs, 80, .inl fhs)), (ha, .inl (cha, 80, .inl fha)), (hb9, .inl (chb9, 80, .inl fhb9)), (hc9, .inl (chc9, 80, .inl fhc9)), (hbd, .inl (chbd, 12, .inl g_hbd_36)), (hlt, .inl (chlt, 144, .inl g_hlt_37)), (hrk, .inl (chrk, 12, .inl g_hrk_38)), (hfi, .inl (chfi, 12, .inl g_hfi_39)), (hla, .inl (chla, 12, .inl g_hla_40)), (a_rg, .inl (ca_rg, 144, .inl f_75)), (a_td, .inl (ca_td, 4, .inl g_h2_47))]) hP hD [9, 0, 1, 2, 3, 4, 10, 5, 6, 7, 8, 12, 11] (by decide) rfl
                  have hK9 := hK.sub (tys' := []) [] rfl
                  refine W.widen (k := 0) (n := 0) (Nat.le_of_ble_eq_true rfl) (Nat.le_of_ble_eq_true rfl) ?_
                  exact W.iret (v := z_51) hx hb hr (fun t ht hW => ⟨⟨z_51, (), rfl, trivial, ⟨0, n_h0_quarrelNow_34, g_hct_35, g_hbd_36, g_hlt_37, g_hrk_38, g_hfi_39, g_hla_40, f_75, g_h2_47, hp_41, hp_42, by rw [ht]; exact hP9, va_K.moved hW.alike hK9, hD9⟩⟩, hS.F ht⟩) hS.2.2 dX12_readings_172
                · have k_76 : (z_51).toInt > (40 : Int) := z_nle c_52
                  refine lv_iconst (v := (-1)) hx hb dX12_readings_105 (by decide) ?_
                  obtain ⟨hP9, hD9⟩ := z_sub2 (ws' := [(h0, .inr (12, [h0_0, h0_1, .int 0, .int ml, .int mn, .ref hs, .ref ha, .ref hb9, .ref hc9, .ref hct, h0_10, .ref hbd, .ref hlt, .ref hrk, .ref hfi, .ref hla, .int n_h0_quarrelNow_34, h0_17, h0_18, h0_19, h0_20, h0_21, h0_22, h0_23, h0_24, h0_25, h0_26, h0_27, h0_28, h0_29, h0_30, h0_31, h0_32, h0_33, h0_34, h0_35, .ref a_rg, .ref a_td, h0_38, h0_39, h0_40, h0_41, h0_42, h0_43, h0_44, h0_45, h0_46, h0_47, h0_48, h0_49, h0_50, h0_51, h0_52, h0_53, h0_54, h0_55, h0_56, h0_57, h0_58, h0_59, h0_60, h0_61, h0_62, h0_63, h0_64, h0_65, h0_66, h0_67, h0_68, h0_69])), (hct, .inl (chct, 80, .inl g_hct_35)), (hs, .inl (chs, 80, .inl fhs)), (ha, .inl (cha, 80, .inl fha)), (hb9, .inl (chb9, 80, .inl fhb9)), (hc9, .inl (chc9, 80, .inl fhc9)), (hbd, .inl (chbd, 12, .inl g_hbd_36)), (hlt, .inl (chlt, 144, .inl g_hlt_37)), (hrk, .inl (chrk, 12, .inl g_hrk_38)), (hfi, .inl (chfi, 12, .inl g_hfi_39)), (hla, .inl (chla, 12, .inl g_hla_40)), (a_rg, .inl (ca_rg, 144, .inl fa_rg)), (a_td, .inl (ca_td, 4, .inl g_h2_47))]) hP hD [9, 0, 1, 2, 3, 4, 10, 5, 6, 7, 8, 12, 11] (by decide) rfl
                  have hK9 := hK.sub (tys' := []) [] rfl
                  refine W.widen (k := 0) (n := 0) (Nat.le_of_ble_eq_true rfl) (Nat.le_of_ble_eq_true rfl) ?_
                  exact W.iret (v := (-1)) hx hb hr (fun t ht hW => ⟨⟨(-1), (), rfl, trivial, ⟨0, n_h0_quarrelNow_34, g_hct_35, g_hbd_36, g_hlt_37, g_hrk_38, g_hfi_39, g_hla_40, fa_rg, g_h2_47, hp_41, hp_42, by rw [ht]; exact hP9, va_K.moved hW.alike hK9, hD9⟩⟩, hS.F ht⟩) hS.2.2 dX12_readings_106
              · have k_77 : (z_28).toInt = (0 : Int) := z_eq c_29
                obtain rfl : z_28 = 0 := z_eq' (show (z_28).toInt = (0 : Int) by omega)
                refine lv_iconst (v := (-1)) hx hb dX12_readings_64 (by decide) ?_
                have hP9 := hP
                have hD9 := hD
                have hK9 := hK.sub (tys' := []) [] rfl
                refine W.widen (k := 0) (n := 0) (Nat.le_of_ble_eq_true rfl) (Nat.le_of_ble_eq_true rfl) ?_
                exact W.iret (v := (-1)) hx hb hr (fun t ht hW => ⟨⟨(-1), (), rfl, trivial, ⟨0, mq, fhct, fhbd, fhlt, fhrk, fhfi, fhla, fa_rg, fa_td, hB_mq, hI_hbd, by rw [ht]; exact hP9, va_K.moved hW.alike hK9, hD9⟩⟩, hS.F ht⟩) hS.2.2 dX12_readings_65
            · have hw_24 : True := hw_24
              refine lv_if_eq (tgt := 64) hx hb dX12_readings_48 (by decide) (fun _ => ?_) (fun c_79 => absurd (by decide) c_79)
              refine lv_iconst (v := (-1)) hx hb dX12_readings_64 (by decide) ?_
              have hP9 := hP
              have hD9 := hD
              have hK9 := hK.sub (tys' := []) [] rfl
              refine W.widen (k := 0) (n := 0) (Nat.le_of_ble_eq_true rfl) (Nat.le_of_ble_eq_true rfl) ?_
              exact W.iret (v := (-1)) hx hb hr (fun t ht hW => ⟨⟨(-1), (), rfl, trivial, ⟨0, mq, fhct, fhbd, fhlt, fhrk, fhfi, fhla, fa_rg, fa_td, hB_mq, hI_hbd, by rw [ht]; exact hP9, va_K.moved hW.alike hK9, hD9⟩⟩, hS.F ht⟩) hS.2.2 dX12_readings_65
          · have hw_20 : True := hw_20
            refine lv_if_eq (tgt := 64) hx hb dX12_readings_40 (by decide) (fun _ => ?_) (fun c_80 => absurd (by decide) c_80)
            refine lv_iconst (v := (-1)) hx hb dX12_readings_64 (by decide) ?_
            have hP9 := hP
            have hD9 := hD
            have hK9 := hK.sub (tys' := []) [] rfl
            refine W.widen (k := 0) (n := 0) (Nat.le_of_ble_eq_true rfl) (Nat.le_of_ble_eq_true rfl) ?_
            exact W.iret (v := (-1)) hx hb hr (fun t ht hW => ⟨⟨(-1), (), rfl, trivial, ⟨0, mq, fhct, fhbd, fhlt, fhrk, fhfi, fhla, fa_rg, fa_td, hB_mq, hI_hbd, by rw [ht]; exact hP9, va_K.moved hW.alike hK9, hD9⟩⟩, hS.F ht⟩) hS.2.2 dX12_readings_65
        · have hw_16 : True := hw_16
          refine lv_if_eq (tgt := 64) hx hb dX12_readings_32 (by decide) (fun _ => ?_) (fun c_81 => absurd (by decide) c_81)
          refine lv_iconst (v := (-1)) hx hb dX12_readings_64 (by decide) ?_
          have hP9 := hP
          have hD9 := hD
          have hK9 := hK.sub (tys' := []) [] rfl
          refine W.widen (k := 0) (n := 0) (Nat.le_of_ble_eq_true rfl) (Nat.le_of_ble_eq_true rfl) ?_
          exact W.iret (v := (-1)) hx hb hr (fun t ht hW => ⟨⟨(-1), (), rfl, trivial, ⟨0, mq, fhct, fhbd, fhlt, fhrk, fhfi, fhla, fa_rg, fa_td, hB_mq, hI_hbd, by rw [ht]; exact hP9, va_K.moved hW.alike hK9, hD9⟩⟩, hS.F ht⟩) hS.2.2 dX12_readings_65
      · have hw_12 : True := hw_12
        refine lv_if_eq (tgt := 64) hx hb dX12_readings_24 (by decide) (fun _ => ?_) (fun c_82 => absurd (by decide) c_82)
        refine lv_iconst (v := (-1)) hx hb dX12_readings_64 (by decide) ?_
        have hP9 := hP
        have hD9 := hD
        have hK9 := hK.sub (tys' := []) [] rfl
        refine W.widen (k := 0) (n := 0) (Nat.le_of_ble_eq_true rfl) (Nat.le_of_ble_eq_true rfl) ?_
        exact W.iret (v := (-1)) hx hb hr (fun t ht hW => ⟨⟨(-1), (), rfl, trivial, ⟨0, mq, fhct, fhbd, fhlt, fhrk, fhfi, fhla, fa_rg, fa_td, hB_mq, hI_hbd, by rw [ht]; exact hP9, va_K.moved hW.alike hK9, hD9⟩⟩, hS.F ht⟩) hS.2.2 dX12_readings_65
    · have hw_8 : True := hw_8
      refine lv_if_eq (tgt := 64) hx hb dX12_readings_17 (by decide) (fun _ => ?_) (fun c_83 => absurd (by decide) c_83)
      refine lv_iconst (v := (-1)) hx hb dX12_readings_64 (by decide) ?_
      have hP9 := hP
      have hD9 := hD
      have hK9 := hK.sub (tys' := []) [] rfl
      refine W.widen (k := 0) (n := 0) (Nat.le_of_ble_eq_true rfl) (Nat.le_of_ble_eq_true rfl) ?_
      exact W.iret (v := (-1)) hx hb hr (fun t ht hW => ⟨⟨(-1), (), rfl, trivial, ⟨0, mq, fhct, fhbd, fhlt, fhrk, fhfi, fhla, fa_rg, fa_td, hB_mq, hI_hbd, by rw [ht]; exact hP9, va_K.moved hW.alike hK9, hD9⟩⟩, hS.F ht⟩) hS.2.2 dX12_readings_65
  · have hw_4 : True := hw_4
    refine lv_if_eq (tgt := 64) hx hb dX12_readings_10 (by decide) (fun _ => ?_) (fun c_84 => absurd (by decide) c_84)
    refine lv_iconst (v := (-1)) hx hb dX12_readings_64 (by decide) ?_
    have hP9 := hP
    have hD9 := hD
    have hK9 := hK.sub (tys' := []) [] rfl
    refine W.widen (k := 0) (n := 0) (Nat.le_of_ble_eq_true rfl) (Nat.le_of_ble_eq_true rfl) ?_
    exact W.iret (v := (-1)) hx hb hr (fun t ht hW => ⟨⟨(-1), (), rfl, trivial, ⟨0, mq, fhct, fhbd, fhlt, fhrk, fhfi, fhla, fa_rg, fa_td, hB_mq, hI_hbd, by rw [ht]; exact hP9, va_K.moved hW.alike hK9, hD9⟩⟩, hS.F ht⟩) hS.2.2 dX12_readings_65
