def u_s_X12_count : List Cond := .code yX12_count cX12_count 4 (some .int) :: ([.fieldLink RX12 145 "ShellHeapModel" "thrown" "I", .methodLink RX12 429 yX12_fails, .instanceMethod yX12_fails, .selects RX12 yX12_fails yX12_fails, .initialized RX12, .fieldLink RX12 154 "ShellHeapModel" "notes" "I", .methodLink RX12 173 yX12_know, .instanceMethod yX12_know, .selects RX12 yX12_know yX12_know, .fieldLink RX12 151 "ShellHeapModel" "layers" "I", .fieldLink RX12 32 "ShellHeapModel" "bedOf" "[I", .fieldLink RX12 181 "ShellHeapModel" "columns" "I", .fieldLink RX12 192 "ShellHeapModel" "kinds" "I", .fieldLink RX12 311 "ShellHeapModel" "shells" "I", .fieldLink RX12 390 "ShellHeapModel" "causes" "I", .fieldLink RX12 393 "ShellHeapModel" "knots" "I"] ++ (wsX120 ++ (u_s_X12_fails ++ (u_s_X12_know ++ []))))
set_option maxRecDepth 20000 in
theorem gw_s_X12_count_s_X12_fails_429 : GoodIn u_s_X12_count (wsV RX12 429 RX12 yX12_fails u_s_X12_fails) := z_gV (z_gr _ [2, 3, 4, 5] rfl (by decide +kernel)) (fun w h => ⟨z_mc (z_mr (z_mr (z_ml h))), gd_s_X12_fails w h⟩)
set_option maxRecDepth 20000 in
theorem gw_s_X12_count_s_X12_know_173 : GoodIn u_s_X12_count (wsV RX12 173 RX12 yX12_know u_s_X12_know) := z_gV (z_gr _ [7, 8, 9, 5] rfl (by decide +kernel)) (fun w h => ⟨z_mc (z_mr (z_mr (z_mr (z_ml h)))), gd_s_X12_know w h⟩)
set_option maxHeartbeats 4000000 in
set_option maxRecDepth 100000 in
theorem s_X12_count (l : Launch) (dC : Nat → ClassId) (dI : Nat → Nat → Nat) (sz : Nat) (h0 : Nat) (p1 : Int32) (h0_0 : Value) (h0_1 : Value) (mx : Int32) (ml : Int32) (mn : Int32) (hs : Nat) (ha : Nat) (hb9 : Nat) (hc9 : Nat) (hct : Nat) (h0_10 : Value) (hbd : Nat) (hlt : Nat) (hrk : Nat) (hfi : Nat) (hla : Nat) (mq : Int32) (h0_17 : Value) (h0_18 : Value) (mc : Int32) (h0_20 : Value) (h0_21 : Value) (h0_22 : Value) (mk : Int32) (h0_24 : Value) (h0_25 : Value) (h0_26 : Value) (h0_27 : Value) (h0_28 : Value) (h0_29 : Value) (h0_30 : Value) (h0_31 : Value) (h0_32 : Value) (h0_33 : Value) (h0_34 : Value) (h0_35 : Value) (h0_36 : Value) (h0_37 : Value) (h0_38 : Value) (h0_39 : Value) (ms : Int32) (h0_41 : Value) (h0_42 : Value) (h0_43 : Value) (mca : Int32) (h0_45 : Value) (mkn : Int32) (h0_47 : Value) (h0_48 : Value) (h0_49 : Value) (h0_50 : Value) (h0_51 : Value) (h0_52 : Value) (h0_53 : Value) (h0_54 : Value) (h0_55 : Value) (h0_56 : Value) (h0_57 : Value) (h0_58 : Value) (h0_59 : Value) (h0_60 : Value) (h0_61 : Value) (h0_62 : Value) (h0_63 : Value) (h0_64 : Value) (h0_65 : Value) (h0_66 : Value) (h0_67 : Value) (h0_68 : Value) (h0_69 : Value) (chct : ClassId) (fhct : Nat → Int32) (chs : ClassId) (fhs : Nat → Int32) (cha : ClassId) (fha : Nat → Int32) (chb9 : ClassId) (fhb9 : Nat → Int32) (chc9 : ClassId) (fhc9 : Nat → Int32) (chbd : ClassId) (fhbd : Nat → Int32) (chlt : ClassId) (fhlt : Nat → Int32) (chrk : ClassId) (fhrk : Nat → Int32) (chfi : ClassId) (fhfi : Nat → Int32) (chla : ClassId) (fhla : Nat → Int32) (hB_mn : ((0 : Int) ≤ (mn).toInt ∧ (mn).toInt ≤ (80 : Int))) (hB_ml : ((0 : Int) ≤ (ml).toInt ∧ (ml).toInt ≤ (12 : Int))) (hB_mq : ((0 : Int) ≤ (mq).toInt ∧ (mq).toInt ≤ (2 : Int))) (hB_mc : ((0 : Int) ≤ (mc).toInt ∧ (mc).toInt ≤ (10 : Int))) (hB_mk : ((0 : Int) ≤ (mk).toInt ∧ (mk).toInt ≤ (6 : Int))) (hB_ms : ((0 : Int) ≤ (ms).toInt ∧ (ms).toInt ≤ (200 : Int))) (hI_ha : ∀ j : Nat, ((0 : Int) ≤ (fha j).toInt ∧ (fha j).toInt ≤ (79 : Int))) (hI_hbd : ∀ j : Nat, ((0 : Int) ≤ (fhbd j).toInt ∧ (fhbd j).toInt ≤ (11 : Int))) (hR : ∀ j : Nat, z_relm (fhs j) (fha j) (fhb9 j)) : Met l yX12_count u_s_X12_count ({ frames := 2, cells := 0, slots := 0, locals := 47 }) (va_Pc [.ref h0, .int p1] (z_C (dC, dI) vwCl [(h0, .inr (12, [h0_0, h0_1, .int mx, .int ml, .int mn, .ref hs, .ref ha, .ref hb9, .ref hc9, .ref hct, h0_10, .ref hbd, .ref hlt, .ref hrk, .ref hfi, .ref hla, .int mq, h0_17, h0_18, .int mc, h0_20, h0_21, h0_22, .int mk, h0_24, h0_25, h0_26, h0_27, h0_28, h0_29, h0_30, h0_31, h0_32, h0_33, h0_34, h0_35, h0_36, h0_37, h0_38, h0_39, .int ms, h0_41, h0_42, h0_43, .int mca, h0_45, .int mkn, h0_47, h0_48, h0_49, h0_50, h0_51, h0_52, h0_53, h0_54, h0_55, h0_56, h0_57, h0_58, h0_59, h0_60, h0_61, h0_62, h0_63, h0_64, h0_65, h0_66, h0_67, h0_68, h0_69])), (hct, .inl (chct, 80, .inl fhct)), (hs, .inl (chs, 80, .inl fhs)), (ha, .inl (cha, 80, .inl fha)), (hb9, .inl (chb9, 80, .inl fhb9)), (hc9, .inl (chc9, 80, .inl fhc9)), (hbd, .inl (chbd, 12, .inl fhbd)), (hlt, .inl (chlt, 144, .inl fhlt)), (hrk, .inl (chrk, 12, .inl fhrk)), (hfi, .inl (chfi, 12, .inl fhfi)), (hla, .inl (chla, 12, .inl fhla))] [(chct, .boolean), (chs, .int), (cha, .int), (chb9, .int), (chc9, .int), (chbd, .int), (chlt, .boolean), (chrk, .int), (chfi, .int), (chla, .int)] sz)) (va_Qi (fun (r : Int32) (_ : Unit) => True) (fun (_ : Unit) (t : State) => ∃ (n_h0_thrown : Int32), ∃ (n_h0_quarrelNow : Int32), ∃ (g_hct : Nat → Int32), ∃ (g_hbd : Nat → Int32), ∃ (g_hlt : Nat → Int32), ∃ (g_hrk : Nat → Int32), ∃ (g_hfi : Nat → Int32), ∃ (g_hla : Nat → Int32), ((0 : Int) ≤ (n_h0_quarrelNow).toInt ∧ (n_h0_quarrelNow).toInt ≤ (2 : Int)) ∧ (∀ j : Nat, ((0 : Int) ≤ (g_hbd j).toInt ∧ (g_hbd j).toInt ≤ (11 : Int))) ∧ va_P (dC, dI) vwCl [(h0, .inr (12, [h0_0, h0_1, .int n_h0_thrown, .int ml, .int mn, .ref hs, .ref ha, .ref hb9, .ref hc9, .ref hct, h0_10, .ref hbd, .ref hlt, .ref hrk, .ref hfi, .ref hla, .int n_h0_quarrelNow, h0_17, h0_18, .int mc, h0_20, h0_21, h0_22, .int mk, h0_24, h0_25, h0_26, h0_27, h0_28, h0_29, h0_30, h0_31, h0_32, h0_33, h0_34, h0_35, h0_36, h0_37, h0_38, h0_39, .int ms, h0_41, h0_42, h0_43, .int mca, h0_45, .int mkn, h0_47, h0_48, h0_49, h0_50, h0_51, h0_52, h0_53, h0_54, h0_55, h0_56, h0_57, h0_58, h0_59, h0_60, h0_61, h0_62, h0_63, h0_64, h0_65, h0_66, h0_67, h0_68, h0_69])), (hct, .inl (chct, 80, .inl g_hct)), (hs, .inl (chs, 80, .inl fhs)), (ha, .inl (cha, 80, .inl fha)), (hb9, .inl (chb9, 80, .inl fhb9)), (hc9, .inl (chc9, 80, .inl fhc9)), (hbd, .inl (chbd, 12, .inl g_hbd)), (hlt, .inl (chlt, 144, .inl g_hlt)), (hrk, .inl (chrk, 12, .inl g_hrk)), (hfi, .inl (chfi, 12, .inl g_hfi)), (hla, .inl (chla, 12, .inl g_hla))] t.heap ∧ va_K (dC, dI) vwCl [] t ∧ va_D (va_A [(h0, .inr (12, [h0_0, h0_1, .int mx, .int ml, .int mn, .ref hs, .ref ha, .ref hb9, .ref hc9, .ref hct, h0_10, .ref hbd, .ref hlt, .ref hrk, .ref hfi, .ref hla, .int mq, h0_17, h0_18, .int mc, h0_20, h0_21, h0_22, .int mk, h0_24, h0_25, h0_26, h0_27, h0_28, h0_29, h0_30, h0_31, h0_32, h0_33, h0_34, h0_35, h0_36, h0_37, h0_38, h0_39, .int ms, h0_41, h0_42, h0_43, .int mca, h0_45, .int mkn, h0_47, h0_48, h0_49, h0_50, h0_51, h0_52, h0_53, h0_54, h0_55, h0_56, h0_57, h0_58, h0_59, h0_60, h0_61, h0_62, h0_63, h0_64, h0_65, h0_66, h0_67, h0_68, h0_69])), (hct, .inl (chct, 80, .inl fhct)), (hs, .inl (chs, 80, .inl fhs)), (ha, .inl (cha, 80, .inl fha)), (hb9, .inl (chb9, 80, .inl fhb9)), (hc9, .inl (chc9, 80, .inl fhc9)), (hbd, .inl (chbd, 12, .inl fhbd)), (hlt, .inl (chlt, 144, .inl fhlt)), (hrk, .inl (chrk, 12, .inl fhrk)), (hfi, .inl (chfi, 12, .inl fhfi)), (hla, .inl (chla, 12, .inl fhla))] sz) [(h0, .inr (12, [h0_0, h0_1, .int n_h0_thrown, .int ml, .int mn, .ref hs, .ref ha, .ref hb9, .ref hc9, .ref hct, h0_10, .ref hbd, .ref hlt, .ref hrk, .ref hfi, .ref hla, .int n_h0_quarrelNow, h0_17, h0_18, .int mc, h0_20, h0_21, h0_22, .int mk, h0_24, h0_25, h0_26, h0_27, h0_28, h0_29, h0_30, h0_31, h0_32, h0_33, h0_34, h0_35, h0_36, h0_37, h0_38, h0_39, .int ms, h0_41, h0_42, h0_43, .int mca, h0_45, .int mkn, h0_47, h0_48, h0_49, h0_50, h0_51, h0_52, h0_53, h0_54, h0_55, h0_56, h0_57, h0_58, h0_59, h0_60, h0_61, h0_62, h0_63, h0_64, h0_65, h0_66, h0_67, h0_68, h0_69])), (hct, .inl (chct, 80, .inl g_hct)), (hs, .inl (chs, 80, .inl fhs)), (ha, .inl (cha, 80, .inl fha)), (hb9, .inl (chb9, 80, .inl fhb9)), (hc9, .inl (chc9, 80, .inl fhc9)), (hbd, .inl (chbd, 12, .inl g_hbd)), (hlt, .inl (chlt, 144, .inl g_hlt)), (hrk, .inl (chrk, 12, .inl g_hrk)), (hfi, .inl (chfi, 12, .inl g_hfi)), (hla, .inl (chla, 12, .inl g_hla))]) (va_A [(h0, .inr (12, [h0_0, h0_1, .int mx, .int ml, .int mn, .ref hs, .ref ha, .ref hb9, .ref hc9, .ref hct, h0_10, .ref hbd, .ref hlt, .ref hrk, .ref hfi, .ref hla, .int mq, h0_17, h0_18, .int mc, h0_20, h0_21, h0_22, .int mk, h0_24, h0_25, h0_26, h0_27, h0_28, h0_29, h0_30, h0_31, h0_32, h0_33, h0_34, h0_35, h0_36, h0_37, h0_38, h0_39, .int ms, h0_41, h0_42, h0_43, .int mca, h0_45, .int mkn, h0_47, h0_48, h0_49, h0_50, h0_51, h0_52, h0_53, h0_54, h0_55, h0_56, h0_57, h0_58, h0_59, h0_60, h0_61, h0_62, h0_63, h0_64, h0_65, h0_66, h0_67, h0_68, h0_69])), (hct, .inl (chct, 80, .inl fhct)), (hs, .inl (chs, 80, .inl fhs)), (ha, .inl (cha, 80, .inl fha)), (hb9, .inl (chb9, 80, .inl fhb9)), (hc9, .inl (chc9, 80, .inl fhc9)), (hbd, .inl (chbd, 12, .inl fhbd)), (hlt, .inl (chlt, 144, .inl fhlt)), (hrk, .inl (chrk, 12, .inl fhrk)), (hfi, .inl (chfi, 12, .inl fhfi)), (hla, .inl (chla, 12, .inl fhla))] sz)) 0 0 (va_A [(h0, .inr (12, [h0_0, h0_1, .int mx, .int ml, .int mn, .ref hs, .ref ha, .ref hb9, .ref hc9, .ref hct, h0_10, .ref hbd, .ref hlt, .ref hrk, .ref hfi, .ref hla, .int mq, h0_17, h0_18, .int mc, h0_20, h0_21, h0_22, .int mk, h0_24, h0_25, h0_26, h0_27, h0_28, h0_29, h0_30, h0_31, h0_32, h0_33, h0_34, h0_35, h0_36, h0_37, h0_38, h0_39, .int ms, h0_41, h0_42, h0_43, .int mca, h0_45, .int mkn, h0_47, h0_48, h0_49, h0_50, h0_51, h0_52, h0_53, h0_54, h0_55, h0_56, h0_57, h0_58, h0_59, h0_60, h0_61, h0_62, h0_63, h0_64, h0_65, h0_66, h0_67, h0_68, h0_69])), (hct, .inl (chct, 80, .inl fhct)), (hs, .inl (chs, 80, .inl fhs)), (ha, .inl (cha, 80, .inl fha)), (hb9, .inl (chb9, 80, .inl fhb9)), (hc9, .inl (chc9, 80, .inl fhc9)), (hbd, .inl (chbd, 12, .inl fhbd)), (hlt, .inl (chlt, 144, .inl fhlt)), (hrk, .inl (chrk, 12, .inl fhrk)), (hfi, .inl (chfi, 12, .inl fhfi)), (hla, .inl (chla, 12, .inl fhla))] sz) := by
  refine Met.ofW (cc := cX12_count) (maxL := 4) (ret := (some .int)) (by decide) rfl ?_
  intro p e s m args below meth c s₁ B hml hv
  obtain ⟨rfl, hsz, hP, hK, hD0⟩ := hv
  have hx := B.exec
  have hb := B.bytes
  have hr := B.returns
  have hts := atoms_spec (ws := u_s_X12_count) B.pre
  have hown : s.vm.findClass RX12 = some m.cls := findClass_of_methodNamed B.named
  have hlocks := B.notSynchronized
  subst hsz
  have hD := hD0.self (sz := s.heap.size)
  generalize hAe : va_A [(h0, .inr (12, [h0_0, h0_1, .int mx, .int ml, .int mn, .ref hs, .ref ha, .ref hb9, .ref hc9, .ref hct, h0_10, .ref hbd, .ref hlt, .ref hrk, .ref hfi, .ref hla, .int mq, h0_17, h0_18, .int mc, h0_20, h0_21, h0_22, .int mk, h0_24, h0_25, h0_26, h0_27, h0_28, h0_29, h0_30, h0_31, h0_32, h0_33, h0_34, h0_35, h0_36, h0_37, h0_38, h0_39, .int ms, h0_41, h0_42, h0_43, .int mca, h0_45, .int mkn, h0_47, h0_48, h0_49, h0_50, h0_51, h0_52, h0_53, h0_54, h0_55, h0_56, h0_57, h0_58, h0_59, h0_60, h0_61, h0_62, h0_63, h0_64, h0_65, h0_66, h0_67, h0_68, h0_69])), (hct, .inl (chct, 80, .inl fhct)), (hs, .inl (chs, 80, .inl fhs)), (ha, .inl (cha, 80, .inl fha)), (hb9, .inl (chb9, 80, .inl fhb9)), (hc9, .inl (chc9, 80, .inl fhc9)), (hbd, .inl (chbd, 12, .inl fhbd)), (hlt, .inl (chlt, 144, .inl fhlt)), (hrk, .inl (chrk, 12, .inl fhrk)), (hfi, .inl (chfi, 12, .inl fhfi)), (hla, .inl (chla, 12, .inl fhla))] s.heap.size = A at hD ⊢
  have hA : ∀ q : Nat, s.heap.size ≤ q → A q := fun q h => by rw [← hAe]; exact Or.inr h
  have hS : va_S A s.heap s.heap [] := va_S.rf
  have hP : va_P (dC, dI) vwCl [(h0, .inr (12, [h0_0, h0_1, .int mx, .int ml, .int mn, .ref hs, .ref ha, .ref hb9, .ref hc9, .ref hct, h0_10, .ref hbd, .ref hlt, .ref hrk, .ref hfi, .ref hla, .int mq, h0_17, h0_18, .int mc, h0_20, h0_21, h0_22, .int mk, h0_24, h0_25, h0_26, h0_27, h0_28, h0_29, h0_30, h0_31, h0_32, h0_33, h0_34, h0_35, h0_36, h0_37, h0_38, h0_39, .int ms, h0_41, h0_42, h0_43, .int mca, h0_45, .int mkn, h0_47, h0_48, h0_49, h0_50, h0_51, h0_52, h0_53, h0_54, h0_55, h0_56, h0_57, h0_58, h0_59, h0_60, h0_61, h0_62, h0_63, h0_64, h0_65, h0_66, h0_67, h0_68, h0_69])), (hct, .inl (chct, 80, .inl fhct)), (hs, .inl (chs, 80, .inl fhs)), (ha, .inl (cha, 80, .inl fha)), (hb9, .inl (chb9, 80, .inl fhb9)), (hc9, .inl (chc9, 80, .inl fhc9)), (hbd, .inl (chbd, 12, .inl fhbd)), (hlt, .inl (chlt, 144, .inl fhlt)), (hrk, .inl (chrk, 12, .inl fhrk)), (hfi, .inl (chfi, 12, .inl fhfi)), (hla, .inl (chla, 12, .inl fhla))] s.heap := hP
  have w__fieldLink_RX12_145_ShellHeapModel_thrown_I_ := hts (.fieldLink RX12 145 "ShellHeapModel" "thrown" "I") (z_mc (z_ml z_m0))
  have hiX12 := show ∀ w ∈ u_ws RX12 TX12 70, w ∈ u_s_X12_count from fun w h => z_mc (z_mr (z_ml h))
  have w__fieldLink_RX12_154_ShellHeapModel_notes_I_ := hts (.fieldLink RX12 154 "ShellHeapModel" "notes" "I") (z_mc (z_ml z_m5))
  have w__fieldLink_RX12_151_ShellHeapModel_layers_I_ := hts (.fieldLink RX12 151 "ShellHeapModel" "layers" "I") (z_mc (z_ml z_m9))
  have w__fieldLink_RX12_32_ShellHeapModel_bedOf_I_ := hts (.fieldLink RX12 32 "ShellHeapModel" "bedOf" "[I") (z_mc (z_ml z_m10))
  have w__fieldLink_RX12_181_ShellHeapModel_columns_I_ := hts (.fieldLink RX12 181 "ShellHeapModel" "columns" "I") (z_mc (z_ml z_m11))
  have w__fieldLink_RX12_192_ShellHeapModel_kinds_I_ := hts (.fieldLink RX12 192 "ShellHeapModel" "kinds" "I") (z_mc (z_ml z_m12))
  have w__fieldLink_RX12_311_ShellHeapModel_shells_I_ := hts (.fieldLink RX12 311 "ShellHeapModel" "shells" "I") (z_mc (z_ml z_m13))
  have w__fieldLink_RX12_390_ShellHeapModel_causes_I_ := hts (.fieldLink RX12 390 "ShellHeapModel" "causes" "I") (z_mc (z_ml z_m14))
  have w__fieldLink_RX12_393_ShellHeapModel_knots_I_ := hts (.fieldLink RX12 393 "ShellHeapModel" "knots" "I") (z_mc (z_ml z_m15))
  have krr_p1 := z_rng p1
  have hl := lv_entry ([.ref h0, .int p1]) (n := 4) (Nat.le_of_ble_eq_true rfl)
  rw [lg_entry_eq]
  generalize (lg_sl ([.ref h0, .int p1]) ++ List.replicate (4 - (lg_sl ([.ref h0, .int p1])).length) Slot.unset).toArray = ls at hl ⊢
  have hl : lv_has ls 4 [(0, .ref h0), (1, .int p1)] := hl
  refine z_nameQ (fun QQ hQQ => ?_)
  refine lv_aload_n hx hb dX12_count_0 rfl (lv_at hl 0 rfl) ?_
  refine lv_iconst (v := 0) hx hb dX12_count_1 (by decide) ?_
  refine va_put (D := (dC, dI)) (ci := 12) (v := .int 0) (ty := .int) (C := RX12) (T := TX12) (N := 70) hx hb hts hiX12 tyX12 tyX12_ok nmX12 hown hK hP hD hS 0 rfl rfl 2 (by decide) w__fieldLink_RX12_145_ShellHeapModel_thrown_I_ (fun _ h9 => h9) rfl (by decide +kernel) rfl rfl (Nat.le_of_ble_eq_true rfl) dX12_count_2 (fun H_1 locs hP hD hS => ?_)
  obtain ⟨hP, hD⟩ := z_s_0_2 hP hD
  refine lv_iconst (v := 0) hx hb dX12_count_5 (by decide) ?_
  refine lv_istore_n (lv' := [(2, .int 0), (0, .ref h0), (1, .int p1)]) hx hb dX12_count_6 rfl hl (by decide) rfl (fun ls hl => ?_)
  refine lv_iload_n hx hb dX12_count_7 rfl (lv_at hl 2 rfl) ?_
  rcases z_sw p1 (0) (7) with hsw | hsw
  · refine lv_tableOut (tgt := 135) hx hb dX12_count_8 hsw (by decide) ?_
    refine lv_aload_n hx hb dX12_count_135 rfl (lv_at hl 1 rfl) ?_
    refine lv_iconst (v := 1) hx hb dX12_count_136 (by decide) ?_
    obtain ⟨hPc, hDc, hFc⟩ := z_sub3 (ws' := [(h0, .inr (12, [h0_0, h0_1, .int 0, .int ml, .int mn, .ref hs, .ref ha, .ref hb9, .ref hc9, .ref hct, h0_10, .ref hbd, .ref hlt, .ref hrk, .ref hfi, .ref hla, .int mq, h0_17, h0_18, .int mc, h0_20, h0_21, h0_22, .int mk, h0_24, h0_25, h0_26, h0_27, h0_28, h0_29, h0_30, h0_31, h0_32, h0_33, h0_34, h0_35, h0_36, h0_37, h0_38, h0_39, .int ms, h0_41, h0_42, h0_43, .int mca, h0_45, .int mkn, h0_47, h0_48, h0_49, h0_50, h0_51, h0_52, h0_53, h0_54, h0_55, h0_56, h0_57, h0_58, h0_59, h0_60, h0_61, h0_62, h0_63, h0_64, h0_65, h0_66, h0_67, h0_68, h0_69]))]) hP hD hS hA [0] (by decide) rfl
    have hKc := hK.sub (tys' := []) [] rfl
    refine va_calli (va_runV (As := [.int 1]) (rest := []) ⟨hx, hb, hml, hown, hts⟩ (s_X12_fails l dC dI H_1.size h0 1 h0_0 h0_1 0 (.int ml) (.int mn) (.ref hs) (.ref ha) (.ref hb9) (.ref hc9) (.ref hct) h0_10 (.ref hbd) (.ref hlt) (.ref hrk) (.ref hfi) (.ref hla) (.int mq) h0_17 h0_18 (.int mc) h0_20 h0_21 h0_22 (.int mk) h0_24 h0_25 h0_26 h0_27 h0_28 h0_29 h0_30 h0_31 h0_32 h0_33 h0_34 h0_35 h0_36 h0_37 h0_38 h0_39 (.int ms) h0_41 h0_42 h0_43 (.int mca) h0_45 (.int mkn) h0_47 h0_48 h0_49 h0_50 h0_51 h0_52 h0_53 h0_54 h0_55 h0_56 h0_57 h0_58 h0_59 h0_60 h0_61 h0_62 h0_63 h0_64 h0_65 h0_66 h0_67 h0_68 h0_69) (cwV 1 hts gw_s_X12_count_s_X12_fails_429 rfl rfl rfl (by decide +kernel) ⟨Nat.le_of_ble_eq_true rfl, Nat.le_of_ble_eq_true rfl⟩) ⟨z_blind, va_recv hKc hPc (ci := 12) (q0 := 0) rfl rfl, z_pre hPc hKc hDc⟩ rfl rfl hl.1 rfl (lv_room (Nat.le_of_ble_eq_true rfl)) dX12_count_137 ⟨Nat.le_of_ble_eq_true rfl, Nat.le_of_ble_eq_true rfl⟩) hS (fun q _ h => hFc q h) hFc (fun r_3 u t H_2 locs ht hvm hw_4 hB hz1 hk1 hS => ?_)
    obtain ⟨n_h0_thrown_5, hP1, hK1, hD1⟩ := hB
    rw [ht] at hP1
    have hK1 := va_K.moved hvm.symm hK1
    obtain ⟨hP, hD⟩ := z_ap_10 (va_join (wr := [(hct, .inl (chct, 80, .inl fhct)), (hs, .inl (chs, 80, .inl fhs)), (ha, .inl (cha, 80, .inl fha)), (hb9, .inl (chb9, 80, .inl fhb9)), (hc9, .inl (chc9, 80, .inl fhc9)), (hbd, .inl (chbd, 12, .inl fhbd)), (hlt, .inl (chlt, 144, .inl fhlt)), (hrk, .inl (chrk, 12, .inl fhrk)), (hfi, .inl (chfi, 12, .inl fhfi)), (hla, .inl (chla, 12, .inl fhla))]) hP hD [0] [1, 2, 3, 4, 5, 6, 7, 8, 9, 10] rfl rfl (by decide) (by decide) hk1 hFc hP1 hD1)
    clear hPc hDc hKc
    refine z_backQ hQQ ?_
    obtain ⟨hP9, hD9⟩ := z_sub2 (ws' := [(h0, .inr (12, [h0_0, h0_1, .int n_h0_thrown_5, .int ml, .int mn, .ref hs, .ref ha, .ref hb9, .ref hc9, .ref hct, h0_10, .ref hbd, .ref hlt, .ref hrk, .ref hfi, .ref hla, .int mq, h0_17, h0_18, .int mc, h0_20, h0_21, h0_22, .int mk, h0_24, h0_25, h0_26, h0_27, h0_28, h0_29, h0_30, h0_31, h0_32, h0_33, h0_34, h0_35, h0_36, h0_37, h0_38, h0_39, .int ms, h0_41, h0_42, h0_43, .int mca, h0_45, .int mkn, h0_47, h0_48, h0_49, h0_50, h0_51, h0_52, h0_53, h0_54, h0_55, h0_56, h0_57, h0_58, h0_59, h0_60, h0_61, h0_62, h0_63, h0_64, h0_65, h0_66, h0_67, h0_68, h0_69])), (hct, .inl (chct, 80, .inl fhct)), (hs, .inl (chs, 80, .inl fhs)), (ha, .inl (cha, 80, .inl fha)), (hb9, .inl (chb9, 80, .inl fhb9)), (hc9, .inl (chc9, 80, .inl fhc9)), (hbd, .inl (chbd, 12, .inl fhbd)), (hlt, .inl (chlt, 144, .inl fhlt)), (hrk, .inl (chrk, 12, .inl fhrk)), (hfi, .inl (chfi, 12, .inl fhfi)), (hla, .inl (chla, 12, .inl fhla))]) hP hD [10, 0, 1, 2, 3, 4, 5, 6, 7, 8, 9] (by decide) rfl
    have hK9 := hK.sub (tys' := []) [] rfl
    refine W.widen (k := 0) (n := 0) (Nat.le_of_ble_eq_true rfl) (Nat.le_of_ble_eq_true rfl) ?_
    exact W.iret (v := r_3) hx hb hr (fun t ht hW => ⟨⟨r_3, (), rfl, trivial, ⟨n_h0_thrown_5, mq, fhct, fhbd, fhlt, fhrk, fhfi, fhla, hB_mq, hI_hbd, by rw [ht]; exact hP9, va_K.moved hW.alike hK9, hD9⟩⟩, hS.F ht⟩) hS.2.2 dX12_count_140
  · rcases (show (p1).toInt = (0 : Int) ∨ ¬ (p1).toInt = (0 : Int) from Classical.em _) with he | he
    · obtain rfl : p1 = 0 := z_eq' he
      refine lv_tableIn (tgt := 56) hx hb dX12_count_8 (by decide) (by decide) (off := 48) rfl (by decide) ?_
      refine lv_aload_n hx hb dX12_count_56 rfl (lv_at hl 1 rfl) ?_
      refine lv_aload_n hx hb dX12_count_57 rfl (lv_at hl 1 rfl) ?_
      refine va_get (D := (dC, dI)) (ci := 12) (v := .int mn) (C := RX12) (T := TX12) (N := 70) hx hb hts hiX12 hown hK hP 0 rfl rfl 4 (by decide) w__fieldLink_RX12_154_ShellHeapModel_notes_I_ (fun _ h9 => h9) rfl dX12_count_58 ?_
      have hPc := hP
      have hDc := hD
      have hKc := hK
      have hFc := z_freeI hD hS hA
      refine va_callv (va_runV (As := [.int mn]) (rest := []) ⟨hx, hb, hml, hown, hts⟩ (s_X12_know l dC dI H_1.size h0 mn h0_0 h0_1 (.int 0) (.int ml) mn hs ha hb9 hc9 hct h0_10 hbd hlt hrk hfi hla mq h0_17 h0_18 (.int mc) h0_20 h0_21 h0_22 (.int mk) h0_24 h0_25 h0_26 h0_27 h0_28 h0_29 h0_30 h0_31 h0_32 h0_33 h0_34 h0_35 h0_36 h0_37 h0_38 h0_39 (.int ms) h0_41 h0_42 h0_43 (.int mca) h0_45 (.int mkn) h0_47 h0_48 h0_49 h0_50 h0_51 h0_52 h0_53 h0_54 h0_55 h0_56 h0_57 h0_58 h0_59 h0_60 h0_61 h0_62 h0_63 h0_64 h0_65 h0_66 h0_67 h0_68 h0_69 chct fhct chs fhs cha fha chb9 fhb9 chc9 fhc9 chbd fhbd chlt fhlt chrk fhrk chfi fhfi chla fhla hB_mq hB_mn hB_mn hI_ha hI_hbd hR) (cwV 1 hts gw_s_X12_count_s_X12_know_173 rfl rfl rfl (by decide +kernel) ⟨Nat.le_of_ble_eq_true rfl, Nat.le_of_ble_eq_true rfl⟩) ⟨z_blind, va_recv hKc hPc (ci := 12) (q0 := 0) rfl rfl, z_pre hPc hKc hDc⟩ rfl rfl hl.1 rfl (lv_room (Nat.le_of_ble_eq_true rfl)) dX12_count_61 ⟨Nat.le_of_ble_eq_true rfl, Nat.le_of_ble_eq_true rfl⟩) hS (fun q _ h => hFc q h) hFc (fun u t H_6 locs ht hvm hw_8 hB hz1 hk1 hS => ?_)
      obtain ⟨n_h0_quarrelNow_9, g_hct_10, g_hbd_11, g_hlt_12, g_hrk_13, g_hfi_14, g_hla_15, hp_16, hp_17, hP1, hK1, hD1⟩ := hB
      rw [ht] at hP1
      have hK1 := va_K.moved hvm.symm hK1
      obtain ⟨hP, hD⟩ := z_ap_0 (va_join (wr := []) hP hD [0, 1, 2, 3, 4, 5, 6, 7, 8, 9, 10] [] rfl rfl (by decide) (by decide) hk1 hFc hP1 hD1)
      clear hPc hDc hKc
      refine lv_iconst (v := 0) hx hb dX12_count_64 (by decide) ?_
      refine lv_istore_n (lv' := [(3, .int 0), (2, .int 0), (0, .ref h0), (1, .int 0)]) hx hb dX12_count_65 rfl hl (by decide) rfl (fun ls hl => ?_)
      have loop_18 : ∀ (n_19 : Nat) (i_21 : Int32) (n_22 : Int32) (H : Heap) (locs : List Loc) (ls : Array Slot), (13 - (i_21).toInt).toNat < n_19 → (((0 : Int) ≤ (i_21).toInt ∧ (i_21).toInt ≤ (12 : Int))) → va_P (dC, dI) vwCl [(h0, .inr (12, [h0_0, h0_1, .int 0, .int ml, .int mn, .ref hs, .ref ha, .ref hb9, .ref hc9, .ref hct, h0_10, .ref hbd, .ref hlt, .ref hrk, .ref hfi, .ref hla, .int n_h0_quarrelNow_9, h0_17, h0_18, .int mc, h0_20, h0_21, h0_22, .int mk, h0_24, h0_25, h0_26, h0_27, h0_28, h0_29, h0_30, h0_31, h0_32, h0_33, h0_34, h0_35, h0_36, h0_37, h0_38, h0_39, .int ms, h0_41, h0_42, h0_43, .int mca, h0_45, .int mkn, h0_47, h0_48, h0_49, h0_50, h0_51, h0_52, h0_53, h0_54, h0_55, h0_56, h0_57, h0_58, h0_59, h0_60, h0_61, h0_62, h0_63, h0_64, h0_65, h0_66, h0_67, h0_68, h0_69])), (hct, .inl (chct, 80, .inl g_hct_10)), (hs, .inl (chs, 80, .inl fhs)), (ha, .inl (cha, 80, .inl fha)), (hb9, .inl (chb9, 80, .inl fhb9)), (hc9, .inl (chc9, 80, .inl fhc9)), (hbd, .inl (chbd, 12, .inl g_hbd_11)), (hlt, .inl (chlt, 144, .inl g_hlt_12)), (hrk, .inl (chrk, 12, .inl g_hrk_13)), (hfi, .inl (chfi, 12, .inl g_hfi_14)), (hla, .inl (chla, 12, .inl g_hla_15))] H → va_D A [(h0, .inr (12, [h0_0, h0_1, .int 0, .int ml, .int mn, .ref hs, .ref ha, .ref hb9, .ref hc9, .ref hct, h0_10, .ref hbd, .ref hlt, .ref hrk, .ref hfi, .ref hla, .int n_h0_quarrelNow_9, h0_17, h0_18, .int mc, h0_20, h0_21, h0_22, .int mk, h0_24, h0_25, h0_26, h0_27, h0_28, h0_29, h0_30, h0_31, h0_32, h0_33, h0_34, h0_35, h0_36, h0_37, h0_38, h0_39, .int ms, h0_41, h0_42, h0_43, .int mca, h0_45, .int mkn, h0_47, h0_48, h0_49, h0_50, h0_51, h0_52, h0_53, h0_54, h0_55, h0_56, h0_57, h0_58, h0_59, h0_60, h0_61, h0_62, h0_63, h0_64, h0_65, h0_66, h0_67, h0_68, h0_69])), (hct, .inl (chct, 80, .inl g_hct_10)), (hs, .inl (chs, 80, .inl fhs)), (ha, .inl (cha, 80, .inl fha)), (hb9, .inl (chb9, 80, .inl fhb9)), (hc9, .inl (chc9, 80, .inl fhc9)), (hbd, .inl (chbd, 12, .inl g_hbd_11)), (hlt, .inl (chlt, 144, .inl g_hlt_12)), (hrk, .inl (chrk, 12, .inl g_hrk_13)), (hfi, .inl (chfi, 12, .inl g_hfi_14)), (hla, .inl (chla, 12, .inl g_hla_15))] → va_S A s.heap H locs → lv_has ls 4 [(3, .int i_21), (2, .int n_22), (0, .ref h0), (1, .int 0)] → W p l e ({ frames := 2, cells := 0, slots := 0, locals := 47 } : Room) s m ([.ref h0, .int 0] : List Value).toArray below meth c H locs 0 0 QQ (F0 m 66 ls []) := by
        intro n_19
        induction n_19 with
        | zero => intro i_21 n_22 H locs ls hm; exact absurd hm (Nat.not_lt_zero _)
        | succ n_19 ih_20 =>
          intro i_21 n_22 H locs ls hm hF_23 hP hD hS hl
          refine lv_iload_n hx hb dX12_count_66 rfl (lv_at hl 0 rfl) ?_
          refine lv_aload_n hx hb dX12_count_67 rfl (lv_at hl 2 rfl) ?_
          refine va_get (D := (dC, dI)) (ci := 12) (v := .int ml) (C := RX12) (T := TX12) (N := 70) hx hb hts hiX12 hown hK hP 0 rfl rfl 3 (by decide) w__fieldLink_RX12_151_ShellHeapModel_layers_I_ (fun _ h9 => h9) rfl dX12_count_68 ?_
          refine lv_icmp_ge (tgt := 98) hx hb dX12_count_71 (by decide) (fun c_24 => ?_) (fun c_24 => ?_)
          · have k_25 : (ml).toInt ≤ (i_21).toInt := z_le c_24
            refine lv_iload_n hx hb dX12_count_98 rfl (lv_at hl 1 rfl) ?_
            refine z_backQ hQQ ?_
            have hP9 := hP
            have hD9 := hD
            have hK9 := hK.sub (tys' := []) [] rfl
            refine W.widen (k := 0) (n := 0) (Nat.le_of_ble_eq_true rfl) (Nat.le_of_ble_eq_true rfl) ?_
            exact W.iret (v := n_22) hx hb hr (fun t ht hW => ⟨⟨n_22, (), rfl, trivial, ⟨0, n_h0_quarrelNow_9, g_hct_10, g_hbd_11, g_hlt_12, g_hrk_13, g_hfi_14, g_hla_15, hp_16, hp_17, by rw [ht]; exact hP9, va_K.moved hW.alike hK9, hD9⟩⟩, hS.F ht⟩) hS.2.2 dX12_count_99
          · have k_26 : (ml).toInt > (i_21).toInt := z_nle c_24
            refine lv_iload_n hx hb dX12_count_74 rfl (lv_at hl 1 rfl) ?_
            refine lv_aload_n hx hb dX12_count_75 rfl (lv_at hl 2 rfl) ?_
            refine va_get (D := (dC, dI)) (ci := 12) (v := .ref hbd) (C := RX12) (T := TX12) (N := 70) hx hb hts hiX12 hown hK hP 0 rfl rfl 11 (by decide) w__fieldLink_RX12_32_ShellHeapModel_bedOf_I_ (fun _ h9 => h9) rfl dX12_count_76 ?_
            refine lv_iload_n hx hb dX12_count_79 rfl (lv_at hl 0 rfl) ?_
            refine va_iald hx hb hK hP 6 5 rfl rfl (z_vpin (by omega) (by omega)) dX12_count_80 ?_
            refine lv_topi (fun z_27 ez_27 => ?_)
            have kz_27 : ((0 : Int) ≤ (z_27).toInt ∧ (z_27).toInt ≤ (11 : Int)) := by rw [ez_27]; exact hp_17 _
            refine lv_iload_n hx hb dX12_count_81 rfl (lv_at hl 0 rfl) ?_
            refine lv_icmp_ne (tgt := 89) hx hb dX12_count_82 (by decide) (fun c_28 => ?_) (fun c_28 => ?_)
            · have k_29 : (z_27).toInt ≠ (i_21).toInt := z_ne c_28
              refine lv_iconst (v := 0) hx hb dX12_count_89 (by decide) ?_
              refine lv_iadd hx hb dX12_count_90 ?_
              refine lv_topi (fun z_30 ez_30 => ?_)
              have kr_z_30_n_22 := z_rng n_22
              have kz_30 : (z_30).toInt = (n_22).toInt + (0 : Int) := by rw [ez_30]; exact z_add (a := (n_22).toInt) (b := (0 : Int)) rfl rfl (by omega) (by omega)
              refine lv_istore_n (lv' := [(2, .int z_30), (3, .int i_21), (0, .ref h0), (1, .int 0)]) hx hb dX12_count_91 rfl hl (by decide) rfl (fun ls hl => ?_)
              obtain ⟨z_31, ez_31⟩ : ∃ y : Int32, y = i_21 + 1 := ⟨_, rfl⟩
              have kz_31 : (z_31).toInt = (i_21).toInt + (1 : Int) := by rw [ez_31]; exact z_add (b := 1) rfl rfl (z_al hF_23.1 (by decide)) (z_ah hF_23.2 (by decide))
              refine lv_iinc (v := z_31) (lv' := [(3, .int z_31), (2, .int z_30), (0, .ref h0), (1, .int 0)]) hx hb dX12_count_92 hl (k := 1) rfl (by rw [ez_31]; rfl) (by decide) rfl (fun ls hl => ?_)
              refine lv_goto (tgt := 66) hx hb dX12_count_95 (by decide) ?_
              exact ih_20 z_31 z_30 _ _ _ (show (13 - (z_31).toInt).toNat < n_19 by omega) (show ((0 : Int) ≤ (z_31).toInt ∧ (z_31).toInt ≤ (12 : Int)) by omega) hP hD hS (lv_sub hl [0, 1, 2, 3] rfl)
            · have k_32 : (z_27).toInt = (i_21).toInt := z_eq c_28
              refine lv_iconst (v := 1) hx hb dX12_count_85 (by decide) ?_
              refine lv_goto (tgt := 90) hx hb dX12_count_86 (by decide) ?_
              refine lv_iadd hx hb dX12_count_90 ?_
              refine lv_topi (fun z_33 ez_33 => ?_)
              refine lv_istore_n (lv' := [(2, .int z_33), (3, .int i_21), (0, .ref h0), (1, .int 0)]) hx hb dX12_count_91 rfl hl (by decide) rfl (fun ls hl => ?_)
              obtain ⟨z_34, ez_34⟩ : ∃ y : Int32, y = i_21 + 1 := ⟨_, rfl⟩
              have kz_34 : (z_34).toInt = (i_21).toInt + (1 : Int) := by rw [ez_34]; exact z_add (b := 1) rfl rfl (z_al hF_23.1 (by decide)) (z_ah hF_23.2 (by decide))
              refine lv_iinc (v := z_34) (lv' := [(3, .int z_34), (2, .int z_33), (0, .ref h0), (1, .int 0)]) hx hb dX12_count_92 hl (k := 1) rfl (by rw [ez_34]; rfl) (by decide) rfl (fun ls hl => ?_)
              refine lv_goto (tgt := 66) hx hb dX12_count_95 (by decide) ?_
              exact ih_20 z_34 z_33 _ _ _ (show (13 - (z_34).toInt).toNat < n_19 by omega) (show ((0 : Int) ≤ (z_34).toInt ∧ (z_34).toInt ≤ (12 : Int)) by omega) hP hD hS (lv_sub hl [0, 1, 2, 3] rfl)
      exact loop_18 _ 0 0 _ _ _ (Nat.lt_succ_self _) (show ((0 : Int) ≤ (0 : Int) ∧ (0 : Int) ≤ (12 : Int)) by omega) hP hD hS hl
    · rcases (show (p1).toInt = (1 : Int) ∨ ¬ (p1).toInt = (1 : Int) from Classical.em _) with he | he
      · obtain rfl : p1 = 1 := z_eq' he
        refine lv_tableIn (tgt := 100) hx hb dX12_count_8 (by decide) (by decide) (off := 92) rfl (by decide) ?_
        refine lv_aload_n hx hb dX12_count_100 rfl (lv_at hl 1 rfl) ?_
        refine va_get (D := (dC, dI)) (ci := 12) (v := .int ml) (C := RX12) (T := TX12) (N := 70) hx hb hts hiX12 hown hK hP 0 rfl rfl 3 (by decide) w__fieldLink_RX12_151_ShellHeapModel_layers_I_ (fun _ h9 => h9) rfl dX12_count_101 ?_
        refine z_backQ hQQ ?_
        have hP9 := hP
        have hD9 := hD
        have hK9 := hK.sub (tys' := []) [] rfl
        refine W.widen (k := 0) (n := 0) (Nat.le_of_ble_eq_true rfl) (Nat.le_of_ble_eq_true rfl) ?_
        exact W.iret (v := ml) hx hb hr (fun t ht hW => ⟨⟨ml, (), rfl, trivial, ⟨0, mq, fhct, fhbd, fhlt, fhrk, fhfi, fhla, hB_mq, hI_hbd, by rw [ht]; exact hP9, va_K.moved hW.alike hK9, hD9⟩⟩, hS.F ht⟩) hS.2.2 dX12_count_104
      · rcases (show (p1).toInt = (2 : Int) ∨ ¬ (p1).toInt = (2 : Int) from Classical.em _) with he | he
        · obtain rfl : p1 = 2 := z_eq' he
          refine lv_tableIn (tgt := 105) hx hb dX12_count_8 (by decide) (by decide) (off := 97) rfl (by decide) ?_
          refine lv_aload_n hx hb dX12_count_105 rfl (lv_at hl 1 rfl) ?_
          refine va_get (D := (dC, dI)) (ci := 12) (v := .int mn) (C := RX12) (T := TX12) (N := 70) hx hb hts hiX12 hown hK hP 0 rfl rfl 4 (by decide) w__fieldLink_RX12_154_ShellHeapModel_notes_I_ (fun _ h9 => h9) rfl dX12_count_106 ?_
          refine z_backQ hQQ ?_
          have hP9 := hP
          have hD9 := hD
          have hK9 := hK.sub (tys' := []) [] rfl
          refine W.widen (k := 0) (n := 0) (Nat.le_of_ble_eq_true rfl) (Nat.le_of_ble_eq_true rfl) ?_
          exact W.iret (v := mn) hx hb hr (fun t ht hW => ⟨⟨mn, (), rfl, trivial, ⟨0, mq, fhct, fhbd, fhlt, fhrk, fhfi, fhla, hB_mq, hI_hbd, by rw [ht]; exact hP9, va_K.moved hW.alike hK9, hD9⟩⟩, hS.F ht⟩) hS.2.2 dX12_count_109
        · rcases (show (p1).toInt = (3 : Int) ∨ ¬ (p1).toInt = (3 : Int) from Classical.em _) with he | he
          · obtain rfl : p1 = 3 := z_eq' he
            refine lv_tableIn (tgt := 110) hx hb dX12_count_8 (by decide) (by decide) (off := 102) rfl (by decide) ?_
            refine lv_aload_n hx hb dX12_count_110 rfl (lv_at hl 1 rfl) ?_
            refine va_get (D := (dC, dI)) (ci := 12) (v := .int mc) (C := RX12) (T := TX12) (N := 70) hx hb hts hiX12 hown hK hP 0 rfl rfl 19 (by decide) w__fieldLink_RX12_181_ShellHeapModel_columns_I_ (fun _ h9 => h9) rfl dX12_count_111 ?_
            refine z_backQ hQQ ?_
            have hP9 := hP
            have hD9 := hD
            have hK9 := hK.sub (tys' := []) [] rfl
            refine W.widen (k := 0) (n := 0) (Nat.le_of_ble_eq_true rfl) (Nat.le_of_ble_eq_true rfl) ?_
            exact W.iret (v := mc) hx hb hr (fun t ht hW => ⟨⟨mc, (), rfl, trivial, ⟨0, mq, fhct, fhbd, fhlt, fhrk, fhfi, fhla, hB_mq, hI_hbd, by rw [ht]; exact hP9, va_K.moved hW.alike hK9, hD9⟩⟩, hS.F ht⟩) hS.2.2 dX12_count_114
          · rcases (show (p1).toInt = (4 : Int) ∨ ¬ (p1).toInt = (4 : Int) from Classical.em _) with he | he
            · obtain rfl : p1 = 4 := z_eq' he
              refine lv_tableIn (tgt := 115) hx hb dX12_count_8 (by decide) (by decide) (off := 107) rfl (by decide) ?_
              refine lv_aload_n hx hb dX12_count_115 rfl (lv_at hl 1 rfl) ?_
              refine va_get (D := (dC, dI)) (ci := 12) (v := .int mk) (C := RX12) (T := TX12) (N := 70) hx hb hts hiX12 hown hK hP 0 rfl rfl 23 (by decide) w__fieldLink_RX12_192_ShellHeapModel_kinds_I_ (fun _ h9 => h9) rfl dX12_count_116 ?_
              refine z_backQ hQQ ?_
              have hP9 := hP
              have hD9 := hD
              have hK9 := hK.sub (tys' := []) [] rfl
              refine W.widen (k := 0) (n := 0) (Nat.le_of_ble_eq_true rfl) (Nat.le_of_ble_eq_true rfl) ?_
              exact W.iret (v := mk) hx hb hr (fun t ht hW => ⟨⟨mk, (), rfl, trivial, ⟨0, mq, fhct, fhbd, fhlt, fhrk, fhfi, fhla, hB_mq, hI_hbd, by rw [ht]; exact hP9, va_K.moved hW.alike hK9, hD9⟩⟩, hS.F ht⟩) hS.2.2 dX12_count_119
            · rcases (show (p1).toInt = (5 : Int) ∨ ¬ (p1).toInt = (5 : Int) from Classical.em _) with he | he
              · obtain rfl : p1 = 5 := z_eq' he
                refine lv_tableIn (tgt := 120) hx hb dX12_count_8 (by decide) (by decide) (off := 112) rfl (by decide) ?_
                refine lv_aload_n hx hb dX12_count_120 rfl (lv_at hl 1 rfl) ?_
                refine va_get (D := (dC, dI)) (ci := 12) (v := .int ms) (C := RX12) (T := TX12) (N := 70) hx hb hts hiX12 hown hK hP 0 rfl rfl 40 (by decide) w__fieldLink_RX12_311_ShellHeapModel_shells_I_ (fun _ h9 => h9) rfl dX12_count_121 ?_
                refine z_backQ hQQ ?_
                have hP9 := hP
                have hD9 := hD
                have hK9 := hK.sub (tys' := []) [] rfl
                refine W.widen (k := 0) (n := 0) (Nat.le_of_ble_eq_true rfl) (Nat.le_of_ble_eq_true rfl) ?_
                exact W.iret (v := ms) hx hb hr (fun t ht hW => ⟨⟨ms, (), rfl, trivial, ⟨0, mq, fhct, fhbd, fhlt, fhrk, fhfi, fhla, hB_mq, hI_hbd, by rw [ht]; exact hP9, va_K.moved hW.alike hK9, hD9⟩⟩, hS.F ht⟩) hS.2.2 dX12_count_124
              · rcases (show (p1).toInt = (6 : Int) ∨ ¬ (p1).toInt = (6 : Int) from Classical.em _) with he | he
                · obtain rfl : p1 = 6 := z_eq' he
                  refine lv_tableIn (tgt := 125) hx hb dX12_count_8 (by decide) (by decide) (off := 117) rfl (by decide) ?_
                  refine lv_aload_n hx hb dX12_count_125 rfl (lv_at hl 1 rfl) ?_
                  refine va_get (D := (dC, dI)) (ci := 12) (v := .int mca) (C := RX12) (T := TX12) (N := 70) hx hb hts hiX12 hown hK hP 0 rfl rfl 44 (by decide) w__fieldLink_RX12_390_ShellHeapModel_causes_I_ (fun _ h9 => h9) rfl dX12_count_126 ?_
                  refine z_backQ hQQ ?_
                  have hP9 := hP
                  have hD9 := hD
                  have hK9 := hK.sub (tys' := []) [] rfl
                  refine W.widen (k := 0) (n := 0) (Nat.le_of_ble_eq_true rfl) (Nat.le_of_ble_eq_true rfl) ?_
                  exact W.iret (v := mca) hx hb hr (fun t ht hW => ⟨⟨mca, (), rfl, trivial, ⟨0, mq, fhct, fhbd, fhlt, fhrk, fhfi, fhla, hB_mq, hI_hbd, by rw [ht]; exact hP9, va_K.moved hW.alike hK9, hD9⟩⟩, hS.F ht⟩) hS.2.2 dX12_count_129
                · rcases (show (p1).toInt = (7 : Int) ∨ ¬ (p1).toInt = (7 : Int) from Classical.em _) with he | he
                  · obtain rfl : p1 = 7 := z_eq' he
                    refine lv_tableIn (tgt := 130) hx hb dX12_count_8 (by decide) (by decide) (off := 122) rfl (by decide) ?_
                    refine lv_aload_n hx hb dX12_count_130 rfl (lv_at hl 1 rfl) ?_
                    refine va_get (D := (dC, dI)) (ci := 12) (v := .int mkn) (C := RX12) (T := TX12) (N := 70) hx hb hts hiX12 hown hK hP 0 rfl rfl 46 (by decide) w__fieldLink_RX12_393_ShellHeapModel_knots_I_ (fun _ h9 => h9) rfl dX12_count_131 ?_
                    refine z_backQ hQQ ?_
                    have hP9 := hP
                    have hD9 := hD
                    have hK9 := hK.sub (tys' := []) [] rfl
                    refine W.widen (k := 0) (n := 0) (Nat.le_of_ble_eq_true rfl) (Nat.le_of_ble_eq_true rfl) ?_
                    exact W.iret (v := mkn) hx hb hr (fun t ht hW => ⟨⟨mkn, (), rfl, trivial, ⟨0, mq, fhct, fhbd, fhlt, fhrk, fhfi, fhla, hB_mq, hI_hbd, by rw [ht]; exact hP9, va_K.moved hW.alike hK9, hD9⟩⟩, hS.F ht⟩) hS.2.2 dX12_count_134
                  · exfalso; omega
def u_s_X12_kept2 : List Cond := .code yX12_kept cX12_kept 4 (some .boolean) :: ([.fieldLink RX12 145 "ShellHeapModel" "thrown" "I", .methodLink RX12 195 yX12_isKind, .instanceMethod yX12_isKind, .selects RX12 yX12_isKind yX12_isKind, .initialized RX12, .fieldLink RX12 69 "ShellHeapModel" "keptOf" "[I"] ++ (wsX120 ++ (u_s_X12_isKind ++ [])))
set_option maxRecDepth 20000 in
theorem gw_s_X12_kept2_s_X12_isKind_195 : GoodIn u_s_X12_kept2 (wsV RX12 195 RX12 yX12_isKind u_s_X12_isKind) := z_gV (z_gr _ [2, 3, 4, 5] rfl (by decide +kernel)) (fun w h => ⟨z_mc (z_mr (z_mr (z_ml h))), gd_s_X12_isKind w h⟩)
set_option maxHeartbeats 4000000 in
set_option maxRecDepth 100000 in
theorem s_X12_kept2 (l : Launch) (dC : Nat → ClassId) (dI : Nat → Nat → Nat) (sz : Nat) (h0 : Nat) (p1 : Int32) (p2 : Int32) (p3 : Int32) (h0_0 : Value) (h0_1 : Value) (mx : Int32) (h0_3 : Value) (h0_4 : Value) (h0_5 : Value) (h0_6 : Value) (h0_7 : Value) (h0_8 : Value) (h0_9 : Value) (h0_10 : Value) (h0_11 : Value) (h0_12 : Value) (h0_13 : Value) (h0_14 : Value) (h0_15 : Value) (h0_16 : Value) (h0_17 : Value) (h0_18 : Value) (h0_19 : Value) (h0_20 : Value) (h0_21 : Value) (h0_22 : Value) (mk : Int32) (h0_24 : Value) (h0_25 : Value) (hkp : Nat) (h0_27 : Value) (h0_28 : Value) (h0_29 : Value) (h0_30 : Value) (h0_31 : Value) (h0_32 : Value) (h0_33 : Value) (h0_34 : Value) (h0_35 : Value) (h0_36 : Value) (h0_37 : Value) (h0_38 : Value) (h0_39 : Value) (h0_40 : Value) (h0_41 : Value) (h0_42 : Value) (h0_43 : Value) (h0_44 : Value) (h0_45 : Value) (h0_46 : Value) (h0_47 : Value) (h0_48 : Value) (h0_49 : Value) (h0_50 : Value) (h0_51 : Value) (h0_52 : Value) (h0_53 : Value) (h0_54 : Value) (h0_55 : Value) (h0_56 : Value) (h0_57 : Value) (h0_58 : Value) (h0_59 : Value) (h0_60 : Value) (h0_61 : Value) (h0_62 : Value) (h0_63 : Value) (h0_64 : Value) (h0_65 : Value) (h0_66 : Value) (h0_67 : Value) (h0_68 : Value) (h0_69 : Value) (chkp : ClassId) (fhkp : Nat → Int32) (hB_mk : ((0 : Int) ≤ (mk).toInt ∧ (mk).toInt ≤ (6 : Int))) (hI_hkp : ∀ j : Nat, ((1 : Int) ≤ (fhkp j).toInt ∧ (fhkp j).toInt ≤ (16 : Int))) : Met l yX12_kept u_s_X12_kept2 ({ frames := 1, cells := 0, slots := 0, locals := 21 }) (va_Pc [.ref h0, .int p1, .int p2, .int p3] (z_C (dC, dI) vwCl [(h0, .inr (12, [h0_0, h0_1, .int mx, h0_3, h0_4, h0_5, h0_6, h0_7, h0_8, h0_9, h0_10, h0_11, h0_12, h0_13, h0_14, h0_15, h0_16, h0_17, h0_18, h0_19, h0_20, h0_21, h0_22, .int mk, h0_24, h0_25, .ref hkp, h0_27, h0_28, h0_29, h0_30, h0_31, h0_32, h0_33, h0_34, h0_35, h0_36, h0_37, h0_38, h0_39, h0_40, h0_41, h0_42, h0_43, h0_44, h0_45, h0_46, h0_47, h0_48, h0_49, h0_50, h0_51, h0_52, h0_53, h0_54, h0_55, h0_56, h0_57, h0_58, h0_59, h0_60, h0_61, h0_62, h0_63, h0_64, h0_65, h0_66, h0_67, h0_68, h0_69])), (hkp, .inl (chkp, 24, .inl fhkp))] [(chkp, .int)] sz)) (va_Qi (fun (r : Int32) (_ : Unit) => ((0 : Int) ≤ (r).toInt ∧ (r).toInt ≤ (1 : Int))) (fun (_ : Unit) (t : State) => ∃ (n_h0_thrown : Int32), ∃ (g_hkp : Nat → Int32), (∀ j : Nat, ((1 : Int) ≤ (g_hkp j).toInt ∧ (g_hkp j).toInt ≤ (16 : Int))) ∧ va_P (dC, dI) vwCl [(h0, .inr (12, [h0_0, h0_1, .int n_h0_thrown, h0_3, h0_4, h0_5, h0_6, h0_7, h0_8, h0_9, h0_10, h0_11, h0_12, h0_13, h0_14, h0_15, h0_16, h0_17, h0_18, h0_19, h0_20, h0_21, h0_22, .int mk, h0_24, h0_25, .ref hkp, h0_27, h0_28, h0_29, h0_30, h0_31, h0_32, h0_33, h0_34, h0_35, h0_36, h0_37, h0_38, h0_39, h0_40, h0_41, h0_42, h0_43, h0_44, h0_45, h0_46, h0_47, h0_48, h0_49, h0_50, h0_51, h0_52, h0_53, h0_54, h0_55, h0_56, h0_57, h0_58, h0_59, h0_60, h0_61, h0_62, h0_63, h0_64, h0_65, h0_66, h0_67, h0_68, h0_69])), (hkp, .inl (chkp, 24, .inl g_hkp))] t.heap ∧ va_K (dC, dI) vwCl [] t ∧ va_D (va_A [(h0, .inr (12, [h0_0, h0_1, .int mx, h0_3, h0_4, h0_5, h0_6, h0_7, h0_8, h0_9, h0_10, h0_11, h0_12, h0_13, h0_14, h0_15, h0_16, h0_17, h0_18, h0_19, h0_20, h0_21, h0_22, .int mk, h0_24, h0_25, .ref hkp, h0_27, h0_28, h0_29, h0_30, h0_31, h0_32, h0_33, h0_34, h0_35, h0_36, h0_37, h0_38, h0_39, h0_40, h0_41, h0_42, h0_43, h0_44, h0_45, h0_46, h0_47, h0_48, h0_49, h0_50, h0_51, h0_52, h0_53, h0_54, h0_55, h0_56, h0_57, h0_58, h0_59, h0_60, h0_61, h0_62, h0_63, h0_64, h0_65, h0_66, h0_67, h0_68, h0_69])), (hkp, .inl (chkp, 24, .inl fhkp))] sz) [(h0, .inr (12, [h0_0, h0_1, .int n_h0_thrown, h0_3, h0_4, h0_5, h0_6, h0_7, h0_8, h0_9, h0_10, h0_11, h0_12, h0_13, h0_14, h0_15, h0_16, h0_17, h0_18, h0_19, h0_20, h0_21, h0_22, .int mk, h0_24, h0_25, .ref hkp, h0_27, h0_28, h0_29, h0_30, h0_31, h0_32, h0_33, h0_34, h0_35, h0_36, h0_37, h0_38, h0_39, h0_40, h0_41, h0_42, h0_43, h0_44, h0_45, h0_46, h0_47, h0_48, h0_49, h0_50, h0_51, h0_52, h0_53, h0_54, h0_55, h0_56, h0_57, h0_58, h0_59, h0_60, h0_61, h0_62, h0_63, h0_64, h0_65, h0_66, h0_67, h0_68, h0_69])), (hkp, .inl (chkp, 24, .inl g_hkp))]) (va_A [(h0, .inr (12, [h0_0, h0_1, .int mx, h0_3, h0_4, h0_5, h0_6, h0_7, h0_8, h0_9, h0_10, h0_11, h0_12, h0_13, h0_14, h0_15, h0_16, h0_17, h0_18, h0_19, h0_20, h0_21, h0_22, .int mk, h0_24, h0_25, .ref hkp, h0_27, h0_28, h0_29, h0_30, h0_31, h0_32, h0_33, h0_34, h0_35, h0_36, h0_37, h0_38, h0_39, h0_40, h0_41, h0_42, h0_43, h0_44, h0_45, h0_46, h0_47, h0_48, h0_49, h0_50, h0_51, h0_52, h0_53, h0_54, h0_55, h0_56, h0_57, h0_58, h0_59, h0_60, h0_61, h0_62, h0_63, h0_64, h0_65, h0_66, h0_67, h0_68, h0_69])), (hkp, .inl (chkp, 24, .inl fhkp))] sz)) 0 0 (va_A [(h0, .inr (12, [h0_0, h0_1, .int mx, h0_3, h0_4, h0_5, h0_6, h0_7, h0_8, h0_9, h0_10, h0_11, h0_12, h0_13, h0_14, h0_15, h0_16, h0_17, h0_18, h0_19, h0_20, h0_21, h0_22, .int mk, h0_24, h0_25, .ref hkp, h0_27, h0_28, h0_29, h0_30, h0_31, h0_32, h0_33, h0_34, h0_35, h0_36, h0_37, h0_38, h0_39, h0_40, h0_41, h0_42, h0_43, h0_44, h0_45, h0_46, h0_47, h0_48, h0_49, h0_50, h0_51, h0_52, h0_53, h0_54, h0_55, h0_56, h0_57, h0_58, h0_59, h0_60, h0_61, h0_62, h0_63, h0_64, h0_65, h0_66, h0_67, h0_68, h0_69])), (hkp, .inl (chkp, 24, .inl fhkp))] sz) := by
  refine Met.ofW (cc := cX12_kept) (maxL := 4) (ret := (some .boolean)) (by decide) rfl ?_
  intro p e s m args below meth c s₁ B hml hv
  obtain ⟨rfl, hsz, hP, hK, hD0⟩ := hv
  have hx := B.exec
  have hb := B.bytes
  have hr := B.returns
  have hts := atoms_spec (ws := u_s_X12_kept2) B.pre
  have hown : s.vm.findClass RX12 = some m.cls := findClass_of_methodNamed B.named
  have hlocks := B.notSynchronized
  subst hsz
  have hD := hD0.self (sz := s.heap.size)
  generalize hAe : va_A [(h0, .inr (12, [h0_0, h0_1, .int mx, h0_3, h0_4, h0_5, h0_6, h0_7, h0_8, h0_9, h0_10, h0_11, h0_12, h0_13, h0_14, h0_15, h0_16, h0_17, h0_18, h0_19, h0_20, h0_21, h0_22, .int mk, h0_24, h0_25, .ref hkp, h0_27, h0_28, h0_29, h0_30, h0_31, h0_32, h0_33, h0_34, h0_35, h0_36, h0_37, h0_38, h0_39, h0_40, h0_41, h0_42, h0_43, h0_44, h0_45, h0_46, h0_47, h0_48, h0_49, h0_50, h0_51, h0_52, h0_53, h0_54, h0_55, h0_56, h0_57, h0_58, h0_59, h0_60, h0_61, h0_62, h0_63, h0_64, h0_65, h0_66, h0_67, h0_68, h0_69])), (hkp, .inl (chkp, 24, .inl fhkp))] s.heap.size = A at hD ⊢
  have hA : ∀ q : Nat, s.heap.size ≤ q → A q := fun q h => by rw [← hAe]; exact Or.inr h
  have hS : va_S A s.heap s.heap [] := va_S.rf
  have hP : va_P (dC, dI) vwCl [(h0, .inr (12, [h0_0, h0_1, .int mx, h0_3, h0_4, h0_5, h0_6, h0_7, h0_8, h0_9, h0_10, h0_11, h0_12, h0_13, h0_14, h0_15, h0_16, h0_17, h0_18, h0_19, h0_20, h0_21, h0_22, .int mk, h0_24, h0_25, .ref hkp, h0_27, h0_28, h0_29, h0_30, h0_31, h0_32, h0_33, h0_34, h0_35, h0_36, h0_37, h0_38, h0_39, h0_40, h0_41, h0_42, h0_43, h0_44, h0_45, h0_46, h0_47, h0_48, h0_49, h0_50, h0_51, h0_52, h0_53, h0_54, h0_55, h0_56, h0_57, h0_58, h0_59, h0_60, h0_61, h0_62, h0_63, h0_64, h0_65, h0_66, h0_67, h0_68, h0_69])), (hkp, .inl (chkp, 24, .inl fhkp))] s.heap := hP
  have w__fieldLink_RX12_145_ShellHeapModel_thrown_I_ := hts (.fieldLink RX12 145 "ShellHeapModel" "thrown" "I") (z_mc (z_ml z_m0))
  have hiX12 := show ∀ w ∈ u_ws RX12 TX12 70, w ∈ u_s_X12_kept2 from fun w h => z_mc (z_mr (z_ml h))
  have w__fieldLink_RX12_69_ShellHeapModel_keptOf_I_ := hts (.fieldLink RX12 69 "ShellHeapModel" "keptOf" "[I") (z_mc (z_ml z_m5))
  have krr_p1 := z_rng p1
  have krr_p2 := z_rng p2
  have krr_p3 := z_rng p3
  have hl := lv_entry ([.ref h0, .int p1, .int p2, .int p3]) (n := 4) (Nat.le_of_ble_eq_true rfl)
  rw [lg_entry_eq]
  generalize (lg_sl ([.ref h0, .int p1, .int p2, .int p3]) ++ List.replicate (4 - (lg_sl ([.ref h0, .int p1, .int p2, .int p3])).length) Slot.unset).toArray = ls at hl ⊢
  have hl : lv_has ls 4 [(0, .ref h0), (1, .int p1), (2, .int p2), (3, .int p3)] := hl
  refine lv_aload_n hx hb dX12_kept_0 rfl (lv_at hl 0 rfl) ?_
  refine lv_iconst (v := 0) hx hb dX12_kept_1 (by decide) ?_
  refine va_put (D := (dC, dI)) (ci := 12) (v := .int 0) (ty := .int) (C := RX12) (T := TX12) (N := 70) hx hb hts hiX12 tyX12 tyX12_ok nmX12 hown hK hP hD hS 0 rfl rfl 2 (by decide) w__fieldLink_RX12_145_ShellHeapModel_thrown_I_ (fun _ h9 => h9) rfl (by decide +kernel) rfl rfl (Nat.le_of_ble_eq_true rfl) dX12_kept_2 (fun H_1 locs hP hD hS => ?_)
  obtain ⟨hP, hD⟩ := z_s_0_2 hP hD
  refine lv_aload_n hx hb dX12_kept_5 rfl (lv_at hl 0 rfl) ?_
  refine lv_iload_n hx hb dX12_kept_6 rfl (lv_at hl 1 rfl) ?_
  obtain ⟨hPc, hDc⟩ := z_sub2 (ws' := [(h0, .inr (12, [h0_0, h0_1, .int 0, h0_3, h0_4, h0_5, h0_6, h0_7, h0_8, h0_9, h0_10, h0_11, h0_12, h0_13, h0_14, h0_15, h0_16, h0_17, h0_18, h0_19, h0_20, h0_21, h0_22, .int mk, h0_24, h0_25, .ref hkp, h0_27, h0_28, h0_29, h0_30, h0_31, h0_32, h0_33, h0_34, h0_35, h0_36, h0_37, h0_38, h0_39, h0_40, h0_41, h0_42, h0_43, h0_44, h0_45, h0_46, h0_47, h0_48, h0_49, h0_50, h0_51, h0_52, h0_53, h0_54, h0_55, h0_56, h0_57, h0_58, h0_59, h0_60, h0_61, h0_62, h0_63, h0_64, h0_65, h0_66, h0_67, h0_68, h0_69]))]) hP hD [0] (by decide) rfl
  have hKc := hK.sub (tys' := []) [] rfl
  have hFc := va_free (ws := []) (wc := []) (z_D0 _) hS hA [] rfl
  refine va_calli (va_runV (As := [.int p1]) (rest := []) ⟨hx, hb, hml, hown, hts⟩ (s_X12_isKind l dC dI H_1.size h0 p1 h0_0 h0_1 (.int 0) h0_3 h0_4 h0_5 h0_6 h0_7 h0_8 h0_9 h0_10 h0_11 h0_12 h0_13 h0_14 h0_15 h0_16 h0_17 h0_18 h0_19 h0_20 h0_21 h0_22 mk h0_24 h0_25 (.ref hkp) h0_27 h0_28 h0_29 h0_30 h0_31 h0_32 h0_33 h0_34 h0_35 h0_36 h0_37 h0_38 h0_39 h0_40 h0_41 h0_42 h0_43 h0_44 h0_45 h0_46 h0_47 h0_48 h0_49 h0_50 h0_51 h0_52 h0_53 h0_54 h0_55 h0_56 h0_57 h0_58 h0_59 h0_60 h0_61 h0_62 h0_63 h0_64 h0_65 h0_66 h0_67 h0_68 h0_69 hB_mk) (cwV 1 hts gw_s_X12_kept2_s_X12_isKind_195 rfl rfl rfl (by decide +kernel) ⟨Nat.le_of_ble_eq_true rfl, Nat.le_of_ble_eq_true rfl⟩) ⟨z_blind, va_recv hKc hPc (ci := 12) (q0 := 0) rfl rfl, z_pre hPc hKc hDc⟩ rfl rfl hl.1 rfl (lv_room (Nat.le_of_ble_eq_true rfl)) dX12_kept_7 ⟨Nat.le_of_ble_eq_true rfl, Nat.le_of_ble_eq_true rfl⟩) hS (fun q _ h => hFc q h) hFc (fun r_3 u t H_2 locs ht hvm hw_4 hB hz1 hk1 hS => ?_)
  replace hP := z_pure hP hk1
  clear hPc hDc hKc
  rcases hw_4 with ⟨rfl, hw_4⟩ | ⟨rfl, hw_4⟩
  · have hw_4 : (0 ≤ p1.toInt ∧ p1.toInt < mk.toInt) := hw_4
    refine lv_if_eq (tgt := 33) hx hb dX12_kept_10 (by decide) (fun c_5 => absurd c_5 (by decide)) (fun _ => ?_)
    refine lv_iload_n hx hb dX12_kept_13 rfl (lv_at hl 2 rfl) ?_
    refine lv_if_lt (tgt := 33) hx hb dX12_kept_14 (by decide) (fun c_6 => ?_) (fun c_6 => ?_)
    · have k_7 : (p2).toInt < (0 : Int) := z_lt c_6
      refine lv_iconst (v := 0) hx hb dX12_kept_33 (by decide) ?_
      have hP9 := hP
      have hD9 := hD
      have hK9 := hK.sub (tys' := []) [] rfl
      refine W.widen (k := 0) (n := 0) (Nat.le_of_ble_eq_true rfl) (Nat.le_of_ble_eq_true rfl) ?_
      exact W.zret (v := 0) hx hb hr (by rfl) (fun t ht hW => ⟨⟨0, (), rfl, (show ((0 : Int) ≤ (0 : Int) ∧ (0 : Int) ≤ (1 : Int)) by decide), ⟨0, fhkp, hI_hkp, by rw [ht]; exact hP9, va_K.moved hW.alike hK9, hD9⟩⟩, hS.F ht⟩) hS.2.2 dX12_kept_34
    · have k_8 : (p2).toInt ≥ (0 : Int) := z_nlt c_6
      refine lv_iload_n hx hb dX12_kept_17 rfl (lv_at hl 2 rfl) ?_
      refine lv_iconst (v := 3) hx hb dX12_kept_18 (by decide) ?_
      refine lv_icmp_gt (tgt := 33) hx hb dX12_kept_19 (by decide) (fun c_9 => ?_) (fun c_9 => ?_)
      · have k_10 : (3 : Int) < (p2).toInt := z_lt c_9
        refine lv_iconst (v := 0) hx hb dX12_kept_33 (by decide) ?_
        have hP9 := hP
        have hD9 := hD
        have hK9 := hK.sub (tys' := []) [] rfl
        refine W.widen (k := 0) (n := 0) (Nat.le_of_ble_eq_true rfl) (Nat.le_of_ble_eq_true rfl) ?_
        exact W.zret (v := 0) hx hb hr (by rfl) (fun t ht hW => ⟨⟨0, (), rfl, (show ((0 : Int) ≤ (0 : Int) ∧ (0 : Int) ≤ (1 : Int)) by decide), ⟨0, fhkp, hI_hkp, by rw [ht]; exact hP9, va_K.moved hW.alike hK9, hD9⟩⟩, hS.F ht⟩) hS.2.2 dX12_kept_34
      · have k_11 : (3 : Int) ≥ (p2).toInt := z_nlt c_9
        refine lv_iload_n hx hb dX12_kept_22 rfl (lv_at hl 3 rfl) ?_
        refine lv_iconst (v := 1) hx hb dX12_kept_23 (by decide) ?_
        refine lv_icmp_lt (tgt := 33) hx hb dX12_kept_24 (by decide) (fun c_12 => ?_) (fun c_12 => ?_)
        · have k_13 : (p3).toInt < (1 : Int) := z_lt c_12
          refine lv_iconst (v := 0) hx hb dX12_kept_33 (by decide) ?_
          have hP9 := hP
          have hD9 := hD
          have hK9 := hK.sub (tys' := []) [] rfl
          refine W.widen (k := 0) (n := 0) (Nat.le_of_ble_eq_true rfl) (Nat.le_of_ble_eq_true rfl) ?_
          exact W.zret (v := 0) hx hb hr (by rfl) (fun t ht hW => ⟨⟨0, (), rfl, (show ((0 : Int) ≤ (0 : Int) ∧ (0 : Int) ≤ (1 : Int)) by decide), ⟨0, fhkp, hI_hkp, by rw [ht]; exact hP9, va_K.moved hW.alike hK9, hD9⟩⟩, hS.F ht⟩) hS.2.2 dX12_kept_34
        · have k_14 : (p3).toInt ≥ (1 : Int) := z_nlt c_12
          refine lv_iload_n hx hb dX12_kept_27 rfl (lv_at hl 3 rfl) ?_
          refine lv_bipush (v := 16) hx hb dX12_kept_28 (by decide) ?_
          refine lv_icmp_le (tgt := 35) hx hb dX12_kept_30 (by decide) (fun c_15 => ?_) (fun c_15 => ?_)
          · have k_16 : (p3).toInt ≤ (16 : Int) := z_le c_15
            refine lv_aload_n hx hb dX12_kept_35 rfl (lv_at hl 0 rfl) ?_
            refine va_get (D := (dC, dI)) (ci := 12) (v := .ref hkp) (C := RX12) (T := TX12) (N := 70) hx hb hts hiX12 hown hK hP 0 rfl rfl 26 (by decide) w__fieldLink_RX12_69_ShellHeapModel_keptOf_I_ (fun _ h9 => h9) rfl dX12_kept_36 ?_
            refine lv_iconst (v := 4) hx hb dX12_kept_39 (by decide) ?_
            refine lv_iload_n hx hb dX12_kept_40 rfl (lv_at hl 1 rfl) ?_
            refine lv_imul hx hb dX12_kept_41 ?_
            refine lv_topi (fun z_17 ez_17 => ?_)
            have kz_17 : (z_17).toInt = (4 : Int) * (p1).toInt := by rw [ez_17]; exact z_mul (a := (4 : Int)) (b := (p1).toInt) rfl rfl (by omega) (by omega)
            refine lv_iload_n hx hb dX12_kept_42 rfl (lv_at hl 2 rfl) ?_
            refine lv_iadd hx hb dX12_kept_43 ?_
            refine lv_topi (fun z_18 ez_18 => ?_)
            have kz_18 : (z_18).toInt = (z_17).toInt + (p2).toInt := by rw [ez_18]; exact z_add (a := (z_17).toInt) (b := (p2).toInt) rfl rfl (by omega) (by omega)
            refine lv_iload_n hx hb dX12_kept_44 rfl (lv_at hl 3 rfl) ?_
            refine va_iast hx hb hK hP hD hS 1 0 rfl rfl (z_vpin (by omega) (by omega)) dX12_kept_45 (fun H_19 locs hP hD hS => ?_)
            obtain ⟨hP, hD⟩ := z_s_1 hP hD
            have hI_f_20 : ∀ j : Nat, ((1 : Int) ≤ ((upd fhkp (z_18 : Int32).toNatClampNeg p3) j).toInt ∧ ((upd fhkp (z_18 : Int32).toNatClampNeg p3) j).toInt ≤ (16 : Int)) := z_updP (P := fun v => ((1 : Int) ≤ (v).toInt ∧ (v).toInt ≤ (16 : Int))) hI_hkp (show ((1 : Int) ≤ (p3).toInt ∧ (p3).toInt ≤ (16 : Int)) from by first | omega | decide)
            generalize (upd fhkp (z_18 : Int32).toNatClampNeg p3) = f_20 at hP hD hI_f_20
            refine lv_iconst (v := 1) hx hb dX12_kept_46 (by decide) ?_
            have hP9 := hP
            have hD9 := hD
            have hK9 := hK.sub (tys' := []) [] rfl
            refine W.widen (k := 0) (n := 0) (Nat.le_of_ble_eq_true rfl) (Nat.le_of_ble_eq_true rfl) ?_
            exact W.zret (v := 1) hx hb hr (by rfl) (fun t ht hW => ⟨⟨1, (), rfl, (show ((0 : Int) ≤ (1 : Int) ∧ (1 : Int) ≤ (1 : Int)) by decide), ⟨0, f_20, hI_f_20, by rw [ht]; exact hP9, va_K.moved hW.alike hK9, hD9⟩⟩, hS.F ht⟩) hS.2.2 dX12_kept_47
          · have k_21 : (p3).toInt > (16 : Int) := z_nle c_15
            refine lv_iconst (v := 0) hx hb dX12_kept_33 (by decide) ?_
            have hP9 := hP
            have hD9 := hD
            have hK9 := hK.sub (tys' := []) [] rfl
            refine W.widen (k := 0) (n := 0) (Nat.le_of_ble_eq_true rfl) (Nat.le_of_ble_eq_true rfl) ?_
            exact W.zret (v := 0) hx hb hr (by rfl) (fun t ht hW => ⟨⟨0, (), rfl, (show ((0 : Int) ≤ (0 : Int) ∧ (0 : Int) ≤ (1 : Int)) by decide), ⟨0, fhkp, hI_hkp, by rw [ht]; exact hP9, va_K.moved hW.alike hK9, hD9⟩⟩, hS.F ht⟩) hS.2.2 dX12_kept_34
  · have hw_4 : True := hw_4
    refine lv_if_eq (tgt := 33) hx hb dX12_kept_10 (by decide) (fun _ => ?_) (fun c_22 => absurd (by decide) c_22)
    refine lv_iconst (v := 0) hx hb dX12_kept_33 (by decide) ?_
    have hP9 := hP
    have hD9 := hD
    have hK9 := hK.sub (tys' := []) [] rfl
    refine W.widen (k := 0) (n := 0) (Nat.le_of_ble_eq_true rfl) (Nat.le_of_ble_eq_true rfl) ?_
    exact W.zret (v := 0) hx hb hr (by rfl) (fun t ht hW => ⟨⟨0, (), rfl, (show ((0 : Int) ≤ (0 : Int) ∧ (0 : Int) ≤ (1 : Int)) by decide), ⟨0, fhkp, hI_hkp, by rw [ht]; exact hP9, va_K.moved hW.alike hK9, hD9⟩⟩, hS.F ht⟩) hS.2.2 dX12_kept_34
