def u_s_X12_ordersK : List Cond := .code yX12_orders cX12_orders 4 none :: ([.fieldLink RX12 154 "ShellHeapModel" "notes" "I", .fieldLink RX12 167 "ShellHeapModel" "quarrelNow" "I", .fieldLink RX12 35 "ShellHeapModel" "later" "[Z", .fieldLink RX12 38 "ShellHeapModel" "rank" "[I", .fieldLink RX12 25 "ShellHeapModel" "counts" "[Z", .fieldLink RX12 13 "ShellHeapModel" "sort" "[I", .fieldLink RX12 32 "ShellHeapModel" "bedOf" "[I", .fieldLink RX12 16 "ShellHeapModel" "noteA" "[I", .fieldLink RX12 19 "ShellHeapModel" "noteB" "[I"] ++ (wsX120 ++ []))
theorem gd_s_X12_ordersK : z_gd u_s_X12_ordersK := z_gdc (by decide +kernel) (z_gda gdX12 (z_gd0))
set_option maxHeartbeats 4000000 in
set_option maxRecDepth 100000 in
theorem s_X12_ordersK (l : Launch) (dC : Nat → ClassId) (dI : Nat → Nat → Nat) (sz : Nat) (h0 : Nat) (h0_0 : Value) (h0_1 : Value) (h0_2 : Value) (h0_3 : Value) (mn : Int32) (hs : Nat) (ha : Nat) (hb9 : Nat) (h0_8 : Value) (hct : Nat) (h0_10 : Value) (hbd : Nat) (hlt : Nat) (hrk : Nat) (h0_14 : Value) (h0_15 : Value) (mq : Int32) (h0_17 : Value) (h0_18 : Value) (h0_19 : Value) (h0_20 : Value) (h0_21 : Value) (h0_22 : Value) (h0_23 : Value) (h0_24 : Value) (h0_25 : Value) (h0_26 : Value) (h0_27 : Value) (h0_28 : Value) (h0_29 : Value) (h0_30 : Value) (h0_31 : Value) (h0_32 : Value) (h0_33 : Value) (h0_34 : Value) (h0_35 : Value) (h0_36 : Value) (h0_37 : Value) (h0_38 : Value) (h0_39 : Value) (h0_40 : Value) (h0_41 : Value) (h0_42 : Value) (h0_43 : Value) (h0_44 : Value) (h0_45 : Value) (h0_46 : Value) (h0_47 : Value) (h0_48 : Value) (h0_49 : Value) (h0_50 : Value) (h0_51 : Value) (h0_52 : Value) (h0_53 : Value) (h0_54 : Value) (h0_55 : Value) (h0_56 : Value) (h0_57 : Value) (h0_58 : Value) (h0_59 : Value) (h0_60 : Value) (h0_61 : Value) (h0_62 : Value) (h0_63 : Value) (h0_64 : Value) (h0_65 : Value) (h0_66 : Value) (h0_67 : Value) (h0_68 : Value) (h0_69 : Value) (chct : ClassId) (fhct : Nat → Int32) (chs : ClassId) (fhs : Nat → Int32) (cha : ClassId) (fha : Nat → Int32) (chb9 : ClassId) (fhb9 : Nat → Int32) (chbd : ClassId) (fhbd : Nat → Int32) (chlt : ClassId) (fhlt : Nat → Int32) (chrk : ClassId) (fhrk : Nat → Int32) (hB_mq : ((0 : Int) ≤ (mq).toInt ∧ (mq).toInt ≤ (2 : Int))) (hB_mn : ((0 : Int) ≤ (mn).toInt ∧ (mn).toInt ≤ (80 : Int))) (hI_ha : ∀ j : Nat, ((0 : Int) ≤ (fha j).toInt ∧ (fha j).toInt ≤ (79 : Int))) (hI_hbd : ∀ j : Nat, ((0 : Int) ≤ (fhbd j).toInt ∧ (fhbd j).toInt ≤ (11 : Int))) (hR : ∀ j : Nat, z_relm (fhs j) (fha j) (fhb9 j)) (hS0 : ∀ j : Nat, (0 : Int) ≤ (fhs j).toInt) : Met l yX12_orders u_s_X12_ordersK ({ frames := 0, cells := 0, slots := 0, locals := 0 }) (va_Pc [.ref h0] (z_C (dC, dI) vwCl [(h0, .inr (12, [h0_0, h0_1, h0_2, h0_3, .int mn, .ref hs, .ref ha, .ref hb9, h0_8, .ref hct, h0_10, .ref hbd, .ref hlt, .ref hrk, h0_14, h0_15, .int mq, h0_17, h0_18, h0_19, h0_20, h0_21, h0_22, h0_23, h0_24, h0_25, h0_26, h0_27, h0_28, h0_29, h0_30, h0_31, h0_32, h0_33, h0_34, h0_35, h0_36, h0_37, h0_38, h0_39, h0_40, h0_41, h0_42, h0_43, h0_44, h0_45, h0_46, h0_47, h0_48, h0_49, h0_50, h0_51, h0_52, h0_53, h0_54, h0_55, h0_56, h0_57, h0_58, h0_59, h0_60, h0_61, h0_62, h0_63, h0_64, h0_65, h0_66, h0_67, h0_68, h0_69])), (hct, .inl (chct, 80, .inl fhct)), (hs, .inl (chs, 80, .inl fhs)), (ha, .inl (cha, 80, .inl fha)), (hb9, .inl (chb9, 80, .inl fhb9)), (hbd, .inl (chbd, 12, .inl fhbd)), (hlt, .inl (chlt, 144, .inl fhlt)), (hrk, .inl (chrk, 12, .inl fhrk))] [(chct, .boolean), (chs, .int), (cha, .int), (chb9, .int), (chbd, .int), (chlt, .boolean), (chrk, .int)] sz)) (va_Qv (fun (_ : Unit) => True) (fun (_ : Unit) (t : State) => ∃ (n_h0_quarrelNow : Int32), ∃ (g_hlt : Nat → Int32), ∃ (g_hrk : Nat → Int32), ((0 : Int) ≤ (n_h0_quarrelNow).toInt ∧ (n_h0_quarrelNow).toInt ≤ (2 : Int)) ∧ (k_LT2 fhs fha fhb9 (k_iv fhct) mn.toInt fhbd g_hlt) ∧ (k_q2 g_hlt g_hrk n_h0_quarrelNow.toInt) ∧ va_P (dC, dI) vwCl [(h0, .inr (12, [h0_0, h0_1, h0_2, h0_3, .int mn, .ref hs, .ref ha, .ref hb9, h0_8, .ref hct, h0_10, .ref hbd, .ref hlt, .ref hrk, h0_14, h0_15, .int n_h0_quarrelNow, h0_17, h0_18, h0_19, h0_20, h0_21, h0_22, h0_23, h0_24, h0_25, h0_26, h0_27, h0_28, h0_29, h0_30, h0_31, h0_32, h0_33, h0_34, h0_35, h0_36, h0_37, h0_38, h0_39, h0_40, h0_41, h0_42, h0_43, h0_44, h0_45, h0_46, h0_47, h0_48, h0_49, h0_50, h0_51, h0_52, h0_53, h0_54, h0_55, h0_56, h0_57, h0_58, h0_59, h0_60, h0_61, h0_62, h0_63, h0_64, h0_65, h0_66, h0_67, h0_68, h0_69])), (hct, .inl (chct, 80, .inl fhct)), (hs, .inl (chs, 80, .inl fhs)), (ha, .inl (cha, 80, .inl fha)), (hb9, .inl (chb9, 80, .inl fhb9)), (hbd, .inl (chbd, 12, .inl fhbd)), (hlt, .inl (chlt, 144, .inl g_hlt)), (hrk, .inl (chrk, 12, .inl g_hrk))] t.heap ∧ va_K (dC, dI) vwCl [] t ∧ va_D (va_A [(h0, .inr (12, [h0_0, h0_1, h0_2, h0_3, .int mn, .ref hs, .ref ha, .ref hb9, h0_8, .ref hct, h0_10, .ref hbd, .ref hlt, .ref hrk, h0_14, h0_15, .int mq, h0_17, h0_18, h0_19, h0_20, h0_21, h0_22, h0_23, h0_24, h0_25, h0_26, h0_27, h0_28, h0_29, h0_30, h0_31, h0_32, h0_33, h0_34, h0_35, h0_36, h0_37, h0_38, h0_39, h0_40, h0_41, h0_42, h0_43, h0_44, h0_45, h0_46, h0_47, h0_48, h0_49, h0_50, h0_51, h0_52, h0_53, h0_54, h0_55, h0_56, h0_57, h0_58, h0_59, h0_60, h0_61, h0_62, h0_63, h0_64, h0_65, h0_66, h0_67, h0_68, h0_69])), (hct, .inl (chct, 80, .inl fhct)), (hs, .inl (chs, 80, .inl fhs)), (ha, .inl (cha, 80, .inl fha)), (hb9, .inl (chb9, 80, .inl fhb9)), (hbd, .inl (chbd, 12, .inl fhbd)), (hlt, .inl (chlt, 144, .inl fhlt)), (hrk, .inl (chrk, 12, .inl fhrk))] sz) [(h0, .inr (12, [h0_0, h0_1, h0_2, h0_3, .int mn, .ref hs, .ref ha, .ref hb9, h0_8, .ref hct, h0_10, .ref hbd, .ref hlt, .ref hrk, h0_14, h0_15, .int n_h0_quarrelNow, h0_17, h0_18, h0_19, h0_20, h0_21, h0_22, h0_23, h0_24, h0_25, h0_26, h0_27, h0_28, h0_29, h0_30, h0_31, h0_32, h0_33, h0_34, h0_35, h0_36, h0_37, h0_38, h0_39, h0_40, h0_41, h0_42, h0_43, h0_44, h0_45, h0_46, h0_47, h0_48, h0_49, h0_50, h0_51, h0_52, h0_53, h0_54, h0_55, h0_56, h0_57, h0_58, h0_59, h0_60, h0_61, h0_62, h0_63, h0_64, h0_65, h0_66, h0_67, h0_68, h0_69])), (hct, .inl (chct, 80, .inl fhct)), (hs, .inl (chs, 80, .inl fhs)), (ha, .inl (cha, 80, .inl fha)), (hb9, .inl (chb9, 80, .inl fhb9)), (hbd, .inl (chbd, 12, .inl fhbd)), (hlt, .inl (chlt, 144, .inl g_hlt)), (hrk, .inl (chrk, 12, .inl g_hrk))]) (va_A [(h0, .inr (12, [h0_0, h0_1, h0_2, h0_3, .int mn, .ref hs, .ref ha, .ref hb9, h0_8, .ref hct, h0_10, .ref hbd, .ref hlt, .ref hrk, h0_14, h0_15, .int mq, h0_17, h0_18, h0_19, h0_20, h0_21, h0_22, h0_23, h0_24, h0_25, h0_26, h0_27, h0_28, h0_29, h0_30, h0_31, h0_32, h0_33, h0_34, h0_35, h0_36, h0_37, h0_38, h0_39, h0_40, h0_41, h0_42, h0_43, h0_44, h0_45, h0_46, h0_47, h0_48, h0_49, h0_50, h0_51, h0_52, h0_53, h0_54, h0_55, h0_56, h0_57, h0_58, h0_59, h0_60, h0_61, h0_62, h0_63, h0_64, h0_65, h0_66, h0_67, h0_68, h0_69])), (hct, .inl (chct, 80, .inl fhct)), (hs, .inl (chs, 80, .inl fhs)), (ha, .inl (cha, 80, .inl fha)), (hb9, .inl (chb9, 80, .inl fhb9)), (hbd, .inl (chbd, 12, .inl fhbd)), (hlt, .inl (chlt, 144, .inl fhlt)), (hrk, .inl (chrk, 12, .inl fhrk))] sz)) 0 0 (va_A [(h0, .inr (12, [h0_0, h0_1, h0_2, h0_3, .int mn, .ref hs, .ref ha, .ref hb9, h0_8, .ref hct, h0_10, .ref hbd, .ref hlt, .ref hrk, h0_14, h0_15, .int mq, h0_17, h0_18, h0_19, h0_20, h0_21, h0_22, h0_23, h0_24, h0_25, h0_26, h0_27, h0_28, h0_29, h0_30, h0_31, h0_32, h0_33, h0_34, h0_35, h0_36, h0_37, h0_38, h0_39, h0_40, h0_41, h0_42, h0_43, h0_44, h0_45, h0_46, h0_47, h0_48, h0_49, h0_50, h0_51, h0_52, h0_53, h0_54, h0_55, h0_56, h0_57, h0_58, h0_59, h0_60, h0_61, h0_62, h0_63, h0_64, h0_65, h0_66, h0_67, h0_68, h0_69])), (hct, .inl (chct, 80, .inl fhct)), (hs, .inl (chs, 80, .inl fhs)), (ha, .inl (cha, 80, .inl fha)), (hb9, .inl (chb9, 80, .inl fhb9)), (hbd, .inl (chbd, 12, .inl fhbd)), (hlt, .inl (chlt, 144, .inl fhlt)), (hrk, .inl (chrk, 12, .inl fhrk))] sz) := by
  refine Met.ofW (cc := cX12_orders) (maxL := 4) (ret := none) (by decide) rfl ?_
  intro p e s m args below meth c s₁ B hml hv
  obtain ⟨rfl, hsz, hP, hK, hD0⟩ := hv
  have hx := B.exec
  have hb := B.bytes
  have hr := B.returns
  have hts := atoms_spec (ws := u_s_X12_ordersK) B.pre
  have hown : s.vm.findClass RX12 = some m.cls := findClass_of_methodNamed B.named
  have hlocks := B.notSynchronized
  subst hsz
  have hD := hD0.self (sz := s.heap.size)
  generalize hAe : va_A [(h0, .inr (12, [h0_0, h0_1, h0_2, h0_3, .int mn, .ref hs, .ref ha, .ref hb9, h0_8, .ref hct, h0_10, .ref hbd, .ref hlt, .ref hrk, h0_14, h0_15, .int mq, h0_17, h0_18, h0_19, h0_20, h0_21, h0_22, h0_23, h0_24, h0_25, h0_26, h0_27, h0_28, h0_29, h0_30, h0_31, h0_32, h0_33, h0_34, h0_35, h0_36, h0_37, h0_38, h0_39, h0_40, h0_41, h0_42, h0_43, h0_44, h0_45, h0_46, h0_47, h0_48, h0_49, h0_50, h0_51, h0_52, h0_53, h0_54, h0_55, h0_56, h0_57, h0_58, h0_59, h0_60, h0_61, h0_62, h0_63, h0_64, h0_65, h0_66, h0_67, h0_68, h0_69])), (hct, .inl (chct, 80, .inl fhct)), (hs, .inl (chs, 80, .inl fhs)), (ha, .inl (cha, 80, .inl fha)), (hb9, .inl (chb9, 80, .inl fhb9)), (hbd, .inl (chbd, 12, .inl fhbd)), (hlt, .inl (chlt, 144, .inl fhlt)), (hrk, .inl (chrk, 12, .inl fhrk))] s.heap.size = A at hD ⊢
  have hA : ∀ q : Nat, s.heap.size ≤ q → A q := fun q h => by rw [← hAe]; exact Or.inr h
  have hS : va_S A s.heap s.heap [] := va_S.rf
  have hP : va_P (dC, dI) vwCl [(h0, .inr (12, [h0_0, h0_1, h0_2, h0_3, .int mn, .ref hs, .ref ha, .ref hb9, h0_8, .ref hct, h0_10, .ref hbd, .ref hlt, .ref hrk, h0_14, h0_15, .int mq, h0_17, h0_18, h0_19, h0_20, h0_21, h0_22, h0_23, h0_24, h0_25, h0_26, h0_27, h0_28, h0_29, h0_30, h0_31, h0_32, h0_33, h0_34, h0_35, h0_36, h0_37, h0_38, h0_39, h0_40, h0_41, h0_42, h0_43, h0_44, h0_45, h0_46, h0_47, h0_48, h0_49, h0_50, h0_51, h0_52, h0_53, h0_54, h0_55, h0_56, h0_57, h0_58, h0_59, h0_60, h0_61, h0_62, h0_63, h0_64, h0_65, h0_66, h0_67, h0_68, h0_69])), (hct, .inl (chct, 80, .inl fhct)), (hs, .inl (chs, 80, .inl fhs)), (ha, .inl (cha, 80, .inl fha)), (hb9, .inl (chb9, 80, .inl fhb9)), (hbd, .inl (chbd, 12, .inl fhbd)), (hlt, .inl (chlt, 144, .inl fhlt)), (hrk, .inl (chrk, 12, .inl fhrk))] s.heap := hP
  have w__fieldLink_RX12_154_ShellHeapModel_notes_I_ := hts (.fieldLink RX12 154 "ShellHeapModel" "notes" "I") (z_mc (z_ml z_m0))
  have hiX12 := show ∀ w ∈ u_ws RX12 TX12 70, w ∈ u_s_X12_ordersK from fun w h => z_mc (z_mr (z_ml h))
  have w__fieldLink_RX12_167_ShellHeapModel_quarrelNow_I_ := hts (.fieldLink RX12 167 "ShellHeapModel" "quarrelNow" "I") (z_mc (z_ml z_m1))
  have w__fieldLink_RX12_35_ShellHeapModel_later_Z_ := hts (.fieldLink RX12 35 "ShellHeapModel" "later" "[Z") (z_mc (z_ml z_m2))
  have w__fieldLink_RX12_38_ShellHeapModel_rank_I_ := hts (.fieldLink RX12 38 "ShellHeapModel" "rank" "[I") (z_mc (z_ml z_m3))
  have w__fieldLink_RX12_25_ShellHeapModel_counts_Z_ := hts (.fieldLink RX12 25 "ShellHeapModel" "counts" "[Z") (z_mc (z_ml z_m4))
  have w__fieldLink_RX12_13_ShellHeapModel_sort_I_ := hts (.fieldLink RX12 13 "ShellHeapModel" "sort" "[I") (z_mc (z_ml z_m5))
  have w__fieldLink_RX12_32_ShellHeapModel_bedOf_I_ := hts (.fieldLink RX12 32 "ShellHeapModel" "bedOf" "[I") (z_mc (z_ml z_m6))
  have w__fieldLink_RX12_16_ShellHeapModel_noteA_I_ := hts (.fieldLink RX12 16 "ShellHeapModel" "noteA" "[I") (z_mc (z_ml z_m7))
  have w__fieldLink_RX12_19_ShellHeapModel_noteB_I_ := hts (.fieldLink RX12 19 "ShellHeapModel" "noteB" "[I") (z_mc (z_ml z_m8))
  have hl := lv_entry ([.ref h0]) (n := 4) (Nat.le_of_ble_eq_true rfl)
  rw [lg_entry_eq]
  generalize (lg_sl ([.ref h0]) ++ List.replicate (4 - (lg_sl ([.ref h0])).length) Slot.unset).toArray = ls at hl ⊢
  have hl : lv_has ls 4 [(0, .ref h0)] := hl
  refine z_nameQ (fun QQ hQQ => ?_)
  have hRG : k_r3 fhs fha fhb9 (mn).toInt 12 := k_r3_m hR
  have hBL : k_bl 12 fhbd := k_bl_12 hI_hbd
  refine lv_iconst (v := 0) hx hb dX12_orders_0 (by decide) ?_
  refine lv_istore_n (lv' := [(1, .int 0), (0, .ref h0)]) hx hb dX12_orders_1 rfl hl (by decide) rfl (fun ls hl => ?_)
  have loop_1 : ∀ (n_2 : Nat) (i_4 : Int32) (f_5 : Nat → Int32) (H : Heap) (locs : List Loc) (ls : Array Slot), (145 - (i_4).toInt).toNat < n_2 → (((0 : Int) ≤ (i_4).toInt ∧ (i_4).toInt ≤ (144 : Int))) → (k_z (i_4).toInt f_5) → va_P (dC, dI) vwCl [(h0, .inr (12, [h0_0, h0_1, h0_2, h0_3, .int mn, .ref hs, .ref ha, .ref hb9, h0_8, .ref hct, h0_10, .ref hbd, .ref hlt, .ref hrk, h0_14, h0_15, .int mq, h0_17, h0_18, h0_19, h0_20, h0_21, h0_22, h0_23, h0_24, h0_25, h0_26, h0_27, h0_28, h0_29, h0_30, h0_31, h0_32, h0_33, h0_34, h0_35, h0_36, h0_37, h0_38, h0_39, h0_40, h0_41, h0_42, h0_43, h0_44, h0_45, h0_46, h0_47, h0_48, h0_49, h0_50, h0_51, h0_52, h0_53, h0_54, h0_55, h0_56, h0_57, h0_58, h0_59, h0_60, h0_61, h0_62, h0_63, h0_64, h0_65, h0_66, h0_67, h0_68, h0_69])), (hct, .inl (chct, 80, .inl fhct)), (hs, .inl (chs, 80, .inl fhs)), (ha, .inl (cha, 80, .inl fha)), (hb9, .inl (chb9, 80, .inl fhb9)), (hbd, .inl (chbd, 12, .inl fhbd)), (hlt, .inl (chlt, 144, .inl f_5)), (hrk, .inl (chrk, 12, .inl fhrk))] H → va_D A [(h0, .inr (12, [h0_0, h0_1, h0_2, h0_3, .int mn, .ref hs, .ref ha, .ref hb9, h0_8, .ref hct, h0_10, .ref hbd, .ref hlt, .ref hrk, h0_14, h0_15, .int mq, h0_17, h0_18, h0_19, h0_20, h0_21, h0_22, h0_23, h0_24, h0_25, h0_26, h0_27, h0_28, h0_29, h0_30, h0_31, h0_32, h0_33, h0_34, h0_35, h0_36, h0_37, h0_38, h0_39, h0_40, h0_41, h0_42, h0_43, h0_44, h0_45, h0_46, h0_47, h0_48, h0_49, h0_50, h0_51, h0_52, h0_53, h0_54, h0_55, h0_56, h0_57, h0_58, h0_59, h0_60, h0_61, h0_62, h0_63, h0_64, h0_65, h0_66, h0_67, h0_68, h0_69])), (hct, .inl (chct, 80, .inl fhct)), (hs, .inl (chs, 80, .inl fhs)), (ha, .inl (cha, 80, .inl fha)), (hb9, .inl (chb9, 80, .inl fhb9)), (hbd, .inl (chbd, 12, .inl fhbd)), (hlt, .inl (chlt, 144, .inl f_5)), (hrk, .inl (chrk, 12, .inl fhrk))] → va_S A s.heap H locs → lv_has ls 4 [(1, .int i_4), (0, .ref h0)] → W p l e ({ frames := 0, cells := 0, slots := 0, locals := 0 } : Room) s m ([.ref h0] : List Value).toArray below meth c H locs 0 0 QQ (F0 m 2 ls []) := by
    intro n_2
    induction n_2 with
    | zero => intro i_4 f_5 H locs ls hm; exact absurd hm (Nat.not_lt_zero _)
    | succ n_2 ih_3 =>
      intro i_4 f_5 H locs ls hm hF_6 hF_7 hP hD hS hl
      refine lv_iload_n hx hb dX12_orders_2 rfl (lv_at hl 0 rfl) ?_
      refine lv_sipush (v := 144) hx hb dX12_orders_3 (by decide) ?_
      refine lv_icmp_ge (tgt := 22) hx hb dX12_orders_6 (by decide) (fun c_8 => ?_) (fun c_8 => ?_)
      · have k_9 : (144 : Int) ≤ (i_4).toInt := z_le c_8
        obtain rfl : i_4 = 144 := z_eq' (show (i_4).toInt = (144 : Int) by omega)
        refine lv_iconst (v := 0) hx hb dX12_orders_22 (by decide) ?_
        refine lv_istore_n (lv' := [(1, .int 0), (0, .ref h0)]) hx hb dX12_orders_23 rfl hl (by decide) rfl (fun ls hl => ?_)
        have loop_11 : ∀ (n_12 : Nat) (i_14 : Int32) (f_15 : Nat → Int32) (H : Heap) (locs : List Loc) (ls : Array Slot), (81 - (i_14).toInt).toNat < n_12 → (((0 : Int) ≤ (i_14).toInt ∧ (i_14).toInt ≤ (80 : Int))) → (k_me2 (k_Ei fhs fha fhb9 (k_c (mn).toInt (k_iv fhct)) (i_14).toInt fhbd) f_15) → va_P (dC, dI) vwCl [(h0, .inr (12, [h0_0, h0_1, h0_2, h0_3, .int mn, .ref hs, .ref ha, .ref hb9, h0_8, .ref hct, h0_10, .ref hbd, .ref hlt, .ref hrk, h0_14, h0_15, .int mq, h0_17, h0_18, h0_19, h0_20, h0_21, h0_22, h0_23, h0_24, h0_25, h0_26, h0_27, h0_28, h0_29, h0_30, h0_31, h0_32, h0_33, h0_34, h0_35, h0_36, h0_37, h0_38, h0_39, h0_40, h0_41, h0_42, h0_43, h0_44, h0_45, h0_46, h0_47, h0_48, h0_49, h0_50, h0_51, h0_52, h0_53, h0_54, h0_55, h0_56, h0_57, h0_58, h0_59, h0_60, h0_61, h0_62, h0_63, h0_64, h0_65, h0_66, h0_67, h0_68, h0_69])), (hct, .inl (chct, 80, .inl fhct)), (hs, .inl (chs, 80, .inl fhs)), (ha, .inl (cha, 80, .inl fha)), (hb9, .inl (chb9, 80, .inl fhb9)), (hbd, .inl (chbd, 12, .inl fhbd)), (hlt, .inl (chlt, 144, .inl f_15)), (hrk, .inl (chrk, 12, .inl fhrk))] H → va_D A [(h0, .inr (12, [h0_0, h0_1, h0_2, h0_3, .int mn, .ref hs, .ref ha, .ref hb9, h0_8, .ref hct, h0_10, .ref hbd, .ref hlt, .ref hrk, h0_14, h0_15, .int mq, h0_17, h0_18, h0_19, h0_20, h0_21, h0_22, h0_23, h0_24, h0_25, h0_26, h0_27, h0_28, h0_29, h0_30, h0_31, h0_32, h0_33, h0_34, h0_35, h0_36, h0_37, h0_38, h0_39, h0_40, h0_41, h0_42, h0_43, h0_44, h0_45, h0_46, h0_47, h0_48, h0_49, h0_50, h0_51, h0_52, h0_53, h0_54, h0_55, h0_56, h0_57, h0_58, h0_59, h0_60, h0_61, h0_62, h0_63, h0_64, h0_65, h0_66, h0_67, h0_68, h0_69])), (hct, .inl (chct, 80, .inl fhct)), (hs, .inl (chs, 80, .inl fhs)), (ha, .inl (cha, 80, .inl fha)), (hb9, .inl (chb9, 80, .inl fhb9)), (hbd, .inl (chbd, 12, .inl fhbd)), (hlt, .inl (chlt, 144, .inl f_15)), (hrk, .inl (chrk, 12, .inl fhrk))] → va_S A s.heap H locs → lv_has ls 4 [(1, .int i_14), (0, .ref h0)] → W p l e ({ frames := 0, cells := 0, slots := 0, locals := 0 } : Room) s m ([.ref h0] : List Value).toArray below meth c H locs 0 0 QQ (F0 m 24 ls []) := by
          intro n_12
          induction n_12 with
          | zero => intro i_14 f_15 H locs ls hm; exact absurd hm (Nat.not_lt_zero _)
          | succ n_12 ih_13 =>
            intro i_14 f_15 H locs ls hm hF_16 hF_17 hP hD hS hl
            refine lv_iload_n hx hb dX12_orders_24 rfl (lv_at hl 0 rfl) ?_
            refine lv_aload_n hx hb dX12_orders_25 rfl (lv_at hl 1 rfl) ?_
            refine va_get (D := (dC, dI)) (ci := 12) (v := .int mn) (C := RX12) (T := TX12) (N := 70) hx hb hts hiX12 hown hK hP 0 rfl rfl 4 (by decide) w__fieldLink_RX12_154_ShellHeapModel_notes_I_ (fun _ h9 => h9) rfl dX12_orders_26 ?_
            refine lv_icmp_ge (tgt := 89) hx hb dX12_orders_29 (by decide) (fun c_18 => ?_) (fun c_18 => ?_)
            · have k_19 : (mn).toInt ≤ (i_14).toInt := z_le c_18
              refine lv_iconst (v := 0) hx hb dX12_orders_89 (by decide) ?_
              refine lv_istore_n (lv' := [(1, .int 0), (0, .ref h0)]) hx hb dX12_orders_90 rfl hl (by decide) rfl (fun ls hl => ?_)
              have loop_20 : ∀ (n_21 : Nat) (i_23 : Int32) (f_24 : Nat → Int32) (H : Heap) (locs : List Loc) (ls : Array Slot), (13 - (i_23).toInt).toNat < n_21 → (((0 : Int) ≤ (i_23).toInt ∧ (i_23).toInt ≤ (12 : Int))) → (k_W (k_Ei fhs fha fhb9 (k_c (mn).toInt (k_iv fhct)) (mn).toInt fhbd) (i_23).toInt (k_M2 f_24)) → va_P (dC, dI) vwCl [(h0, .inr (12, [h0_0, h0_1, h0_2, h0_3, .int mn, .ref hs, .ref ha, .ref hb9, h0_8, .ref hct, h0_10, .ref hbd, .ref hlt, .ref hrk, h0_14, h0_15, .int mq, h0_17, h0_18, h0_19, h0_20, h0_21, h0_22, h0_23, h0_24, h0_25, h0_26, h0_27, h0_28, h0_29, h0_30, h0_31, h0_32, h0_33, h0_34, h0_35, h0_36, h0_37, h0_38, h0_39, h0_40, h0_41, h0_42, h0_43, h0_44, h0_45, h0_46, h0_47, h0_48, h0_49, h0_50, h0_51, h0_52, h0_53, h0_54, h0_55, h0_56, h0_57, h0_58, h0_59, h0_60, h0_61, h0_62, h0_63, h0_64, h0_65, h0_66, h0_67, h0_68, h0_69])), (hct, .inl (chct, 80, .inl fhct)), (hs, .inl (chs, 80, .inl fhs)), (ha, .inl (cha, 80, .inl fha)), (hb9, .inl (chb9, 80, .inl fhb9)), (hbd, .inl (chbd, 12, .inl fhbd)), (hlt, .inl (chlt, 144, .inl f_24)), (hrk, .inl (chrk, 12, .inl fhrk))] H → va_D A [(h0, .inr (12, [h0_0, h0_1, h0_2, h0_3, .int mn, .ref hs, .ref ha, .ref hb9, h0_8, .ref hct, h0_10, .ref hbd, .ref hlt, .ref hrk, h0_14, h0_15, .int mq, h0_17, h0_18, h0_19, h0_20, h0_21, h0_22, h0_23, h0_24, h0_25, h0_26, h0_27, h0_28, h0_29, h0_30, h0_31, h0_32, h0_33, h0_34, h0_35, h0_36, h0_37, h0_38, h0_39, h0_40, h0_41, h0_42, h0_43, h0_44, h0_45, h0_46, h0_47, h0_48, h0_49, h0_50, h0_51, h0_52, h0_53, h0_54, h0_55, h0_56, h0_57, h0_58, h0_59, h0_60, h0_61, h0_62, h0_63, h0_64, h0_65, h0_66, h0_67, h0_68, h0_69])), (hct, .inl (chct, 80, .inl fhct)), (hs, .inl (chs, 80, .inl fhs)), (ha, .inl (cha, 80, .inl fha)), (hb9, .inl (chb9, 80, .inl fhb9)), (hbd, .inl (chbd, 12, .inl fhbd)), (hlt, .inl (chlt, 144, .inl f_24)), (hrk, .inl (chrk, 12, .inl fhrk))] → va_S A s.heap H locs → lv_has ls 4 [(1, .int i_23), (0, .ref h0)] → W p l e ({ frames := 0, cells := 0, slots := 0, locals := 0 } : Room) s m ([.ref h0] : List Value).toArray below meth c H locs 0 0 QQ (F0 m 91 ls []) := by
                intro n_21
                induction n_21 with
                | zero => intro i_23 f_24 H locs ls hm; exact absurd hm (Nat.not_lt_zero _)
                | succ n_21 ih_22 =>
                  intro i_23 f_24 H locs ls hm hF_25 hF_26 hP hD hS hl
                  refine lv_iload_n hx hb dX12_orders_91 rfl (lv_at hl 0 rfl) ?_
                  refine lv_bipush (v := 12) hx hb dX12_orders_92 (by decide) ?_
                  refine lv_icmp_ge (tgt := 189) hx hb dX12_orders_94 (by decide) (fun c_27 => ?_) (fun c_27 => ?_)
                  · have k_28 : (12 : Int) ≤ (i_23).toInt := z_le c_27
                    obtain rfl : i_23 = 12 := z_eq' (show (i_23).toInt = (12 : Int) by omega)
                    have hLT : k_LT2 fhs fha fhb9 (k_iv fhct) (mn).toInt fhbd f_24 := k_LT2_of hRG hBL hF_26 (by omega)
                    refine lv_aload_n hx hb dX12_orders_189 rfl (lv_at hl 1 rfl) ?_
                    refine lv_iconst (v := 0) hx hb dX12_orders_190 (by decide) ?_
                    refine va_put (D := (dC, dI)) (ci := 12) (v := .int 0) (ty := .int) (C := RX12) (T := TX12) (N := 70) hx hb hts hiX12 tyX12 tyX12_ok nmX12 hown hK hP hD hS 0 rfl rfl 16 (by decide) w__fieldLink_RX12_167_ShellHeapModel_quarrelNow_I_ (fun _ h9 => h9) rfl (by decide +kernel) rfl rfl (Nat.le_of_ble_eq_true rfl) dX12_orders_191 (fun H_30 locs hP hD hS => ?_)
                    obtain ⟨hP, hD⟩ := z_s_0_16 hP hD
                    refine lv_iconst (v := 0) hx hb dX12_orders_194 (by decide) ?_
                    refine lv_istore_n (lv' := [(1, .int 0), (0, .ref h0)]) hx hb dX12_orders_195 rfl hl (by decide) rfl (fun ls hl => ?_)
                    have loop_31 : ∀ (n_32 : Nat) (i_34 : Int32) (v_35 : Int32) (H : Heap) (locs : List Loc) (ls : Array Slot), (13 - (i_34).toInt).toNat < n_32 → (((0 : Int) ≤ (i_34).toInt ∧ (i_34).toInt ≤ (12 : Int))) → (((0 : Int) ≤ (v_35).toInt ∧ (v_35).toInt ≤ (2 : Int))) → (k_q1 (i_34).toInt f_24 (v_35).toInt) → va_P (dC, dI) vwCl [(h0, .inr (12, [h0_0, h0_1, h0_2, h0_3, .int mn, .ref hs, .ref ha, .ref hb9, h0_8, .ref hct, h0_10, .ref hbd, .ref hlt, .ref hrk, h0_14, h0_15, .int v_35, h0_17, h0_18, h0_19, h0_20, h0_21, h0_22, h0_23, h0_24, h0_25, h0_26, h0_27, h0_28, h0_29, h0_30, h0_31, h0_32, h0_33, h0_34, h0_35, h0_36, h0_37, h0_38, h0_39, h0_40, h0_41, h0_42, h0_43, h0_44, h0_45, h0_46, h0_47, h0_48, h0_49, h0_50, h0_51, h0_52, h0_53, h0_54, h0_55, h0_56, h0_57, h0_58, h0_59, h0_60, h0_61, h0_62, h0_63, h0_64, h0_65, h0_66, h0_67, h0_68, h0_69])), (hct, .inl (chct, 80, .inl fhct)), (hs, .inl (chs, 80, .inl fhs)), (ha, .inl (cha, 80, .inl fha)), (hb9, .inl (chb9, 80, .inl fhb9)), (hbd, .inl (chbd, 12, .inl fhbd)), (hlt, .inl (chlt, 144, .inl f_24)), (hrk, .inl (chrk, 12, .inl fhrk))] H → va_D A [(h0, .inr (12, [h0_0, h0_1, h0_2, h0_3, .int mn, .ref hs, .ref ha, .ref hb9, h0_8, .ref hct, h0_10, .ref hbd, .ref hlt, .ref hrk, h0_14, h0_15, .int v_35, h0_17, h0_18, h0_19, h0_20, h0_21, h0_22, h0_23, h0_24, h0_25, h0_26, h0_27, h0_28, h0_29, h0_30, h0_31, h0_32, h0_33, h0_34, h0_35, h0_36, h0_37, h0_38, h0_39, h0_40, h0_41, h0_42, h0_43, h0_44, h0_45, h0_46, h0_47, h0_48, h0_49, h0_50, h0_51, h0_52, h0_53, h0_54, h0_55, h0_56, h0_57, h0_58, h0_59, h0_60, h0_61, h0_62, h0_63, h0_64, h0_65, h0_66, h0_67, h0_68, h0_69])), (hct, .inl (chct, 80, .inl fhct)), (hs, .inl (chs, 80, .inl fhs)), (ha, .inl (cha, 80, .inl fha)), (hb9, .inl (chb9, 80, .inl fhb9)), (hbd, .inl (chbd, 12, .inl fhbd)), (hlt, .inl (chlt, 144, .inl f_24)), (hrk, .inl (chrk, 12, .inl fhrk))] → va_S A s.heap H locs → lv_has ls 4 [(1, .int i_34), (0, .ref h0)] → W p l e ({ frames := 0, cells := 0, slots := 0, locals := 0 } : Room) s m ([.ref h0] : List Value).toArray below meth c H locs 0 0 QQ (F0 m 196 ls []) := by
                      intro n_32
                      induction n_32 with
                      | zero => intro i_34 v_35 H locs ls hm; exact absurd hm (Nat.not_lt_zero _)
                      | succ n_32 ih_33 =>
                        intro i_34 v_35 H locs ls hm hF_36 hF_37 hF_38 hP hD hS hl
                        refine lv_iload_n hx hb dX12_orders_196 rfl (lv_at hl 0 rfl) ?_
                        refine lv_bipush (v := 12) hx hb dX12_orders_197 (by decide) ?_
                        refine lv_icmp_ge (tgt := 232) hx hb dX12_orders_199 (by decide) (fun c_39 => ?_) (fun c_39 => ?_)
                        · have k_40 : (12 : Int) ≤ (i_34).toInt := z_le c_39
                          obtain rfl : i_34 = 12 := z_eq' (show (i_34).toInt = (12 : Int) by omega)
                          refine lv_iconst (v := 0) hx hb dX12_orders_232 (by decide) ?_
                          refine lv_istore_n (lv' := [(1, .int 0), (0, .ref h0)]) hx hb dX12_orders_233 rfl hl (by decide) rfl (fun ls hl => ?_)
                          have loop_42 : ∀ (n_43 : Nat) (i_45 : Int32) (f_46 : Nat → Int32) (H : Heap) (locs : List Loc) (ls : Array Slot), (13 - (i_45).toInt).toNat < n_43 → (((0 : Int) ≤ (i_45).toInt ∧ (i_45).toInt ≤ (12 : Int))) → (k_z (i_45).toInt f_46) → va_P (dC, dI) vwCl [(h0, .inr (12, [h0_0, h0_1, h0_2, h0_3, .int mn, .ref hs, .ref ha, .ref hb9, h0_8, .ref hct, h0_10, .ref hbd, .ref hlt, .ref hrk, h0_14, h0_15, .int v_35, h0_17, h0_18, h0_19, h0_20, h0_21, h0_22, h0_23, h0_24, h0_25, h0_26, h0_27, h0_28, h0_29, h0_30, h0_31, h0_32, h0_33, h0_34, h0_35, h0_36, h0_37, h0_38, h0_39, h0_40, h0_41, h0_42, h0_43, h0_44, h0_45, h0_46, h0_47, h0_48, h0_49, h0_50, h0_51, h0_52, h0_53, h0_54, h0_55, h0_56, h0_57, h0_58, h0_59, h0_60, h0_61, h0_62, h0_63, h0_64, h0_65, h0_66, h0_67, h0_68, h0_69])), (hct, .inl (chct, 80, .inl fhct)), (hs, .inl (chs, 80, .inl fhs)), (ha, .inl (cha, 80, .inl fha)), (hb9, .inl (chb9, 80, .inl fhb9)), (hbd, .inl (chbd, 12, .inl fhbd)), (hlt, .inl (chlt, 144, .inl f_24)), (hrk, .inl (chrk, 12, .inl f_46))] H → va_D A [(h0, .inr (12, [h0_0, h0_1, h0_2, h0_3, .int mn, .ref hs, .ref ha, .ref hb9, h0_8, .ref hct, h0_10, .ref hbd, .ref hlt, .ref hrk, h0_14, h0_15, .int v_35, h0_17, h0_18, h0_19, h0_20, h0_21, h0_22, h0_23, h0_24, h0_25, h0_26, h0_27, h0_28, h0_29, h0_30, h0_31, h0_32, h0_33, h0_34, h0_35, h0_36, h0_37, h0_38, h0_39, h0_40, h0_41, h0_42, h0_43, h0_44, h0_45, h0_46, h0_47, h0_48, h0_49, h0_50, h0_51, h0_52, h0_53, h0_54, h0_55, h0_56, h0_57, h0_58, h0_59, h0_60, h0_61, h0_62, h0_63, h0_64, h0_65, h0_66, h0_67, h0_68, h0_69])), (hct, .inl (chct, 80, .inl fhct)), (hs, .inl (chs, 80, .inl fhs)), (ha, .inl (cha, 80, .inl fha)), (hb9, .inl (chb9, 80, .inl fhb9)), (hbd, .inl (chbd, 12, .inl fhbd)), (hlt, .inl (chlt, 144, .inl f_24)), (hrk, .inl (chrk, 12, .inl f_46))] → va_S A s.heap H locs → lv_has ls 4 [(1, .int i_45), (0, .ref h0)] → W p l e ({ frames := 0, cells := 0, slots := 0, locals := 0 } : Room) s m ([.ref h0] : List Value).toArray below meth c H locs 0 0 QQ (F0 m 234 ls []) := by
                            intro n_43
                            induction n_43 with
                            | zero => intro i_45 f_46 H locs ls hm; exact absurd hm (Nat.not_lt_zero _)
                            | succ n_43 ih_44 =>
                              intro i_45 f_46 H locs ls hm hF_47 hF_48 hP hD hS hl
                              refine lv_iload_n hx hb dX12_orders_234 rfl (lv_at hl 0 rfl) ?_
                              refine lv_bipush (v := 12) hx hb dX12_orders_235 (by decide) ?_
                              refine lv_icmp_ge (tgt := 253) hx hb dX12_orders_237 (by decide) (fun c_49 => ?_) (fun c_49 => ?_)
                              · have k_50 : (12 : Int) ≤ (i_45).toInt := z_le c_49
                                obtain rfl : i_45 = 12 := z_eq' (show (i_45).toInt = (12 : Int) by omega)
                                refine lv_iconst (v := 0) hx hb dX12_orders_253 (by decide) ?_
                                refine lv_istore_n (lv' := [(1, .int 0), (0, .ref h0)]) hx hb dX12_orders_254 rfl hl (by decide) rfl (fun ls hl => ?_)
                                have loop_52 : ∀ (n_53 : Nat) (i_55 : Int32) (f_56 : Nat → Int32) (H : Heap) (locs : List Loc) (ls : Array Slot), (13 - (i_55).toInt).toNat < n_53 → (((0 : Int) ≤ (i_55).toInt ∧ (i_55).toInt ≤ (12 : Int))) → (k_rs (k_M2 f_24) 12 f_56) → (k_rt (k_M2 f_24) 12 (i_55).toInt f_56) → va_P (dC, dI) vwCl [(h0, .inr (12, [h0_0, h0_1, h0_2, h0_3, .int mn, .ref hs, .ref ha, .ref hb9, h0_8, .ref hct, h0_10, .ref hbd, .ref hlt, .ref hrk, h0_14, h0_15, .int v_35, h0_17, h0_18, h0_19, h0_20, h0_21, h0_22, h0_23, h0_24, h0_25, h0_26, h0_27, h0_28, h0_29, h0_30, h0_31, h0_32, h0_33, h0_34, h0_35, h0_36, h0_37, h0_38, h0_39, h0_40, h0_41, h0_42, h0_43, h0_44, h0_45, h0_46, h0_47, h0_48, h0_49, h0_50, h0_51, h0_52, h0_53, h0_54, h0_55, h0_56, h0_57, h0_58, h0_59, h0_60, h0_61, h0_62, h0_63, h0_64, h0_65, h0_66, h0_67, h0_68, h0_69])), (hct, .inl (chct, 80, .inl fhct)), (hs, .inl (chs, 80, .inl fhs)), (ha, .inl (cha, 80, .inl fha)), (hb9, .inl (chb9, 80, .inl fhb9)), (hbd, .inl (chbd, 12, .inl fhbd)), (hlt, .inl (chlt, 144, .inl f_24)), (hrk, .inl (chrk, 12, .inl f_56))] H → va_D A [(h0, .inr (12, [h0_0, h0_1, h0_2, h0_3, .int mn, .ref hs, .ref ha, .ref hb9, h0_8, .ref hct, h0_10, .ref hbd, .ref hlt, .ref hrk, h0_14, h0_15, .int v_35, h0_17, h0_18, h0_19, h0_20, h0_21, h0_22, h0_23, h0_24, h0_25, h0_26, h0_27, h0_28, h0_29, h0_30, h0_31, h0_32, h0_33, h0_34, h0_35, h0_36, h0_37, h0_38, h0_39, h0_40, h0_41, h0_42, h0_43, h0_44, h0_45, h0_46, h0_47, h0_48, h0_49, h0_50, h0_51, h0_52, h0_53, h0_54, h0_55, h0_56, h0_57, h0_58, h0_59, h0_60, h0_61, h0_62, h0_63, h0_64, h0_65, h0_66, h0_67, h0_68, h0_69])), (hct, .inl (chct, 80, .inl fhct)), (hs, .inl (chs, 80, .inl fhs)), (ha, .inl (cha, 80, .inl fha)), (hb9, .inl (chb9, 80, .inl fhb9)), (hbd, .inl (chbd, 12, .inl fhbd)), (hlt, .inl (chlt, 144, .inl f_24)), (hrk, .inl (chrk, 12, .inl f_56))] → va_S A s.heap H locs → lv_has ls 4 [(1, .int i_55), (0, .ref h0)] → W p l e ({ frames := 0, cells := 0, slots := 0, locals := 0 } : Room) s m ([.ref h0] : List Value).toArray below meth c H locs 0 0 QQ (F0 m 255 ls []) := by
                                  intro n_53
                                  induction n_53 with
                                  | zero => intro i_55 f_56 H locs ls hm; exact absurd hm (Nat.not_lt_zero _)
                                  | succ n_53 ih_54 =>
                                    intro i_55 f_56 H locs ls hm hF_57 hF_58 hF_59 hP hD hS hl
                                    refine lv_iload_n hx hb dX12_orders_255 rfl (lv_at hl 0 rfl) ?_
                                    refine lv_bipush (v := 12) hx hb dX12_orders_256 (by decide) ?_
                                    refine lv_icmp_ge (tgt := 345) hx hb dX12_orders_258 (by decide) (fun c_60 => ?_) (fun c_60 => ?_)
                                    · have k_61 : (12 : Int) ≤ (i_55).toInt := z_le c_60
                                      obtain rfl : i_55 = 12 := z_eq' (show (i_55).toInt = (12 : Int) by omega)
                                      refine z_backQ hQQ ?_
                                      have hP9 := hP
                                      have hD9 := hD
                                      have hK9 := hK.sub (tys' := []) [] rfl
                                      refine W.widen (k := 0) (n := 0) (Nat.le_of_ble_eq_true rfl) (Nat.le_of_ble_eq_true rfl) ?_
                                      exact W.vret hx hb hr (fun t ht hW => ⟨⟨(), rfl, trivial, ⟨v_35, f_24, f_56, hF_37, (show k_LT2 fhs fha fhb9 (k_iv fhct) mn.toInt fhbd f_24 from hLT), (show k_q2 f_24 f_56 v_35.toInt from (Classical.em ((v_35).toInt = 0)).elim (fun h9 => k_q2_0 hLT hF_38 (by omega) hF_58 hF_59 (by omega)) (fun h9 => k_q2_1 hF_38 h9)), by rw [ht]; exact hP9, va_K.moved hW.alike hK9, hD9⟩⟩, hS.F ht⟩) hS.2.2 dX12_orders_345
                                    · have k_63 : (12 : Int) > (i_55).toInt := z_nle c_60
                                      refine lv_aload_n hx hb dX12_orders_261 rfl (lv_at hl 1 rfl) ?_
                                      refine va_get (D := (dC, dI)) (ci := 12) (v := .int v_35) (C := RX12) (T := TX12) (N := 70) hx hb hts hiX12 hown hK hP 0 rfl rfl 16 (by decide) w__fieldLink_RX12_167_ShellHeapModel_quarrelNow_I_ (fun _ h9 => h9) rfl dX12_orders_262 ?_
                                      refine lv_if_ne (tgt := 345) hx hb dX12_orders_265 (by decide) (fun c_64 => ?_) (fun c_64 => ?_)
                                      · have k_65 : (v_35).toInt ≠ (0 : Int) := z_ne c_64
                                        refine z_backQ hQQ ?_
                                        have hP9 := hP
                                        have hD9 := hD
                                        have hK9 := hK.sub (tys' := []) [] rfl
                                        refine W.widen (k := 0) (n := 0) (Nat.le_of_ble_eq_true rfl) (Nat.le_of_ble_eq_true rfl) ?_
                                        exact W.vret hx hb hr (fun t ht hW => ⟨⟨(), rfl, trivial, ⟨v_35, f_24, f_56, hF_37, (show k_LT2 fhs fha fhb9 (k_iv fhct) mn.toInt fhbd f_24 from hLT), (show k_q2 f_24 f_56 v_35.toInt from (Classical.em ((v_35).toInt = 0)).elim (fun h9 => k_q2_0 hLT hF_38 (by omega) hF_58 hF_59 (by omega)) (fun h9 => k_q2_1 hF_38 h9)), by rw [ht]; exact hP9, va_K.moved hW.alike hK9, hD9⟩⟩, hS.F ht⟩) hS.2.2 dX12_orders_345
                                      · have k_66 : (v_35).toInt = (0 : Int) := z_eq c_64
                                        obtain rfl : v_35 = 0 := z_eq' (show (v_35).toInt = (0 : Int) by omega)
                                        have hT := k_q1_tr hLT hF_38 (by omega) (by omega)
                                        refine lv_iconst (v := 0) hx hb dX12_orders_268 (by decide) ?_
                                        refine lv_istore_n (lv' := [(2, .int 0), (1, .int i_55), (0, .ref h0)]) hx hb dX12_orders_269 rfl hl (by decide) rfl (fun ls hl => ?_)
                                        have loop_68 : ∀ (n_69 : Nat) (i_71 : Int32) (f_72 : Nat → Int32) (H : Heap) (locs : List Loc) (ls : Array Slot), (13 - (i_71).toInt).toNat < n_69 → (((0 : Int) ≤ (i_71).toInt ∧ (i_71).toInt ≤ (12 : Int))) → (k_rs (k_M2 f_24) 12 f_72) → (k_rp (k_M2 f_24) 12 f_56 (i_71).toInt f_72) → va_P (dC, dI) vwCl [(h0, .inr (12, [h0_0, h0_1, h0_2, h0_3, .int mn, .ref hs, .ref ha, .ref hb9, h0_8, .ref hct, h0_10, .ref hbd, .ref hlt, .ref hrk, h0_14, h0_15, .int 0, h0_17, h0_18, h0_19, h0_20, h0_21, h0_22, h0_23, h0_24, h0_25, h0_26, h0_27, h0_28, h0_29, h0_30, h0_31, h0_32, h0_33, h0_34, h0_35, h0_36, h0_37, h0_38, h0_39, h0_40, h0_41, h0_42, h0_43, h0_44, h0_45, h0_46, h0_47, h0_48, h0_49, h0_50, h0_51, h0_52, h0_53, h0_54, h0_55, h0_56, h0_57, h0_58, h0_59, h0_60, h0_61, h0_62, h0_63, h0_64, h0_65, h0_66, h0_67, h0_68, h0_69])), (hct, .inl (chct, 80, .inl fhct)), (hs, .inl (chs, 80, .inl fhs)), (ha, .inl (cha, 80, .inl fha)), (hb9, .inl (chb9, 80, .inl fhb9)), (hbd, .inl (chbd, 12, .inl fhbd)), (hlt, .inl (chlt, 144, .inl f_24)), (hrk, .inl (chrk, 12, .inl f_72))] H → va_D A [(h0, .inr (12, [h0_0, h0_1, h0_2, h0_3, .int mn, .ref hs, .ref ha, .ref hb9, h0_8, .ref hct, h0_10, .ref hbd, .ref hlt, .ref hrk, h0_14, h0_15, .int 0, h0_17, h0_18, h0_19, h0_20, h0_21, h0_22, h0_23, h0_24, h0_25, h0_26, h0_27, h0_28, h0_29, h0_30, h0_31, h0_32, h0_33, h0_34, h0_35, h0_36, h0_37, h0_38, h0_39, h0_40, h0_41, h0_42, h0_43, h0_44, h0_45, h0_46, h0_47, h0_48, h0_49, h0_50, h0_51, h0_52, h0_53, h0_54, h0_55, h0_56, h0_57, h0_58, h0_59, h0_60, h0_61, h0_62, h0_63, h0_64, h0_65, h0_66, h0_67, h0_68, h0_69])), (hct, .inl (chct, 80, .inl fhct)), (hs, .inl (chs, 80, .inl fhs)), (ha, .inl (cha, 80, .inl fha)), (hb9, .inl (chb9, 80, .inl fhb9)), (hbd, .inl (chbd, 12, .inl fhbd)), (hlt, .inl (chlt, 144, .inl f_24)), (hrk, .inl (chrk, 12, .inl f_72))] → va_S A s.heap H locs → lv_has ls 4 [(2, .int i_71), (1, .int i_55), (0, .ref h0)] → W p l e ({ frames := 0, cells := 0, slots := 0, locals := 0 } : Room) s m ([.ref h0] : List Value).toArray below meth c H locs 0 0 QQ (F0 m 270 ls []) := by
                                          intro n_69
                                          induction n_69 with
                                          | zero => intro i_71 f_72 H locs ls hm; exact absurd hm (Nat.not_lt_zero _)
                                          | succ n_69 ih_70 =>
                                            intro i_71 f_72 H locs ls hm hF_73 hF_74 hF_75 hP hD hS hl
                                            refine lv_iload_n hx hb dX12_orders_270 rfl (lv_at hl 0 rfl) ?_
                                            refine lv_bipush (v := 12) hx hb dX12_orders_271 (by decide) ?_
                                            refine lv_icmp_ge (tgt := 339) hx hb dX12_orders_273 (by decide) (fun c_76 => ?_) (fun c_76 => ?_)
                                            · have k_77 : (12 : Int) ≤ (i_71).toInt := z_le c_76
                                              obtain rfl : i_71 = 12 := z_eq' (show (i_71).toInt = (12 : Int) by omega)
                                              obtain ⟨z_79, ez_79⟩ : ∃ y : Int32, y = i_55 + 1 := ⟨_, rfl⟩
                                              have kz_79 : (z_79).toInt = (i_55).toInt + (1 : Int) := by rw [ez_79]; exact z_add (b := 1) rfl rfl (z_al hF_57.1 (by decide)) (z_ah hF_57.2 (by decide))
                                              refine lv_iinc (v := z_79) (lv' := [(1, .int z_79), (2, .int 12), (0, .ref h0)]) hx hb dX12_orders_339 hl (k := 1) rfl (by rw [ez_79]; rfl) (by decide) rfl (fun ls hl => ?_)
                                              refine lv_goto (tgt := 255) hx hb dX12_orders_342 (by decide) ?_
                                              exact ih_54 z_79 f_72 _ _ _ (show (13 - (z_79).toInt).toNat < n_53 by omega) (show ((0 : Int) ≤ (z_79).toInt ∧ (z_79).toInt ≤ (12 : Int)) by omega) (show k_rs (k_M2 f_24) 12 f_72 from hF_74) (show k_rt (k_M2 f_24) 12 (z_79).toInt f_72 from k_rt_s (fun x y q => k_M2_in x y q) hF_59 hF_75 (by omega) (by omega) hF_74) hP hD hS (lv_sub hl [0, 2] rfl)
                                            · have k_80 : (12 : Int) > (i_71).toInt := z_nle c_76
                                              refine lv_iconst (v := 0) hx hb dX12_orders_276 (by decide) ?_
                                              refine lv_istore_n (lv' := [(3, .int 0), (2, .int i_71), (1, .int i_55), (0, .ref h0)]) hx hb dX12_orders_277 rfl hl (by decide) rfl (fun ls hl => ?_)
                                              have loop_81 : ∀ (n_82 : Nat) (i_84 : Int32) (f_85 : Nat → Int32) (H : Heap) (locs : List Loc) (ls : Array Slot), (13 - (i_84).toInt).toNat < n_82 → (((0 : Int) ≤ (i_84).toInt ∧ (i_84).toInt ≤ (12 : Int))) → (k_rs (k_M2 f_24) 12 f_85) → (k_ri (k_M2 f_24) (i_71).toInt (i_84).toInt f_72 f_85) → va_P (dC, dI) vwCl [(h0, .inr (12, [h0_0, h0_1, h0_2, h0_3, .int mn, .ref hs, .ref ha, .ref hb9, h0_8, .ref hct, h0_10, .ref hbd, .ref hlt, .ref hrk, h0_14, h0_15, .int 0, h0_17, h0_18, h0_19, h0_20, h0_21, h0_22, h0_23, h0_24, h0_25, h0_26, h0_27, h0_28, h0_29, h0_30, h0_31, h0_32, h0_33, h0_34, h0_35, h0_36, h0_37, h0_38, h0_39, h0_40, h0_41, h0_42, h0_43, h0_44, h0_45, h0_46, h0_47, h0_48, h0_49, h0_50, h0_51, h0_52, h0_53, h0_54, h0_55, h0_56, h0_57, h0_58, h0_59, h0_60, h0_61, h0_62, h0_63, h0_64, h0_65, h0_66, h0_67, h0_68, h0_69])), (hct, .inl (chct, 80, .inl fhct)), (hs, .inl (chs, 80, .inl fhs)), (ha, .inl (cha, 80, .inl fha)), (hb9, .inl (chb9, 80, .inl fhb9)), (hbd, .inl (chbd, 12, .inl fhbd)), (hlt, .inl (chlt, 144, .inl f_24)), (hrk, .inl (chrk, 12, .inl f_85))] H → va_D A [(h0, .inr (12, [h0_0, h0_1, h0_2, h0_3, .int mn, .ref hs, .ref ha, .ref hb9, h0_8, .ref hct, h0_10, .ref hbd, .ref hlt, .ref hrk, h0_14, h0_15, .int 0, h0_17, h0_18, h0_19, h0_20, h0_21, h0_22, h0_23, h0_24, h0_25, h0_26, h0_27, h0_28, h0_29, h0_30, h0_31, h0_32, h0_33, h0_34, h0_35, h0_36, h0_37, h0_38, h0_39, h0_40, h0_41, h0_42, h0_43, h0_44, h0_45, h0_46, h0_47, h0_48, h0_49, h0_50, h0_51, h0_52, h0_53, h0_54, h0_55, h0_56, h0_57, h0_58, h0_59, h0_60, h0_61, h0_62, h0_63, h0_64, h0_65, h0_66, h0_67, h0_68, h0_69])), (hct, .inl (chct, 80, .inl fhct)), (hs, .inl (chs, 80, .inl fhs)), (ha, .inl (cha, 80, .inl fha)), (hb9, .inl (chb9, 80, .inl fhb9)), (hbd, .inl (chbd, 12, .inl fhbd)), (hlt, .inl (chlt, 144, .inl f_24)), (hrk, .inl (chrk, 12, .inl f_85))] → va_S A s.heap H locs → lv_has ls 4 [(3, .int i_84), (2, .int i_71), (1, .int i_55), (0, .ref h0)] → W p l e ({ frames := 0, cells := 0, slots := 0, locals := 0 } : Room) s m ([.ref h0] : List Value).toArray below meth c H locs 0 0 QQ (F0 m 278 ls []) := by
                                                intro n_82
                                                induction n_82 with
                                                | zero => intro i_84 f_85 H locs ls hm; exact absurd hm (Nat.not_lt_zero _)
                                                | succ n_82 ih_83 =>
                                                  intro i_84 f_85 H locs ls hm hF_86 hF_87 hF_88 hP hD hS hl
                                                  refine lv_iload_n hx hb dX12_orders_278 rfl (lv_at hl 0 rfl) ?_
                                                  refine lv_bipush (v := 12) hx hb dX12_orders_279 (by decide) ?_
                                                  refine lv_icmp_ge (tgt := 333) hx hb dX12_orders_281 (by decide) (fun c_89 => ?_) (fun c_89 => ?_)
                                                  · have k_90 : (12 : Int) ≤ (i_84).toInt := z_le c_89
                                                    obtain rfl : i_84 = 12 := z_eq' (show (i_84).toInt = (12 : Int) by omega)
                                                    obtain ⟨z_92, ez_92⟩ : ∃ y : Int32, y = i_71 + 1 := ⟨_, rfl⟩
                                                    have kz_92 : (z_92).toInt = (i_71).toInt + (1 : Int) := by rw [ez_92]; exact z_add (b := 1) rfl rfl (z_al hF_73.1 (by decide)) (z_ah hF_73.2 (by decide))
                                                    refine lv_iinc (v := z_92) (lv' := [(2, .int z_92), (3, .int 12), (1, .int i_55), (0, .ref h0)]) hx hb dX12_orders_333 hl (k := 1) rfl (by rw [ez_92]; rfl) (by decide) rfl (fun ls hl => ?_)
                                                    refine lv_goto (tgt := 270) hx hb dX12_orders_336 (by decide) ?_
                                                    exact ih_70 z_92 f_85 _ _ _ (show (13 - (z_92).toInt).toNat < n_69 by omega) (show ((0 : Int) ≤ (z_92).toInt ∧ (z_92).toInt ≤ (12 : Int)) by omega) (show k_rs (k_M2 f_24) 12 f_85 from hF_87) (show k_rp (k_M2 f_24) 12 f_56 (z_92).toInt f_85 from k_rp_s (i := i_71) hF_75 (by omega) (by omega) (k_rr_of hF_88 (by omega))) hP hD hS (lv_sub hl [0, 2, 3] rfl)
                                                  · have k_93 : (12 : Int) > (i_84).toInt := z_nle c_89
                                                    refine lv_aload_n hx hb dX12_orders_284 rfl (lv_at hl 3 rfl) ?_
                                                    refine va_get (D := (dC, dI)) (ci := 12) (v := .ref hlt) (C := RX12) (T := TX12) (N := 70) hx hb hts hiX12 hown hK hP 0 rfl rfl 12 (by decide) w__fieldLink_RX12_35_ShellHeapModel_later_Z_ (fun _ h9 => h9) rfl dX12_orders_285 ?_
                                                    refine lv_bipush (v := 12) hx hb dX12_orders_288 (by decide) ?_
                                                    refine lv_iload_n hx hb dX12_orders_290 rfl (lv_at hl 1 rfl) ?_
                                                    refine lv_imul hx hb dX12_orders_291 ?_
                                                    refine lv_topi (fun z_94 ez_94 => ?_)
                                                    have kz_94 : (z_94).toInt = (12 : Int) * (i_71).toInt := by rw [ez_94]; exact z_mul (a := (12 : Int)) (b := (i_71).toInt) rfl rfl (by omega) (by omega)
                                                    refine lv_iload_n hx hb dX12_orders_292 rfl (lv_at hl 0 rfl) ?_
                                                    refine lv_iadd hx hb dX12_orders_293 ?_
                                                    refine lv_topi (fun z_95 ez_95 => ?_)
                                                    have kz_95 : (z_95).toInt = (z_94).toInt + (i_84).toInt := by rw [ez_95]; exact z_add (a := (z_94).toInt) (b := (i_84).toInt) rfl rfl (by omega) (by omega)
                                                    refine va_zald hx hb hK hP 6 5 rfl rfl (z_vpin (by omega) (by omega)) dX12_orders_294 ?_
                                                    refine lv_topi (fun z_96 ez_96 => ?_)
                                                    have kxz_96 : (z_96).toInt = (f_24 (z_95 : Int32).toNatClampNeg).toInt := by rw [ez_96]
                                                    refine lv_if_eq (tgt := 327) hx hb dX12_orders_295 (by decide) (fun c_97 => ?_) (fun c_97 => ?_)
                                                    · have k_98 : (z_96).toInt = (0 : Int) := z_eq c_97
                                                      obtain rfl : z_96 = 0 := z_eq' (show (z_96).toInt = (0 : Int) by omega)
                                                      obtain ⟨z_100, ez_100⟩ : ∃ y : Int32, y = i_84 + 1 := ⟨_, rfl⟩
                                                      have kz_100 : (z_100).toInt = (i_84).toInt + (1 : Int) := by rw [ez_100]; exact z_add (b := 1) rfl rfl (z_al hF_86.1 (by decide)) (z_ah hF_86.2 (by decide))
                                                      refine lv_iinc (v := z_100) (lv' := [(3, .int z_100), (2, .int i_71), (1, .int i_55), (0, .ref h0)]) hx hb dX12_orders_327 hl (k := 0) rfl (by rw [ez_100]; rfl) (by decide) rfl (fun ls hl => ?_)
                                                      refine lv_goto (tgt := 278) hx hb dX12_orders_330 (by decide) ?_
                                                      exact ih_83 z_100 f_85 _ _ _ (show (13 - (z_100).toInt).toNat < n_82 by omega) (show ((0 : Int) ≤ (z_100).toInt ∧ (z_100).toInt ≤ (12 : Int)) by omega) (show k_rs (k_M2 f_24) 12 f_85 from hF_87) (show k_ri (k_M2 f_24) (i_71).toInt (z_100).toInt f_72 f_85 from k_ri_n (i := i_84) hF_88 (by omega) (by omega) (fun h9 => absurd ((k_M2i (a := (i_71).toInt) (b := (i_84).toInt) (d := z_95) ⟨by omega, by omega⟩ ⟨by omega, by omega⟩ (by omega)).mp h9) (by omega))) hP hD hS (lv_sub hl [0, 1, 2, 3] rfl)
                                                    · have k_101 : (z_96).toInt ≠ (0 : Int) := z_ne c_97
                                                      refine lv_aload_n hx hb dX12_orders_298 rfl (lv_at hl 3 rfl) ?_
                                                      refine va_get (D := (dC, dI)) (ci := 12) (v := .ref hrk) (C := RX12) (T := TX12) (N := 70) hx hb hts hiX12 hown hK hP 0 rfl rfl 13 (by decide) w__fieldLink_RX12_38_ShellHeapModel_rank_I_ (fun _ h9 => h9) rfl dX12_orders_299 ?_
                                                      refine lv_iload_n hx hb dX12_orders_302 rfl (lv_at hl 1 rfl) ?_
                                                      refine va_iald hx hb hK hP 7 6 rfl rfl (z_vpin (by omega) (by omega)) dX12_orders_303 ?_
                                                      refine lv_topi (fun z_102 ez_102 => ?_)
                                                      have kxz_102 : (z_102).toInt = (f_85 (i_71 : Int32).toNatClampNeg).toInt := by rw [ez_102]
                                                      have krz_102 := k_rs_b k_M2_in hT hF_87 (by omega) ⟨by omega, by omega⟩ ez_102
                                                      refine lv_aload_n hx hb dX12_orders_304 rfl (lv_at hl 3 rfl) ?_
                                                      refine va_get (D := (dC, dI)) (ci := 12) (v := .ref hrk) (C := RX12) (T := TX12) (N := 70) hx hb hts hiX12 hown hK hP 0 rfl rfl 13 (by decide) w__fieldLink_RX12_38_ShellHeapModel_rank_I_ (fun _ h9 => h9) rfl dX12_orders_305 ?_
                                                      refine lv_iload_n hx hb dX12_orders_308 rfl (lv_at hl 0 rfl) ?_
                                                      refine va_iald hx hb hK hP 7 6 rfl rfl (z_vpin (by omega) (by omega)) dX12_orders_309 ?_
                                                      refine lv_topi (fun z_103 ez_103 => ?_)
                                                      have kxz_103 : (z_103).toInt = (f_85 (i_84 : Int32).toNatClampNeg).toInt := by rw [ez_103]
                                                      have krz_103 := k_rs_b k_M2_in hT hF_87 (by omega) ⟨by omega, by omega⟩ ez_103
                                                      refine lv_icmp_gt (tgt := 327) hx hb dX12_orders_310 (by decide) (fun c_104 => ?_) (fun c_104 => ?_)
                                                      · have k_105 : (z_103).toInt < (z_102).toInt := z_lt c_104
                                                        obtain ⟨z_106, ez_106⟩ : ∃ y : Int32, y = i_84 + 1 := ⟨_, rfl⟩
                                                        have kz_106 : (z_106).toInt = (i_84).toInt + (1 : Int) := by rw [ez_106]; exact z_add (b := 1) rfl rfl (z_al hF_86.1 (by decide)) (z_ah hF_86.2 (by decide))
                                                        refine lv_iinc (v := z_106) (lv' := [(3, .int z_106), (2, .int i_71), (1, .int i_55), (0, .ref h0)]) hx hb dX12_orders_327 hl (k := 0) rfl (by rw [ez_106]; rfl) (by decide) rfl (fun ls hl => ?_)
                                                        refine lv_goto (tgt := 278) hx hb dX12_orders_330 (by decide) ?_
                                                        exact ih_83 z_106 f_85 _ _ _ (show (13 - (z_106).toInt).toNat < n_82 by omega) (show ((0 : Int) ≤ (z_106).toInt ∧ (z_106).toInt ≤ (12 : Int)) by omega) (show k_rs (k_M2 f_24) 12 f_85 from hF_87) (show k_ri (k_M2 f_24) (i_71).toInt (z_106).toInt f_72 f_85 from k_ri_x (i := i_84) (d := i_71) hT hF_88 (by omega) (by omega) (by omega) ((k_M2i (a := (i_71).toInt) (b := (i_84).toInt) (d := z_95) ⟨by omega, by omega⟩ ⟨by omega, by omega⟩ (by omega)).mpr (by omega)) (by omega)) hP hD hS (lv_sub hl [0, 1, 2, 3] rfl)
                                                      · have k_107 : (z_103).toInt ≥ (z_102).toInt := z_nlt c_104
                                                        refine lv_aload_n hx hb dX12_orders_313 rfl (lv_at hl 3 rfl) ?_
                                                        refine va_get (D := (dC, dI)) (ci := 12) (v := .ref hrk) (C := RX12) (T := TX12) (N := 70) hx hb hts hiX12 hown hK hP 0 rfl rfl 13 (by decide) w__fieldLink_RX12_38_ShellHeapModel_rank_I_ (fun _ h9 => h9) rfl dX12_orders_314 ?_
                                                        refine lv_iload_n hx hb dX12_orders_317 rfl (lv_at hl 1 rfl) ?_
                                                        refine lv_aload_n hx hb dX12_orders_318 rfl (lv_at hl 3 rfl) ?_
                                                        refine va_get (D := (dC, dI)) (ci := 12) (v := .ref hrk) (C := RX12) (T := TX12) (N := 70) hx hb hts hiX12 hown hK hP 0 rfl rfl 13 (by decide) w__fieldLink_RX12_38_ShellHeapModel_rank_I_ (fun _ h9 => h9) rfl dX12_orders_319 ?_
                                                        refine lv_iload_n hx hb dX12_orders_322 rfl (lv_at hl 0 rfl) ?_
                                                        refine va_iald hx hb hK hP 7 6 rfl rfl (z_vpin (by omega) (by omega)) dX12_orders_323 ?_
                                                        refine lv_topi (fun z_108 ez_108 => ?_)
                                                        have kxz_108 : (z_108).toInt = (f_85 (i_84 : Int32).toNatClampNeg).toInt := by rw [ez_108]
                                                        have krz_108 := k_rs_b k_M2_in hT hF_87 (by omega) ⟨by omega, by omega⟩ ez_108
                                                        refine lv_iconst (v := 1) hx hb dX12_orders_324 (by decide) ?_
                                                        refine lv_iadd hx hb dX12_orders_325 ?_
                                                        refine lv_topi (fun z_109 ez_109 => ?_)
                                                        have kz_109 : (z_109).toInt = (z_108).toInt + (1 : Int) := by rw [ez_109]; exact z_add (a := (z_108).toInt) (b := (1 : Int)) rfl rfl (by omega) (by omega)
                                                        refine va_iast hx hb hK hP hD hS 7 6 rfl rfl (z_vpin (by omega) (by omega)) dX12_orders_326 (fun H_110 locs hP hD hS => ?_)
                                                        obtain ⟨hP, hD⟩ := z_s_7 hP hD
                                                        obtain ⟨z_112, ez_112⟩ : ∃ y : Int32, y = i_84 + 1 := ⟨_, rfl⟩
                                                        have kz_112 : (z_112).toInt = (i_84).toInt + (1 : Int) := by rw [ez_112]; exact z_add (b := 1) rfl rfl (z_al hF_86.1 (by decide)) (z_ah hF_86.2 (by decide))
                                                        refine lv_iinc (v := z_112) (lv' := [(3, .int z_112), (2, .int i_71), (1, .int i_55), (0, .ref h0)]) hx hb dX12_orders_327 hl (k := 0) rfl (by rw [ez_112]; rfl) (by decide) rfl (fun ls hl => ?_)
                                                        refine lv_goto (tgt := 278) hx hb dX12_orders_330 (by decide) ?_
                                                        exact ih_83 z_112 (upd f_85 (i_71 : Int32).toNatClampNeg z_109) _ _ _ (show (13 - (z_112).toInt).toNat < n_82 by omega) (show ((0 : Int) ≤ (z_112).toInt ∧ (z_112).toInt ≤ (12 : Int)) by omega) (show k_rs (k_M2 f_24) 12 (upd f_85 (i_71 : Int32).toNatClampNeg z_109) from k_rs_y (i := i_84) (d := i_71) hF_87 ⟨by omega, by omega⟩ ⟨by omega, by omega⟩ ((k_M2i (a := (i_71).toInt) (b := (i_84).toInt) (d := z_95) ⟨by omega, by omega⟩ ⟨by omega, by omega⟩ (by omega)).mpr (by omega)) (by omega)) (show k_ri (k_M2 f_24) (i_71).toInt (z_112).toInt f_72 (upd f_85 (i_71 : Int32).toNatClampNeg z_109) from k_ri_y (i := i_84) (d := i_71) hT hF_88 (by omega) (by omega) (by omega) ((k_M2i (a := (i_71).toInt) (b := (i_84).toInt) (d := z_95) ⟨by omega, by omega⟩ ⟨by omega, by omega⟩ (by omega)).mpr (by omega)) (by omega)) hP hD hS (lv_sub hl [0, 1, 2, 3] rfl)
                                              exact loop_81 _ 0 f_72 _ _ _ (Nat.lt_succ_self _) (show ((0 : Int) ≤ (0 : Int) ∧ (0 : Int) ≤ (12 : Int)) by omega) (show k_rs (k_M2 f_24) 12 f_72 from hF_74) (show k_ri (k_M2 f_24) (i_71).toInt (0 : Int) f_72 f_72 from k_ri_0) hP hD hS hl
                                        exact loop_68 _ 0 f_56 _ _ _ (Nat.lt_succ_self _) (show ((0 : Int) ≤ (0 : Int) ∧ (0 : Int) ≤ (12 : Int)) by omega) (show k_rs (k_M2 f_24) 12 f_56 from hF_58) (show k_rp (k_M2 f_24) 12 f_56 (0 : Int) f_56 from k_rp_0) hP hD hS hl
                                exact loop_52 _ 0 f_46 _ _ _ (Nat.lt_succ_self _) (show ((0 : Int) ≤ (0 : Int) ∧ (0 : Int) ≤ (12 : Int)) by omega) (show k_rs (k_M2 f_24) 12 f_46 from k_z_rs hF_48 (by omega)) (show k_rt (k_M2 f_24) 12 (0 : Int) f_46 from k_rt_0 (k_z_rs hF_48 (by omega))) hP hD hS hl
                              · have k_113 : (12 : Int) > (i_45).toInt := z_nle c_49
                                refine lv_aload_n hx hb dX12_orders_240 rfl (lv_at hl 1 rfl) ?_
                                refine va_get (D := (dC, dI)) (ci := 12) (v := .ref hrk) (C := RX12) (T := TX12) (N := 70) hx hb hts hiX12 hown hK hP 0 rfl rfl 13 (by decide) w__fieldLink_RX12_38_ShellHeapModel_rank_I_ (fun _ h9 => h9) rfl dX12_orders_241 ?_
                                refine lv_iload_n hx hb dX12_orders_244 rfl (lv_at hl 0 rfl) ?_
                                refine lv_iconst (v := 0) hx hb dX12_orders_245 (by decide) ?_
                                refine va_iast hx hb hK hP hD hS 7 6 rfl rfl (z_vpin (by omega) (by omega)) dX12_orders_246 (fun H_114 locs hP hD hS => ?_)
                                obtain ⟨hP, hD⟩ := z_s_7 hP hD
                                obtain ⟨z_116, ez_116⟩ : ∃ y : Int32, y = i_45 + 1 := ⟨_, rfl⟩
                                have kz_116 : (z_116).toInt = (i_45).toInt + (1 : Int) := by rw [ez_116]; exact z_add (b := 1) rfl rfl (z_al hF_47.1 (by decide)) (z_ah hF_47.2 (by decide))
                                refine lv_iinc (v := z_116) (lv' := [(1, .int z_116), (0, .ref h0)]) hx hb dX12_orders_247 hl (k := 0) rfl (by rw [ez_116]; rfl) (by decide) rfl (fun ls hl => ?_)
                                refine lv_goto (tgt := 234) hx hb dX12_orders_250 (by decide) ?_
                                exact ih_44 z_116 (upd f_46 (i_45 : Int32).toNatClampNeg 0) _ _ _ (show (13 - (z_116).toInt).toNat < n_43 by omega) (show ((0 : Int) ≤ (z_116).toInt ∧ (z_116).toInt ≤ (12 : Int)) by omega) (show k_z (z_116).toInt (upd f_46 (i_45 : Int32).toNatClampNeg 0) from k_z_s (i := i_45) hF_48 (by omega) (by decide) (by omega)) hP hD hS (lv_sub hl [0, 1] rfl)
                          exact loop_42 _ 0 fhrk _ _ _ (Nat.lt_succ_self _) (show ((0 : Int) ≤ (0 : Int) ∧ (0 : Int) ≤ (12 : Int)) by omega) (show k_z (0 : Int) fhrk from k_z_0 (by decide)) hP hD hS hl
                        · have k_117 : (12 : Int) > (i_34).toInt := z_nle c_39
                          refine lv_aload_n hx hb dX12_orders_202 rfl (lv_at hl 1 rfl) ?_
                          refine lv_aload_n hx hb dX12_orders_203 rfl (lv_at hl 1 rfl) ?_
                          refine va_get (D := (dC, dI)) (ci := 12) (v := .ref hlt) (C := RX12) (T := TX12) (N := 70) hx hb hts hiX12 hown hK hP 0 rfl rfl 12 (by decide) w__fieldLink_RX12_35_ShellHeapModel_later_Z_ (fun _ h9 => h9) rfl dX12_orders_204 ?_
                          refine lv_bipush (v := 13) hx hb dX12_orders_207 (by decide) ?_
                          refine lv_iload_n hx hb dX12_orders_209 rfl (lv_at hl 0 rfl) ?_
                          refine lv_imul hx hb dX12_orders_210 ?_
                          refine lv_topi (fun z_118 ez_118 => ?_)
                          have kz_118 : (z_118).toInt = (13 : Int) * (i_34).toInt := by rw [ez_118]; exact z_mul (a := (13 : Int)) (b := (i_34).toInt) rfl rfl (by omega) (by omega)
                          refine va_zald hx hb hK hP 6 5 rfl rfl (z_vpin (by omega) (by omega)) dX12_orders_211 ?_
                          refine lv_topi (fun z_119 ez_119 => ?_)
                          have kxz_119 : (z_119).toInt = (f_24 (z_118 : Int32).toNatClampNeg).toInt := by rw [ez_119]
                          refine lv_if_eq (tgt := 219) hx hb dX12_orders_212 (by decide) (fun c_120 => ?_) (fun c_120 => ?_)
                          · have k_121 : (z_119).toInt = (0 : Int) := z_eq c_120
                            obtain rfl : z_119 = 0 := z_eq' (show (z_119).toInt = (0 : Int) by omega)
                            refine lv_aload_n hx hb dX12_orders_219 rfl (lv_at hl 1 rfl) ?_
                            refine va_get (D := (dC, dI)) (ci := 12) (v := .int v_35) (C := RX12) (T := TX12) (N := 70) hx hb hts hiX12 hown hK hP 0 rfl rfl 16 (by decide) w__fieldLink_RX12_167_ShellHeapModel_quarrelNow_I_ (fun _ h9 => h9) rfl dX12_orders_220 ?_
                            refine va_put (D := (dC, dI)) (ci := 12) (v := .int v_35) (ty := .int) (C := RX12) (T := TX12) (N := 70) hx hb hts hiX12 tyX12 tyX12_ok nmX12 hown hK hP hD hS 0 rfl rfl 16 (by decide) w__fieldLink_RX12_167_ShellHeapModel_quarrelNow_I_ (fun _ h9 => h9) rfl (by decide +kernel) rfl rfl (Nat.le_of_ble_eq_true rfl) dX12_orders_223 (fun H_123 locs hP hD hS => ?_)
                            obtain ⟨hP, hD⟩ := z_s_0_16 hP hD
                            obtain ⟨z_124, ez_124⟩ : ∃ y : Int32, y = i_34 + 1 := ⟨_, rfl⟩
                            have kz_124 : (z_124).toInt = (i_34).toInt + (1 : Int) := by rw [ez_124]; exact z_add (b := 1) rfl rfl (z_al hF_36.1 (by decide)) (z_ah hF_36.2 (by decide))
                            refine lv_iinc (v := z_124) (lv' := [(1, .int z_124), (0, .ref h0)]) hx hb dX12_orders_226 hl (k := 0) rfl (by rw [ez_124]; rfl) (by decide) rfl (fun ls hl => ?_)
                            refine lv_goto (tgt := 196) hx hb dX12_orders_229 (by decide) ?_
                            exact ih_33 z_124 v_35 _ _ _ (show (13 - (z_124).toInt).toNat < n_32 by omega) (show ((0 : Int) ≤ (z_124).toInt ∧ (z_124).toInt ≤ (12 : Int)) by omega) (show ((0 : Int) ≤ (v_35).toInt ∧ (v_35).toInt ≤ (2 : Int)) by omega) (show k_q1 (z_124).toInt f_24 (v_35).toInt from k_q1_n (i := i_34) (d := z_118) hF_38 ⟨by omega, by omega⟩ (by omega) (by omega) (by omega)) hP hD hS (lv_sub hl [0, 1] rfl)
                          · have k_125 : (z_119).toInt ≠ (0 : Int) := z_ne c_120
                            refine lv_iconst (v := 1) hx hb dX12_orders_215 (by decide) ?_
                            refine lv_goto (tgt := 223) hx hb dX12_orders_216 (by decide) ?_
                            refine va_put (D := (dC, dI)) (ci := 12) (v := .int 1) (ty := .int) (C := RX12) (T := TX12) (N := 70) hx hb hts hiX12 tyX12 tyX12_ok nmX12 hown hK hP hD hS 0 rfl rfl 16 (by decide) w__fieldLink_RX12_167_ShellHeapModel_quarrelNow_I_ (fun _ h9 => h9) rfl (by decide +kernel) rfl rfl (Nat.le_of_ble_eq_true rfl) dX12_orders_223 (fun H_126 locs hP hD hS => ?_)
                            obtain ⟨hP, hD⟩ := z_s_0_16 hP hD
                            obtain ⟨z_127, ez_127⟩ : ∃ y : Int32, y = i_34 + 1 := ⟨_, rfl⟩
                            have kz_127 : (z_127).toInt = (i_34).toInt + (1 : Int) := by rw [ez_127]; exact z_add (b := 1) rfl rfl (z_al hF_36.1 (by decide)) (z_ah hF_36.2 (by decide))
                            refine lv_iinc (v := z_127) (lv' := [(1, .int z_127), (0, .ref h0)]) hx hb dX12_orders_226 hl (k := 0) rfl (by rw [ez_127]; rfl) (by decide) rfl (fun ls hl => ?_)
                            refine lv_goto (tgt := 196) hx hb dX12_orders_229 (by decide) ?_
                            exact ih_33 z_127 1 _ _ _ (show (13 - (z_127).toInt).toNat < n_32 by omega) (show ((0 : Int) ≤ (z_127).toInt ∧ (z_127).toInt ≤ (12 : Int)) by omega) (show ((0 : Int) ≤ (1 : Int) ∧ (1 : Int) ≤ (2 : Int)) by omega) (show k_q1 (z_127).toInt f_24 (1 : Int) from k_q1_y (i := i_34) (d := z_118) ⟨by omega, by omega⟩ (by omega) (by omega) rfl) hP hD hS (lv_sub hl [0, 1] rfl)
                    exact loop_31 _ 0 0 _ _ _ (Nat.lt_succ_self _) (show ((0 : Int) ≤ (0 : Int) ∧ (0 : Int) ≤ (12 : Int)) by omega) (show ((0 : Int) ≤ (0 : Int) ∧ (0 : Int) ≤ (2 : Int)) by omega) (show k_q1 (0 : Int) f_24 (0 : Int) from k_q1_0) hP hD hS hl
                  · have k_128 : (12 : Int) > (i_23).toInt := z_nle c_27
                    obtain ⟨l00, hl00⟩ : ∃ f : Nat → Int32, f = f_24 := ⟨_, rfl⟩
                    have hW_129 : k_W (k_Ei fhs fha fhb9 (k_c (mn).toInt (k_iv fhct)) (mn).toInt fhbd) (i_23).toInt (k_M2 l00) := by rw [hl00]; exact hF_26
                    refine lv_iconst (v := 0) hx hb dX12_orders_97 (by decide) ?_
                    refine lv_istore_n (lv' := [(2, .int 0), (1, .int i_23), (0, .ref h0)]) hx hb dX12_orders_98 rfl hl (by decide) rfl (fun ls hl => ?_)
                    have loop_130 : ∀ (n_131 : Nat) (i_133 : Int32) (f_134 : Nat → Int32) (H : Heap) (locs : List Loc) (ls : Array Slot), (13 - (i_133).toInt).toNat < n_131 → (((0 : Int) ≤ (i_133).toInt ∧ (i_133).toInt ≤ (12 : Int))) → (k_w2 (i_23).toInt (i_133).toInt 0 l00 f_134) → va_P (dC, dI) vwCl [(h0, .inr (12, [h0_0, h0_1, h0_2, h0_3, .int mn, .ref hs, .ref ha, .ref hb9, h0_8, .ref hct, h0_10, .ref hbd, .ref hlt, .ref hrk, h0_14, h0_15, .int mq, h0_17, h0_18, h0_19, h0_20, h0_21, h0_22, h0_23, h0_24, h0_25, h0_26, h0_27, h0_28, h0_29, h0_30, h0_31, h0_32, h0_33, h0_34, h0_35, h0_36, h0_37, h0_38, h0_39, h0_40, h0_41, h0_42, h0_43, h0_44, h0_45, h0_46, h0_47, h0_48, h0_49, h0_50, h0_51, h0_52, h0_53, h0_54, h0_55, h0_56, h0_57, h0_58, h0_59, h0_60, h0_61, h0_62, h0_63, h0_64, h0_65, h0_66, h0_67, h0_68, h0_69])), (hct, .inl (chct, 80, .inl fhct)), (hs, .inl (chs, 80, .inl fhs)), (ha, .inl (cha, 80, .inl fha)), (hb9, .inl (chb9, 80, .inl fhb9)), (hbd, .inl (chbd, 12, .inl fhbd)), (hlt, .inl (chlt, 144, .inl f_134)), (hrk, .inl (chrk, 12, .inl fhrk))] H → va_D A [(h0, .inr (12, [h0_0, h0_1, h0_2, h0_3, .int mn, .ref hs, .ref ha, .ref hb9, h0_8, .ref hct, h0_10, .ref hbd, .ref hlt, .ref hrk, h0_14, h0_15, .int mq, h0_17, h0_18, h0_19, h0_20, h0_21, h0_22, h0_23, h0_24, h0_25, h0_26, h0_27, h0_28, h0_29, h0_30, h0_31, h0_32, h0_33, h0_34, h0_35, h0_36, h0_37, h0_38, h0_39, h0_40, h0_41, h0_42, h0_43, h0_44, h0_45, h0_46, h0_47, h0_48, h0_49, h0_50, h0_51, h0_52, h0_53, h0_54, h0_55, h0_56, h0_57, h0_58, h0_59, h0_60, h0_61, h0_62, h0_63, h0_64, h0_65, h0_66, h0_67, h0_68, h0_69])), (hct, .inl (chct, 80, .inl fhct)), (hs, .inl (chs, 80, .inl fhs)), (ha, .inl (cha, 80, .inl fha)), (hb9, .inl (chb9, 80, .inl fhb9)), (hbd, .inl (chbd, 12, .inl fhbd)), (hlt, .inl (chlt, 144, .inl f_134)), (hrk, .inl (chrk, 12, .inl fhrk))] → va_S A s.heap H locs → lv_has ls 4 [(2, .int i_133), (1, .int i_23), (0, .ref h0)] → W p l e ({ frames := 0, cells := 0, slots := 0, locals := 0 } : Room) s m ([.ref h0] : List Value).toArray below meth c H locs 0 0 QQ (F0 m 99 ls []) := by
                      intro n_131
                      induction n_131 with
                      | zero => intro i_133 f_134 H locs ls hm; exact absurd hm (Nat.not_lt_zero _)
                      | succ n_131 ih_132 =>
                        intro i_133 f_134 H locs ls hm hF_135 hF_136 hP hD hS hl
                        refine lv_iload_n hx hb dX12_orders_99 rfl (lv_at hl 0 rfl) ?_
                        refine lv_bipush (v := 12) hx hb dX12_orders_100 (by decide) ?_
                        refine lv_icmp_ge (tgt := 183) hx hb dX12_orders_102 (by decide) (fun c_137 => ?_) (fun c_137 => ?_)
                        · have k_138 : (12 : Int) ≤ (i_133).toInt := z_le c_137
                          obtain rfl : i_133 = 12 := z_eq' (show (i_133).toInt = (12 : Int) by omega)
                          obtain ⟨z_140, ez_140⟩ : ∃ y : Int32, y = i_23 + 1 := ⟨_, rfl⟩
                          have kz_140 : (z_140).toInt = (i_23).toInt + (1 : Int) := by rw [ez_140]; exact z_add (b := 1) rfl rfl (z_al hF_25.1 (by decide)) (z_ah hF_25.2 (by decide))
                          refine lv_iinc (v := z_140) (lv' := [(1, .int z_140), (2, .int 12), (0, .ref h0)]) hx hb dX12_orders_183 hl (k := 1) rfl (by rw [ez_140]; rfl) (by decide) rfl (fun ls hl => ?_)
                          refine lv_goto (tgt := 91) hx hb dX12_orders_186 (by decide) ?_
                          exact ih_22 z_140 f_134 _ _ _ (show (13 - (z_140).toInt).toNat < n_21 by omega) (show ((0 : Int) ≤ (z_140).toInt ∧ (z_140).toInt ≤ (12 : Int)) by omega) (show k_W (k_Ei fhs fha fhb9 (k_c (mn).toInt (k_iv fhct)) (mn).toInt fhbd) (z_140).toInt (k_M2 f_134) from k_w2_W hW_129 (hF_136) (by omega) (by omega)) hP hD hS (lv_sub hl [0, 2] rfl)
                        · have k_141 : (12 : Int) > (i_133).toInt := z_nle c_137
                          refine lv_iconst (v := 0) hx hb dX12_orders_105 (by decide) ?_
                          refine lv_istore_n (lv' := [(3, .int 0), (2, .int i_133), (1, .int i_23), (0, .ref h0)]) hx hb dX12_orders_106 rfl hl (by decide) rfl (fun ls hl => ?_)
                          have loop_142 : ∀ (n_143 : Nat) (i_145 : Int32) (f_146 : Nat → Int32) (H : Heap) (locs : List Loc) (ls : Array Slot), (13 - (i_145).toInt).toNat < n_143 → (((0 : Int) ≤ (i_145).toInt ∧ (i_145).toInt ≤ (12 : Int))) → (k_w2 (i_23).toInt (i_133).toInt (i_145).toInt l00 f_146) → va_P (dC, dI) vwCl [(h0, .inr (12, [h0_0, h0_1, h0_2, h0_3, .int mn, .ref hs, .ref ha, .ref hb9, h0_8, .ref hct, h0_10, .ref hbd, .ref hlt, .ref hrk, h0_14, h0_15, .int mq, h0_17, h0_18, h0_19, h0_20, h0_21, h0_22, h0_23, h0_24, h0_25, h0_26, h0_27, h0_28, h0_29, h0_30, h0_31, h0_32, h0_33, h0_34, h0_35, h0_36, h0_37, h0_38, h0_39, h0_40, h0_41, h0_42, h0_43, h0_44, h0_45, h0_46, h0_47, h0_48, h0_49, h0_50, h0_51, h0_52, h0_53, h0_54, h0_55, h0_56, h0_57, h0_58, h0_59, h0_60, h0_61, h0_62, h0_63, h0_64, h0_65, h0_66, h0_67, h0_68, h0_69])), (hct, .inl (chct, 80, .inl fhct)), (hs, .inl (chs, 80, .inl fhs)), (ha, .inl (cha, 80, .inl fha)), (hb9, .inl (chb9, 80, .inl fhb9)), (hbd, .inl (chbd, 12, .inl fhbd)), (hlt, .inl (chlt, 144, .inl f_146)), (hrk, .inl (chrk, 12, .inl fhrk))] H → va_D A [(h0, .inr (12, [h0_0, h0_1, h0_2, h0_3, .int mn, .ref hs, .ref ha, .ref hb9, h0_8, .ref hct, h0_10, .ref hbd, .ref hlt, .ref hrk, h0_14, h0_15, .int mq, h0_17, h0_18, h0_19, h0_20, h0_21, h0_22, h0_23, h0_24, h0_25, h0_26, h0_27, h0_28, h0_29, h0_30, h0_31, h0_32, h0_33, h0_34, h0_35, h0_36, h0_37, h0_38, h0_39, h0_40, h0_41, h0_42, h0_43, h0_44, h0_45, h0_46, h0_47, h0_48, h0_49, h0_50, h0_51, h0_52, h0_53, h0_54, h0_55, h0_56, h0_57, h0_58, h0_59, h0_60, h0_61, h0_62, h0_63, h0_64, h0_65, h0_66, h0_67, h0_68, h0_69])), (hct, .inl (chct, 80, .inl fhct)), (hs, .inl (chs, 80, .inl fhs)), (ha, .inl (cha, 80, .inl fha)), (hb9, .inl (chb9, 80, .inl fhb9)), (hbd, .inl (chbd, 12, .inl fhbd)), (hlt, .inl (chlt, 144, .inl f_146)), (hrk, .inl (chrk, 12, .inl fhrk))] → va_S A s.heap H locs → lv_has ls 4 [(3, .int i_145), (2, .int i_133), (1, .int i_23), (0, .ref h0)] → W p l e ({ frames := 0, cells := 0, slots := 0, locals := 0 } : Room) s m ([.ref h0] : List Value).toArray below meth c H locs 0 0 QQ (F0 m 107 ls []) := by
                            intro n_143
                            induction n_143 with
                            | zero => intro i_145 f_146 H locs ls hm; exact absurd hm (Nat.not_lt_zero _)
                            | succ n_143 ih_144 =>
                              intro i_145 f_146 H locs ls hm hF_147 hF_148 hP hD hS hl
                              refine lv_iload_n hx hb dX12_orders_107 rfl (lv_at hl 0 rfl) ?_
                              refine lv_bipush (v := 12) hx hb dX12_orders_108 (by decide) ?_
                              refine lv_icmp_ge (tgt := 177) hx hb dX12_orders_110 (by decide) (fun c_149 => ?_) (fun c_149 => ?_)
                              · have k_150 : (12 : Int) ≤ (i_145).toInt := z_le c_149
                                obtain rfl : i_145 = 12 := z_eq' (show (i_145).toInt = (12 : Int) by omega)
                                obtain ⟨z_152, ez_152⟩ : ∃ y : Int32, y = i_133 + 1 := ⟨_, rfl⟩
                                have kz_152 : (z_152).toInt = (i_133).toInt + (1 : Int) := by rw [ez_152]; exact z_add (b := 1) rfl rfl (z_al hF_135.1 (by decide)) (z_ah hF_135.2 (by decide))
                                refine lv_iinc (v := z_152) (lv' := [(2, .int z_152), (3, .int 12), (1, .int i_23), (0, .ref h0)]) hx hb dX12_orders_177 hl (k := 1) rfl (by rw [ez_152]; rfl) (by decide) rfl (fun ls hl => ?_)
                                refine lv_goto (tgt := 99) hx hb dX12_orders_180 (by decide) ?_
                                exact ih_132 z_152 f_146 _ _ _ (show (13 - (z_152).toInt).toNat < n_131 by omega) (show ((0 : Int) ≤ (z_152).toInt ∧ (z_152).toInt ≤ (12 : Int)) by omega) (show k_w2 (i_23).toInt (z_152).toInt 0 l00 f_146 from k_w2_e hF_148 (by omega) (by omega)) hP hD hS (lv_sub hl [0, 2, 3] rfl)
                              · have k_153 : (12 : Int) > (i_145).toInt := z_nle c_149
                                refine lv_aload_n hx hb dX12_orders_113 rfl (lv_at hl 3 rfl) ?_
                                refine va_get (D := (dC, dI)) (ci := 12) (v := .ref hlt) (C := RX12) (T := TX12) (N := 70) hx hb hts hiX12 hown hK hP 0 rfl rfl 12 (by decide) w__fieldLink_RX12_35_ShellHeapModel_later_Z_ (fun _ h9 => h9) rfl dX12_orders_114 ?_
                                refine lv_bipush (v := 12) hx hb dX12_orders_117 (by decide) ?_
                                refine lv_iload_n hx hb dX12_orders_119 rfl (lv_at hl 1 rfl) ?_
                                refine lv_imul hx hb dX12_orders_120 ?_
                                refine lv_topi (fun z_154 ez_154 => ?_)
                                have kz_154 : (z_154).toInt = (12 : Int) * (i_133).toInt := by rw [ez_154]; exact z_mul (a := (12 : Int)) (b := (i_133).toInt) rfl rfl (by omega) (by omega)
                                refine lv_iload_n hx hb dX12_orders_121 rfl (lv_at hl 0 rfl) ?_
                                refine lv_iadd hx hb dX12_orders_122 ?_
                                refine lv_topi (fun z_155 ez_155 => ?_)
                                have kz_155 : (z_155).toInt = (z_154).toInt + (i_145).toInt := by rw [ez_155]; exact z_add (a := (z_154).toInt) (b := (i_145).toInt) rfl rfl (by omega) (by omega)
                                refine lv_aload_n hx hb dX12_orders_123 rfl (lv_at hl 3 rfl) ?_
                                refine va_get (D := (dC, dI)) (ci := 12) (v := .ref hlt) (C := RX12) (T := TX12) (N := 70) hx hb hts hiX12 hown hK hP 0 rfl rfl 12 (by decide) w__fieldLink_RX12_35_ShellHeapModel_later_Z_ (fun _ h9 => h9) rfl dX12_orders_124 ?_
                                refine lv_bipush (v := 12) hx hb dX12_orders_127 (by decide) ?_
                                refine lv_iload_n hx hb dX12_orders_129 rfl (lv_at hl 1 rfl) ?_
                                refine lv_imul hx hb dX12_orders_130 ?_
                                refine lv_topi (fun z_156 ez_156 => ?_)
                                have kz_156 : (z_156).toInt = (12 : Int) * (i_133).toInt := by rw [ez_156]; exact z_mul (a := (12 : Int)) (b := (i_133).toInt) rfl rfl (by omega) (by omega)
                                refine lv_iload_n hx hb dX12_orders_131 rfl (lv_at hl 0 rfl) ?_
                                refine lv_iadd hx hb dX12_orders_132 ?_
                                refine lv_topi (fun z_157 ez_157 => ?_)
                                have kz_157 : (z_157).toInt = (z_156).toInt + (i_145).toInt := by rw [ez_157]; exact z_add (a := (z_156).toInt) (b := (i_145).toInt) rfl rfl (by omega) (by omega)
                                refine va_zald hx hb hK hP 6 5 rfl rfl (z_vpin (by omega) (by omega)) dX12_orders_133 ?_
                                refine lv_topi (fun z_158 ez_158 => ?_)
                                have kxz_158 : (z_158).toInt = (f_146 (z_157 : Int32).toNatClampNeg).toInt := by rw [ez_158]
                                refine lv_if_ne (tgt := 165) hx hb dX12_orders_134 (by decide) (fun c_159 => ?_) (fun c_159 => ?_)
                                · have k_160 : (z_158).toInt ≠ (0 : Int) := z_ne c_159
                                  refine lv_iconst (v := 1) hx hb dX12_orders_165 (by decide) ?_
                                  refine lv_goto (tgt := 170) hx hb dX12_orders_166 (by decide) ?_
                                  refine va_zast hx hb hK hP hD hS 6 5 rfl rfl (z_vpin (by omega) (by omega)) dX12_orders_170 (fun H_161 locs hP hD hS => ?_)
                                  obtain ⟨hP, hD⟩ := z_s_6 hP hD
                                  obtain ⟨z_163, ez_163⟩ : ∃ y : Int32, y = i_145 + 1 := ⟨_, rfl⟩
                                  have kz_163 : (z_163).toInt = (i_145).toInt + (1 : Int) := by rw [ez_163]; exact z_add (b := 1) rfl rfl (z_al hF_147.1 (by decide)) (z_ah hF_147.2 (by decide))
                                  refine lv_iinc (v := z_163) (lv' := [(3, .int z_163), (2, .int i_133), (1, .int i_23), (0, .ref h0)]) hx hb dX12_orders_171 hl (k := 0) rfl (by rw [ez_163]; rfl) (by decide) rfl (fun ls hl => ?_)
                                  refine lv_goto (tgt := 107) hx hb dX12_orders_174 (by decide) ?_
                                  exact ih_144 z_163 (upd f_146 (z_155 : Int32).toNatClampNeg (vp_nar .boolean 1)) _ _ _ (show (13 - (z_163).toInt).toNat < n_143 by omega) (show ((0 : Int) ≤ (z_163).toInt ∧ (z_163).toInt ≤ (12 : Int)) by omega) (show k_w2 (i_23).toInt (i_133).toInt (z_163).toInt l00 (upd f_146 (z_155 : Int32).toNatClampNeg (vp_nar .boolean 1)) from k_w2_s (a := i_133) (b := i_145) (d := z_155) hF_148 ⟨by omega, by omega⟩ ⟨by omega, by omega⟩ (by omega) (by omega) (⟨fun _ => Or.inl ((k_M2i (a := (i_133).toInt) (b := (i_145).toInt) (d := z_157) ⟨by omega, by omega⟩ ⟨by omega, by omega⟩ (by omega)).mpr (by omega)), fun _ => by decide⟩)) hP hD hS (lv_sub hl [0, 1, 2, 3] rfl)
                                · have k_164 : (z_158).toInt = (0 : Int) := z_eq c_159
                                  obtain rfl : z_158 = 0 := z_eq' (show (z_158).toInt = (0 : Int) by omega)
                                  refine lv_aload_n hx hb dX12_orders_137 rfl (lv_at hl 3 rfl) ?_
                                  refine va_get (D := (dC, dI)) (ci := 12) (v := .ref hlt) (C := RX12) (T := TX12) (N := 70) hx hb hts hiX12 hown hK hP 0 rfl rfl 12 (by decide) w__fieldLink_RX12_35_ShellHeapModel_later_Z_ (fun _ h9 => h9) rfl dX12_orders_138 ?_
                                  refine lv_bipush (v := 12) hx hb dX12_orders_141 (by decide) ?_
                                  refine lv_iload_n hx hb dX12_orders_143 rfl (lv_at hl 1 rfl) ?_
                                  refine lv_imul hx hb dX12_orders_144 ?_
                                  refine lv_topi (fun z_166 ez_166 => ?_)
                                  have kz_166 : (z_166).toInt = (12 : Int) * (i_133).toInt := by rw [ez_166]; exact z_mul (a := (12 : Int)) (b := (i_133).toInt) rfl rfl (by omega) (by omega)
                                  refine lv_iload_n hx hb dX12_orders_145 rfl (lv_at hl 2 rfl) ?_
                                  refine lv_iadd hx hb dX12_orders_146 ?_
                                  refine lv_topi (fun z_167 ez_167 => ?_)
                                  have kz_167 : (z_167).toInt = (z_166).toInt + (i_23).toInt := by rw [ez_167]; exact z_add (a := (z_166).toInt) (b := (i_23).toInt) rfl rfl (by omega) (by omega)
                                  refine va_zald hx hb hK hP 6 5 rfl rfl (z_vpin (by omega) (by omega)) dX12_orders_147 ?_
                                  refine lv_topi (fun z_168 ez_168 => ?_)
                                  have kxz_168 : (z_168).toInt = (f_146 (z_167 : Int32).toNatClampNeg).toInt := by rw [ez_168]
                                  refine lv_if_eq (tgt := 169) hx hb dX12_orders_148 (by decide) (fun c_169 => ?_) (fun c_169 => ?_)
                                  · have k_170 : (z_168).toInt = (0 : Int) := z_eq c_169
                                    obtain rfl : z_168 = 0 := z_eq' (show (z_168).toInt = (0 : Int) by omega)
                                    refine lv_iconst (v := 0) hx hb dX12_orders_169 (by decide) ?_
                                    refine va_zast hx hb hK hP hD hS 6 5 rfl rfl (z_vpin (by omega) (by omega)) dX12_orders_170 (fun H_172 locs hP hD hS => ?_)
                                    obtain ⟨hP, hD⟩ := z_s_6 hP hD
                                    obtain ⟨z_174, ez_174⟩ : ∃ y : Int32, y = i_145 + 1 := ⟨_, rfl⟩
                                    have kz_174 : (z_174).toInt = (i_145).toInt + (1 : Int) := by rw [ez_174]; exact z_add (b := 1) rfl rfl (z_al hF_147.1 (by decide)) (z_ah hF_147.2 (by decide))
                                    refine lv_iinc (v := z_174) (lv' := [(3, .int z_174), (2, .int i_133), (1, .int i_23), (0, .ref h0)]) hx hb dX12_orders_171 hl (k := 0) rfl (by rw [ez_174]; rfl) (by decide) rfl (fun ls hl => ?_)
                                    refine lv_goto (tgt := 107) hx hb dX12_orders_174 (by decide) ?_
                                    exact ih_144 z_174 (upd f_146 (z_155 : Int32).toNatClampNeg (vp_nar .boolean 0)) _ _ _ (show (13 - (z_174).toInt).toNat < n_143 by omega) (show ((0 : Int) ≤ (z_174).toInt ∧ (z_174).toInt ≤ (12 : Int)) by omega) (show k_w2 (i_23).toInt (i_133).toInt (z_174).toInt l00 (upd f_146 (z_155 : Int32).toNatClampNeg (vp_nar .boolean 0)) from k_w2_s (a := i_133) (b := i_145) (d := z_155) hF_148 ⟨by omega, by omega⟩ ⟨by omega, by omega⟩ (by omega) (by omega) (⟨fun h9 => absurd h9 (by decide), fun h8 => h8.elim (fun h9 => absurd ((k_M2i (a := (i_133).toInt) (b := (i_145).toInt) (d := z_157) ⟨by omega, by omega⟩ ⟨by omega, by omega⟩ (by omega)).mp h9) (by omega)) (fun h9 => absurd ((k_M2i (a := (i_133).toInt) (b := (i_23).toInt) (d := z_167) ⟨by omega, by omega⟩ ⟨by omega, by omega⟩ (by omega)).mp h9.1) (by omega))⟩)) hP hD hS (lv_sub hl [0, 1, 2, 3] rfl)
                                  · have k_175 : (z_168).toInt ≠ (0 : Int) := z_ne c_169
                                    refine lv_aload_n hx hb dX12_orders_151 rfl (lv_at hl 3 rfl) ?_
                                    refine va_get (D := (dC, dI)) (ci := 12) (v := .ref hlt) (C := RX12) (T := TX12) (N := 70) hx hb hts hiX12 hown hK hP 0 rfl rfl 12 (by decide) w__fieldLink_RX12_35_ShellHeapModel_later_Z_ (fun _ h9 => h9) rfl dX12_orders_152 ?_
                                    refine lv_bipush (v := 12) hx hb dX12_orders_155 (by decide) ?_
                                    refine lv_iload_n hx hb dX12_orders_157 rfl (lv_at hl 2 rfl) ?_
                                    refine lv_imul hx hb dX12_orders_158 ?_
                                    refine lv_topi (fun z_176 ez_176 => ?_)
                                    have kz_176 : (z_176).toInt = (12 : Int) * (i_23).toInt := by rw [ez_176]; exact z_mul (a := (12 : Int)) (b := (i_23).toInt) rfl rfl (by omega) (by omega)
                                    refine lv_iload_n hx hb dX12_orders_159 rfl (lv_at hl 0 rfl) ?_
                                    refine lv_iadd hx hb dX12_orders_160 ?_
                                    refine lv_topi (fun z_177 ez_177 => ?_)
                                    have kz_177 : (z_177).toInt = (z_176).toInt + (i_145).toInt := by rw [ez_177]; exact z_add (a := (z_176).toInt) (b := (i_145).toInt) rfl rfl (by omega) (by omega)
                                    refine va_zald hx hb hK hP 6 5 rfl rfl (z_vpin (by omega) (by omega)) dX12_orders_161 ?_
                                    refine lv_topi (fun z_178 ez_178 => ?_)
                                    have kxz_178 : (z_178).toInt = (f_146 (z_177 : Int32).toNatClampNeg).toInt := by rw [ez_178]
                                    refine lv_if_eq (tgt := 169) hx hb dX12_orders_162 (by decide) (fun c_179 => ?_) (fun c_179 => ?_)
                                    · have k_180 : (z_178).toInt = (0 : Int) := z_eq c_179
                                      obtain rfl : z_178 = 0 := z_eq' (show (z_178).toInt = (0 : Int) by omega)
                                      refine lv_iconst (v := 0) hx hb dX12_orders_169 (by decide) ?_
                                      refine va_zast hx hb hK hP hD hS 6 5 rfl rfl (z_vpin (by omega) (by omega)) dX12_orders_170 (fun H_182 locs hP hD hS => ?_)
                                      obtain ⟨hP, hD⟩ := z_s_6 hP hD
                                      obtain ⟨z_184, ez_184⟩ : ∃ y : Int32, y = i_145 + 1 := ⟨_, rfl⟩
                                      have kz_184 : (z_184).toInt = (i_145).toInt + (1 : Int) := by rw [ez_184]; exact z_add (b := 1) rfl rfl (z_al hF_147.1 (by decide)) (z_ah hF_147.2 (by decide))
                                      refine lv_iinc (v := z_184) (lv' := [(3, .int z_184), (2, .int i_133), (1, .int i_23), (0, .ref h0)]) hx hb dX12_orders_171 hl (k := 0) rfl (by rw [ez_184]; rfl) (by decide) rfl (fun ls hl => ?_)
                                      refine lv_goto (tgt := 107) hx hb dX12_orders_174 (by decide) ?_
                                      exact ih_144 z_184 (upd f_146 (z_155 : Int32).toNatClampNeg (vp_nar .boolean 0)) _ _ _ (show (13 - (z_184).toInt).toNat < n_143 by omega) (show ((0 : Int) ≤ (z_184).toInt ∧ (z_184).toInt ≤ (12 : Int)) by omega) (show k_w2 (i_23).toInt (i_133).toInt (z_184).toInt l00 (upd f_146 (z_155 : Int32).toNatClampNeg (vp_nar .boolean 0)) from k_w2_s (a := i_133) (b := i_145) (d := z_155) hF_148 ⟨by omega, by omega⟩ ⟨by omega, by omega⟩ (by omega) (by omega) (⟨fun h9 => absurd h9 (by decide), fun h8 => h8.elim (fun h9 => absurd ((k_M2i (a := (i_133).toInt) (b := (i_145).toInt) (d := z_157) ⟨by omega, by omega⟩ ⟨by omega, by omega⟩ (by omega)).mp h9) (by omega)) (fun h9 => absurd ((k_M2i (a := (i_23).toInt) (b := (i_145).toInt) (d := z_177) ⟨by omega, by omega⟩ ⟨by omega, by omega⟩ (by omega)).mp h9.2) (by omega))⟩)) hP hD hS (lv_sub hl [0, 1, 2, 3] rfl)
                                    · have k_185 : (z_178).toInt ≠ (0 : Int) := z_ne c_179
                                      refine lv_iconst (v := 1) hx hb dX12_orders_165 (by decide) ?_
                                      refine lv_goto (tgt := 170) hx hb dX12_orders_166 (by decide) ?_
                                      refine va_zast hx hb hK hP hD hS 6 5 rfl rfl (z_vpin (by omega) (by omega)) dX12_orders_170 (fun H_186 locs hP hD hS => ?_)
                                      obtain ⟨hP, hD⟩ := z_s_6 hP hD
                                      obtain ⟨z_188, ez_188⟩ : ∃ y : Int32, y = i_145 + 1 := ⟨_, rfl⟩
                                      have kz_188 : (z_188).toInt = (i_145).toInt + (1 : Int) := by rw [ez_188]; exact z_add (b := 1) rfl rfl (z_al hF_147.1 (by decide)) (z_ah hF_147.2 (by decide))
                                      refine lv_iinc (v := z_188) (lv' := [(3, .int z_188), (2, .int i_133), (1, .int i_23), (0, .ref h0)]) hx hb dX12_orders_171 hl (k := 0) rfl (by rw [ez_188]; rfl) (by decide) rfl (fun ls hl => ?_)
                                      refine lv_goto (tgt := 107) hx hb dX12_orders_174 (by decide) ?_
                                      exact ih_144 z_188 (upd f_146 (z_155 : Int32).toNatClampNeg (vp_nar .boolean 1)) _ _ _ (show (13 - (z_188).toInt).toNat < n_143 by omega) (show ((0 : Int) ≤ (z_188).toInt ∧ (z_188).toInt ≤ (12 : Int)) by omega) (show k_w2 (i_23).toInt (i_133).toInt (z_188).toInt l00 (upd f_146 (z_155 : Int32).toNatClampNeg (vp_nar .boolean 1)) from k_w2_s (a := i_133) (b := i_145) (d := z_155) hF_148 ⟨by omega, by omega⟩ ⟨by omega, by omega⟩ (by omega) (by omega) (⟨fun _ => Or.inr ⟨(k_M2i (a := (i_133).toInt) (b := (i_23).toInt) (d := z_167) ⟨by omega, by omega⟩ ⟨by omega, by omega⟩ (by omega)).mpr (by omega), (k_M2i (a := (i_23).toInt) (b := (i_145).toInt) (d := z_177) ⟨by omega, by omega⟩ ⟨by omega, by omega⟩ (by omega)).mpr (by omega)⟩, fun _ => by decide⟩)) hP hD hS (lv_sub hl [0, 1, 2, 3] rfl)
                          exact loop_142 _ 0 f_134 _ _ _ (Nat.lt_succ_self _) (show ((0 : Int) ≤ (0 : Int) ∧ (0 : Int) ≤ (12 : Int)) by omega) (show k_w2 (i_23).toInt (i_133).toInt (0 : Int) l00 f_134 from hF_136) hP hD hS hl
                    exact loop_130 _ 0 f_24 _ _ _ (Nat.lt_succ_self _) (show ((0 : Int) ≤ (0 : Int) ∧ (0 : Int) ≤ (12 : Int)) by omega) (show k_w2 (i_23).toInt (0 : Int) 0 l00 f_24 from by rw [hl00]; exact k_w2_0) hP hD hS hl
              exact loop_20 _ 0 f_15 _ _ _ (Nat.lt_succ_self _) (show ((0 : Int) ≤ (0 : Int) ∧ (0 : Int) ≤ (12 : Int)) by omega) (show k_W (k_Ei fhs fha fhb9 (k_c (mn).toInt (k_iv fhct)) (mn).toInt fhbd) (0 : Int) (k_M2 f_15) from k_me2_W hF_17 (by omega)) hP hD hS hl
            · have k_189 : (mn).toInt > (i_14).toInt := z_nle c_18
              refine lv_aload_n hx hb dX12_orders_32 rfl (lv_at hl 1 rfl) ?_
              refine va_get (D := (dC, dI)) (ci := 12) (v := .ref hct) (C := RX12) (T := TX12) (N := 70) hx hb hts hiX12 hown hK hP 0 rfl rfl 9 (by decide) w__fieldLink_RX12_25_ShellHeapModel_counts_Z_ (fun _ h9 => h9) rfl dX12_orders_33 ?_
              refine lv_iload_n hx hb dX12_orders_36 rfl (lv_at hl 0 rfl) ?_
              refine va_zald hx hb hK hP 1 0 rfl rfl (z_vpin (by omega) (by omega)) dX12_orders_37 ?_
              refine lv_topi (fun z_190 ez_190 => ?_)
              have kxz_190 : (z_190).toInt = (fhct (i_14 : Int32).toNatClampNeg).toInt := by rw [ez_190]
              refine lv_if_eq (tgt := 83) hx hb dX12_orders_38 (by decide) (fun c_191 => ?_) (fun c_191 => ?_)
              · have k_192 : (z_190).toInt = (0 : Int) := z_eq c_191
                obtain rfl : z_190 = 0 := z_eq' (show (z_190).toInt = (0 : Int) by omega)
                obtain ⟨z_194, ez_194⟩ : ∃ y : Int32, y = i_14 + 1 := ⟨_, rfl⟩
                have kz_194 : (z_194).toInt = (i_14).toInt + (1 : Int) := by rw [ez_194]; exact z_add (b := 1) rfl rfl (z_al hF_16.1 (by decide)) (z_ah hF_16.2 (by decide))
                refine lv_iinc (v := z_194) (lv' := [(1, .int z_194), (0, .ref h0)]) hx hb dX12_orders_83 hl (k := 0) rfl (by rw [ez_194]; rfl) (by decide) rfl (fun ls hl => ?_)
                refine lv_goto (tgt := 24) hx hb dX12_orders_86 (by decide) ?_
                exact ih_13 z_194 f_15 _ _ _ (show (81 - (z_194).toInt).toNat < n_12 by omega) (show ((0 : Int) ≤ (z_194).toInt ∧ (z_194).toInt ≤ (80 : Int)) by omega) (show k_me2 (k_Ei fhs fha fhb9 (k_c (mn).toInt (k_iv fhct)) (z_194).toInt fhbd) f_15 from k_me2_n (i := i_14) hF_17 (by omega) (by omega) (fun h9 => k_iv_n (by omega) h9.1)) hP hD hS (lv_sub hl [0, 1] rfl)
              · have k_195 : (z_190).toInt ≠ (0 : Int) := z_ne c_191
                refine lv_aload_n hx hb dX12_orders_41 rfl (lv_at hl 1 rfl) ?_
                refine va_get (D := (dC, dI)) (ci := 12) (v := .ref hs) (C := RX12) (T := TX12) (N := 70) hx hb hts hiX12 hown hK hP 0 rfl rfl 5 (by decide) w__fieldLink_RX12_13_ShellHeapModel_sort_I_ (fun _ h9 => h9) rfl dX12_orders_42 ?_
                refine lv_iload_n hx hb dX12_orders_45 rfl (lv_at hl 0 rfl) ?_
                refine va_iald hx hb hK hP 2 1 rfl rfl (z_vpin (by omega) (by omega)) dX12_orders_46 ?_
                refine lv_topi (fun z_196 ez_196 => ?_)
                have kxz_196 : (z_196).toInt = (fhs (i_14 : Int32).toNatClampNeg).toInt := by rw [ez_196]
                refine lv_iconst (v := 2) hx hb dX12_orders_47 (by decide) ?_
                refine lv_icmp_ge (tgt := 83) hx hb dX12_orders_48 (by decide) (fun c_197 => ?_) (fun c_197 => ?_)
                · have k_198 : (2 : Int) ≤ (z_196).toInt := z_le c_197
                  obtain ⟨z_199, ez_199⟩ : ∃ y : Int32, y = i_14 + 1 := ⟨_, rfl⟩
                  have kz_199 : (z_199).toInt = (i_14).toInt + (1 : Int) := by rw [ez_199]; exact z_add (b := 1) rfl rfl (z_al hF_16.1 (by decide)) (z_ah hF_16.2 (by decide))
                  refine lv_iinc (v := z_199) (lv' := [(1, .int z_199), (0, .ref h0)]) hx hb dX12_orders_83 hl (k := 0) rfl (by rw [ez_199]; rfl) (by decide) rfl (fun ls hl => ?_)
                  refine lv_goto (tgt := 24) hx hb dX12_orders_86 (by decide) ?_
                  exact ih_13 z_199 f_15 _ _ _ (show (81 - (z_199).toInt).toNat < n_12 by omega) (show ((0 : Int) ≤ (z_199).toInt ∧ (z_199).toInt ≤ (80 : Int)) by omega) (show k_me2 (k_Ei fhs fha fhb9 (k_c (mn).toInt (k_iv fhct)) (z_199).toInt fhbd) f_15 from k_me2_n (i := i_14) hF_17 (by omega) (by omega) (fun h9 => absurd h9.2 (by omega))) hP hD hS (lv_sub hl [0, 1] rfl)
                · have k_200 : (2 : Int) > (z_196).toInt := z_nle c_197
                  refine lv_aload_n hx hb dX12_orders_51 rfl (lv_at hl 1 rfl) ?_
                  refine va_get (D := (dC, dI)) (ci := 12) (v := .ref hlt) (C := RX12) (T := TX12) (N := 70) hx hb hts hiX12 hown hK hP 0 rfl rfl 12 (by decide) w__fieldLink_RX12_35_ShellHeapModel_later_Z_ (fun _ h9 => h9) rfl dX12_orders_52 ?_
                  refine lv_bipush (v := 12) hx hb dX12_orders_55 (by decide) ?_
                  refine lv_aload_n hx hb dX12_orders_57 rfl (lv_at hl 1 rfl) ?_
                  refine va_get (D := (dC, dI)) (ci := 12) (v := .ref hbd) (C := RX12) (T := TX12) (N := 70) hx hb hts hiX12 hown hK hP 0 rfl rfl 11 (by decide) w__fieldLink_RX12_32_ShellHeapModel_bedOf_I_ (fun _ h9 => h9) rfl dX12_orders_58 ?_
                  refine lv_aload_n hx hb dX12_orders_61 rfl (lv_at hl 1 rfl) ?_
                  refine va_get (D := (dC, dI)) (ci := 12) (v := .ref ha) (C := RX12) (T := TX12) (N := 70) hx hb hts hiX12 hown hK hP 0 rfl rfl 6 (by decide) w__fieldLink_RX12_16_ShellHeapModel_noteA_I_ (fun _ h9 => h9) rfl dX12_orders_62 ?_
                  refine lv_iload_n hx hb dX12_orders_65 rfl (lv_at hl 0 rfl) ?_
                  refine va_iald hx hb hK hP 3 2 rfl rfl (z_vpin (by omega) (by omega)) dX12_orders_66 ?_
                  refine lv_topi (fun z_201 ez_201 => ?_)
                  have kz_201 : ((0 : Int) ≤ (z_201).toInt ∧ (z_201).toInt ≤ (79 : Int)) := by rw [ez_201]; exact hI_ha _
                  have kxz_201 : (z_201).toInt = (fha (i_14 : Int32).toNatClampNeg).toInt := by rw [ez_201]
                  have krz_201 := k_r3_a hRG (by omega) (by omega) ⟨hS0 _, by omega⟩ ez_201
                  refine va_iald hx hb hK hP 5 4 rfl rfl (z_vpin (by omega) (by omega)) dX12_orders_67 ?_
                  refine lv_topi (fun z_202 ez_202 => ?_)
                  have kz_202 : ((0 : Int) ≤ (z_202).toInt ∧ (z_202).toInt ≤ (11 : Int)) := by rw [ez_202]; exact hI_hbd _
                  have kxz_202 : (z_202).toInt = (fhbd (z_201 : Int32).toNatClampNeg).toInt := by rw [ez_202]
                  have ke_203 : z_202 = fhbd (fha (i_14 : Int32).toNatClampNeg).toNatClampNeg := by rw [← ez_201]; exact ez_202
                  refine lv_imul hx hb dX12_orders_68 ?_
                  refine lv_topi (fun z_204 ez_204 => ?_)
                  have kz_204 : (z_204).toInt = (12 : Int) * (z_202).toInt := by rw [ez_204]; exact z_mul (a := (12 : Int)) (b := (z_202).toInt) rfl rfl (by omega) (by omega)
                  refine lv_aload_n hx hb dX12_orders_69 rfl (lv_at hl 1 rfl) ?_
                  refine va_get (D := (dC, dI)) (ci := 12) (v := .ref hbd) (C := RX12) (T := TX12) (N := 70) hx hb hts hiX12 hown hK hP 0 rfl rfl 11 (by decide) w__fieldLink_RX12_32_ShellHeapModel_bedOf_I_ (fun _ h9 => h9) rfl dX12_orders_70 ?_
                  refine lv_aload_n hx hb dX12_orders_73 rfl (lv_at hl 1 rfl) ?_
                  refine va_get (D := (dC, dI)) (ci := 12) (v := .ref hb9) (C := RX12) (T := TX12) (N := 70) hx hb hts hiX12 hown hK hP 0 rfl rfl 7 (by decide) w__fieldLink_RX12_19_ShellHeapModel_noteB_I_ (fun _ h9 => h9) rfl dX12_orders_74 ?_
                  refine lv_iload_n hx hb dX12_orders_77 rfl (lv_at hl 0 rfl) ?_
                  refine va_iald hx hb hK hP 4 3 rfl rfl (z_vpin (by omega) (by omega)) dX12_orders_78 ?_
                  refine lv_topi (fun z_205 ez_205 => ?_)
                  have kxz_205 : (z_205).toInt = (fhb9 (i_14 : Int32).toNatClampNeg).toInt := by rw [ez_205]
                  have krz_205 := k_r3_b hRG (by omega) (by omega) ⟨hS0 _, by omega⟩ ez_205
                  refine va_iald hx hb hK hP 5 4 rfl rfl (z_vpin (by omega) (by omega)) dX12_orders_79 ?_
                  refine lv_topi (fun z_206 ez_206 => ?_)
                  have kz_206 : ((0 : Int) ≤ (z_206).toInt ∧ (z_206).toInt ≤ (11 : Int)) := by rw [ez_206]; exact hI_hbd _
                  have kxz_206 : (z_206).toInt = (fhbd (z_205 : Int32).toNatClampNeg).toInt := by rw [ez_206]
                  have ke_207 : z_206 = fhbd (fhb9 (i_14 : Int32).toNatClampNeg).toNatClampNeg := by rw [← ez_205]; exact ez_206
                  refine lv_iadd hx hb dX12_orders_80 ?_
                  refine lv_topi (fun z_208 ez_208 => ?_)
                  have kz_208 : (z_208).toInt = (z_204).toInt + (z_206).toInt := by rw [ez_208]; exact z_add (a := (z_204).toInt) (b := (z_206).toInt) rfl rfl (by omega) (by omega)
                  refine lv_iconst (v := 1) hx hb dX12_orders_81 (by decide) ?_
                  refine va_zast hx hb hK hP hD hS 6 5 rfl rfl (z_vpin (by omega) (by omega)) dX12_orders_82 (fun H_209 locs hP hD hS => ?_)
                  obtain ⟨hP, hD⟩ := z_s_6 hP hD
                  obtain ⟨z_211, ez_211⟩ : ∃ y : Int32, y = i_14 + 1 := ⟨_, rfl⟩
                  have kz_211 : (z_211).toInt = (i_14).toInt + (1 : Int) := by rw [ez_211]; exact z_add (b := 1) rfl rfl (z_al hF_16.1 (by decide)) (z_ah hF_16.2 (by decide))
                  refine lv_iinc (v := z_211) (lv' := [(1, .int z_211), (0, .ref h0)]) hx hb dX12_orders_83 hl (k := 0) rfl (by rw [ez_211]; rfl) (by decide) rfl (fun ls hl => ?_)
                  refine lv_goto (tgt := 24) hx hb dX12_orders_86 (by decide) ?_
                  exact ih_13 z_211 (upd f_15 (z_208 : Int32).toNatClampNeg (vp_nar .boolean 1)) _ _ _ (show (81 - (z_211).toInt).toNat < n_12 by omega) (show ((0 : Int) ≤ (z_211).toInt ∧ (z_211).toInt ≤ (80 : Int)) by omega) (show k_me2 (k_Ei fhs fha fhb9 (k_c (mn).toInt (k_iv fhct)) (z_211).toInt fhbd) (upd f_15 (z_208 : Int32).toNatClampNeg (vp_nar .boolean 1)) from k_me2_y (i := i_14) (u := z_202) (v := z_206) (d := z_208) hF_17 (by omega) (by omega) (k_iv_c (by omega) (by omega) (by omega)) (by have h9 := hS0 (i_14 : Int32).toNatClampNeg; omega) ke_203 ke_207 ⟨by omega, by omega⟩ ⟨by omega, by omega⟩ (by omega) (by decide)) hP hD hS (lv_sub hl [0, 1] rfl)
        exact loop_11 _ 0 f_5 _ _ _ (Nat.lt_succ_self _) (show ((0 : Int) ≤ (0 : Int) ∧ (0 : Int) ≤ (80 : Int)) by omega) (show k_me2 (k_Ei fhs fha fhb9 (k_c (mn).toInt (k_iv fhct)) (0 : Int) fhbd) f_5 from k_me2_0 hF_7 (by omega)) hP hD hS hl
      · have k_212 : (144 : Int) > (i_4).toInt := z_nle c_8
        refine lv_aload_n hx hb dX12_orders_9 rfl (lv_at hl 1 rfl) ?_
        refine va_get (D := (dC, dI)) (ci := 12) (v := .ref hlt) (C := RX12) (T := TX12) (N := 70) hx hb hts hiX12 hown hK hP 0 rfl rfl 12 (by decide) w__fieldLink_RX12_35_ShellHeapModel_later_Z_ (fun _ h9 => h9) rfl dX12_orders_10 ?_
        refine lv_iload_n hx hb dX12_orders_13 rfl (lv_at hl 0 rfl) ?_
        refine lv_iconst (v := 0) hx hb dX12_orders_14 (by decide) ?_
        refine va_zast hx hb hK hP hD hS 6 5 rfl rfl (z_vpin (by omega) (by omega)) dX12_orders_15 (fun H_213 locs hP hD hS => ?_)
        obtain ⟨hP, hD⟩ := z_s_6 hP hD
        obtain ⟨z_215, ez_215⟩ : ∃ y : Int32, y = i_4 + 1 := ⟨_, rfl⟩
        have kz_215 : (z_215).toInt = (i_4).toInt + (1 : Int) := by rw [ez_215]; exact z_add (b := 1) rfl rfl (z_al hF_6.1 (by decide)) (z_ah hF_6.2 (by decide))
        refine lv_iinc (v := z_215) (lv' := [(1, .int z_215), (0, .ref h0)]) hx hb dX12_orders_16 hl (k := 0) rfl (by rw [ez_215]; rfl) (by decide) rfl (fun ls hl => ?_)
        refine lv_goto (tgt := 2) hx hb dX12_orders_19 (by decide) ?_
        exact ih_3 z_215 (upd f_5 (i_4 : Int32).toNatClampNeg (vp_nar .boolean 0)) _ _ _ (show (145 - (z_215).toInt).toNat < n_2 by omega) (show ((0 : Int) ≤ (z_215).toInt ∧ (z_215).toInt ≤ (144 : Int)) by omega) (show k_z (z_215).toInt (upd f_5 (i_4 : Int32).toNatClampNeg (vp_nar .boolean 0)) from k_z_s (i := i_4) hF_7 (by omega) (by decide) (by omega)) hP hD hS (lv_sub hl [0, 1] rfl)
  exact loop_1 _ 0 fhlt _ _ _ (Nat.lt_succ_self _) (show ((0 : Int) ≤ (0 : Int) ∧ (0 : Int) ≤ (144 : Int)) by omega) (show k_z (0 : Int) fhlt from k_z_0 (by decide)) hP hD hS hl
