def u_s_X12_orders : List Cond := .code yX12_orders cX12_orders 4 none :: ([.fieldLink RX12 154 "ShellHeapModel" "notes" "I", .fieldLink RX12 167 "ShellHeapModel" "quarrelNow" "I", .fieldLink RX12 35 "ShellHeapModel" "later" "[Z", .fieldLink RX12 38 "ShellHeapModel" "rank" "[I", .fieldLink RX12 25 "ShellHeapModel" "counts" "[Z", .fieldLink RX12 13 "ShellHeapModel" "sort" "[I", .fieldLink RX12 32 "ShellHeapModel" "bedOf" "[I", .fieldLink RX12 16 "ShellHeapModel" "noteA" "[I", .fieldLink RX12 19 "ShellHeapModel" "noteB" "[I"] ++ (wsX120 ++ []))
theorem gd_s_X12_orders : z_gd u_s_X12_orders := z_gdc (by decide +kernel) (z_gda gdX12 (z_gd0))
set_option maxHeartbeats 4000000 in
set_option maxRecDepth 100000 in
theorem s_X12_orders (l : Launch) (dC : Nat → ClassId) (dI : Nat → Nat → Nat) (sz : Nat) (h0 : Nat) (h0_0 : Value) (h0_1 : Value) (h0_2 : Value) (h0_3 : Value) (mn : Int32) (hs : Nat) (ha : Nat) (hb9 : Nat) (h0_8 : Value) (hct : Nat) (h0_10 : Value) (hbd : Nat) (hlt : Nat) (hrk : Nat) (h0_14 : Value) (h0_15 : Value) (mq : Int32) (h0_17 : Value) (h0_18 : Value) (h0_19 : Value) (h0_20 : Value) (h0_21 : Value) (h0_22 : Value) (h0_23 : Value) (h0_24 : Value) (h0_25 : Value) (h0_26 : Value) (h0_27 : Value) (h0_28 : Value) (h0_29 : Value) (h0_30 : Value) (h0_31 : Value) (h0_32 : Value) (h0_33 : Value) (h0_34 : Value) (h0_35 : Value) (h0_36 : Value) (h0_37 : Value) (h0_38 : Value) (h0_39 : Value) (h0_40 : Value) (h0_41 : Value) (h0_42 : Value) (h0_43 : Value) (h0_44 : Value) (h0_45 : Value) (h0_46 : Value) (h0_47 : Value) (h0_48 : Value) (h0_49 : Value) (h0_50 : Value) (h0_51 : Value) (h0_52 : Value) (h0_53 : Value) (h0_54 : Value) (h0_55 : Value) (h0_56 : Value) (h0_57 : Value) (h0_58 : Value) (h0_59 : Value) (h0_60 : Value) (h0_61 : Value) (h0_62 : Value) (h0_63 : Value) (h0_64 : Value) (h0_65 : Value) (h0_66 : Value) (h0_67 : Value) (h0_68 : Value) (h0_69 : Value) (chct : ClassId) (fhct : Nat → Int32) (chs : ClassId) (fhs : Nat → Int32) (cha : ClassId) (fha : Nat → Int32) (chb9 : ClassId) (fhb9 : Nat → Int32) (chbd : ClassId) (fhbd : Nat → Int32) (chlt : ClassId) (fhlt : Nat → Int32) (chrk : ClassId) (fhrk : Nat → Int32) (hB_mq : ((0 : Int) ≤ (mq).toInt ∧ (mq).toInt ≤ (2 : Int))) (hB_mn : ((0 : Int) ≤ (mn).toInt ∧ (mn).toInt ≤ (80 : Int))) (hI_ha : ∀ j : Nat, ((0 : Int) ≤ (fha j).toInt ∧ (fha j).toInt ≤ (79 : Int))) (hI_hbd : ∀ j : Nat, ((0 : Int) ≤ (fhbd j).toInt ∧ (fhbd j).toInt ≤ (11 : Int))) (hR : ∀ j : Nat, z_relm (fhs j) (fha j) (fhb9 j)) : Met l yX12_orders u_s_X12_orders ({ frames := 0, cells := 0, slots := 0, locals := 0 }) (va_Pc [.ref h0] (z_C (dC, dI) vwCl [(h0, .inr (12, [h0_0, h0_1, h0_2, h0_3, .int mn, .ref hs, .ref ha, .ref hb9, h0_8, .ref hct, h0_10, .ref hbd, .ref hlt, .ref hrk, h0_14, h0_15, .int mq, h0_17, h0_18, h0_19, h0_20, h0_21, h0_22, h0_23, h0_24, h0_25, h0_26, h0_27, h0_28, h0_29, h0_30, h0_31, h0_32, h0_33, h0_34, h0_35, h0_36, h0_37, h0_38, h0_39, h0_40, h0_41, h0_42, h0_43, h0_44, h0_45, h0_46, h0_47, h0_48, h0_49, h0_50, h0_51, h0_52, h0_53, h0_54, h0_55, h0_56, h0_57, h0_58, h0_59, h0_60, h0_61, h0_62, h0_63, h0_64, h0_65, h0_66, h0_67, h0_68, h0_69])), (hct, .inl (chct, 80, .inl fhct)), (hs, .inl (chs, 80, .inl fhs)), (ha, .inl (cha, 80, .inl fha)), (hb9, .inl (chb9, 80, .inl fhb9)), (hbd, .inl (chbd, 12, .inl fhbd)), (hlt, .inl (chlt, 144, .inl fhlt)), (hrk, .inl (chrk, 12, .inl fhrk))] [(chct, .boolean), (chs, .int), (cha, .int), (chb9, .int), (chbd, .int), (chlt, .boolean), (chrk, .int)] sz)) (va_Qv (fun (_ : Unit) => True) (fun (_ : Unit) (t : State) => ∃ (n_h0_quarrelNow : Int32), ∃ (g_hlt : Nat → Int32), ∃ (g_hrk : Nat → Int32), ((0 : Int) ≤ (n_h0_quarrelNow).toInt ∧ (n_h0_quarrelNow).toInt ≤ (2 : Int)) ∧ va_P (dC, dI) vwCl [(h0, .inr (12, [h0_0, h0_1, h0_2, h0_3, .int mn, .ref hs, .ref ha, .ref hb9, h0_8, .ref hct, h0_10, .ref hbd, .ref hlt, .ref hrk, h0_14, h0_15, .int n_h0_quarrelNow, h0_17, h0_18, h0_19, h0_20, h0_21, h0_22, h0_23, h0_24, h0_25, h0_26, h0_27, h0_28, h0_29, h0_30, h0_31, h0_32, h0_33, h0_34, h0_35, h0_36, h0_37, h0_38, h0_39, h0_40, h0_41, h0_42, h0_43, h0_44, h0_45, h0_46, h0_47, h0_48, h0_49, h0_50, h0_51, h0_52, h0_53, h0_54, h0_55, h0_56, h0_57, h0_58, h0_59, h0_60, h0_61, h0_62, h0_63, h0_64, h0_65, h0_66, h0_67, h0_68, h0_69])), (hct, .inl (chct, 80, .inl fhct)), (hs, .inl (chs, 80, .inl fhs)), (ha, .inl (cha, 80, .inl fha)), (hb9, .inl (chb9, 80, .inl fhb9)), (hbd, .inl (chbd, 12, .inl fhbd)), (hlt, .inl (chlt, 144, .inl g_hlt)), (hrk, .inl (chrk, 12, .inl g_hrk))] t.heap ∧ va_K (dC, dI) vwCl [] t ∧ va_D (va_A [(h0, .inr (12, [h0_0, h0_1, h0_2, h0_3, .int mn, .ref hs, .ref ha, .ref hb9, h0_8, .ref hct, h0_10, .ref hbd, .ref hlt, .ref hrk, h0_14, h0_15, .int mq, h0_17, h0_18, h0_19, h0_20, h0_21, h0_22, h0_23, h0_24, h0_25, h0_26, h0_27, h0_28, h0_29, h0_30, h0_31, h0_32, h0_33, h0_34, h0_35, h0_36, h0_37, h0_38, h0_39, h0_40, h0_41, h0_42, h0_43, h0_44, h0_45, h0_46, h0_47, h0_48, h0_49, h0_50, h0_51, h0_52, h0_53, h0_54, h0_55, h0_56, h0_57, h0_58, h0_59, h0_60, h0_61, h0_62, h0_63, h0_64, h0_65, h0_66, h0_67, h0_68, h0_69])), (hct, .inl (chct, 80, .inl fhct)), (hs, .inl (chs, 80, .inl fhs)), (ha, .inl (cha, 80, .inl fha)), (hb9, .inl (chb9, 80, .inl fhb9)), (hbd, .inl (chbd, 12, .inl fhbd)), (hlt, .inl (chlt, 144, .inl fhlt)), (hrk, .inl (chrk, 12, .inl fhrk))] sz) [(h0, .inr (12, [h0_0, h0_1, h0_2, h0_3, .int mn, .ref hs, .ref ha, .ref hb9, h0_8, .ref hct, h0_10, .ref hbd, .ref hlt, .ref hrk, h0_14, h0_15, .int n_h0_quarrelNow, h0_17, h0_18, h0_19, h0_20, h0_21, h0_22, h0_23, h0_24, h0_25, h0_26, h0_27, h0_28, h0_29, h0_30, h0_31, h0_32, h0_33, h0_34, h0_35, h0_36, h0_37, h0_38, h0_39, h0_40, h0_41, h0_42, h0_43, h0_44, h0_45, h0_46, h0_47, h0_48, h0_49, h0_50, h0_51, h0_52, h0_53, h0_54, h0_55, h0_56, h0_57, h0_58, h0_59, h0_60, h0_61, h0_62, h0_63, h0_64, h0_65, h0_66, h0_67, h0_68, h0_69])), (hct, .inl (chct, 80, .inl fhct)), (hs, .inl (chs, 80, .inl fhs)), (ha, .inl (cha, 80, .inl fha)), (hb9, .inl (chb9, 80, .inl fhb9)), (hbd, .inl (chbd, 12, .inl fhbd)), (hlt, .inl (chlt, 144, .inl g_hlt)), (hrk, .inl (chrk, 12, .inl g_hrk))]) (va_A [(h0, .inr (12, [h0_0, h0_1, h0_2, h0_3, .int mn, .ref hs, .ref ha, .ref hb9, h0_8, .ref hct, h0_10, .ref hbd, .ref hlt, .ref hrk, h0_14, h0_15, .int mq, h0_17, h0_18, h0_19, h0_20, h0_21, h0_22, h0_23, h0_24, h0_25, h0_26, h0_27, h0_28, h0_29, h0_30, h0_31, h0_32, h0_33, h0_34, h0_35, h0_36, h0_37, h0_38, h0_39, h0_40, h0_41, h0_42, h0_43, h0_44, h0_45, h0_46, h0_47, h0_48, h0_49, h0_50, h0_51, h0_52, h0_53, h0_54, h0_55, h0_56, h0_57, h0_58, h0_59, h0_60, h0_61, h0_62, h0_63, h0_64, h0_65, h0_66, h0_67, h0_68, h0_69])), (hct, .inl (chct, 80, .inl fhct)), (hs, .inl (chs, 80, .inl fhs)), (ha, .inl (cha, 80, .inl fha)), (hb9, .inl (chb9, 80, .inl fhb9)), (hbd, .inl (chbd, 12, .inl fhbd)), (hlt, .inl (chlt, 144, .inl fhlt)), (hrk, .inl (chrk, 12, .inl fhrk))] sz)) 0 0 (va_A [(h0, .inr (12, [h0_0, h0_1, h0_2, h0_3, .int mn, .ref hs, .ref ha, .ref hb9, h0_8, .ref hct, h0_10, .ref hbd, .ref hlt, .ref hrk, h0_14, h0_15, .int mq, h0_17, h0_18, h0_19, h0_20, h0_21, h0_22, h0_23, h0_24, h0_25, h0_26, h0_27, h0_28, h0_29, h0_30, h0_31, h0_32, h0_33, h0_34, h0_35, h0_36, h0_37, h0_38, h0_39, h0_40, h0_41, h0_42, h0_43, h0_44, h0_45, h0_46, h0_47, h0_48, h0_49, h0_50, h0_51, h0_52, h0_53, h0_54, h0_55, h0_56, h0_57, h0_58, h0_59, h0_60, h0_61, h0_62, h0_63, h0_64, h0_65, h0_66, h0_67, h0_68, h0_69])), (hct, .inl (chct, 80, .inl fhct)), (hs, .inl (chs, 80, .inl fhs)), (ha, .inl (cha, 80, .inl fha)), (hb9, .inl (chb9, 80, .inl fhb9)), (hbd, .inl (chbd, 12, .inl fhbd)), (hlt, .inl (chlt, 144, .inl fhlt)), (hrk, .inl (chrk, 12, .inl fhrk))] sz) := by
  refine Met.ofW (cc := cX12_orders) (maxL := 4) (ret := none) (by decide) rfl ?_
  intro p e s m args below meth c s₁ B hml hv
  obtain ⟨rfl, hsz, hP, hK, hD0⟩ := hv
  have hx := B.exec
  have hb := B.bytes
  have hr := B.returns
  have hts := atoms_spec (ws := u_s_X12_orders) B.pre
  have hown : s.vm.findClass RX12 = some m.cls := findClass_of_methodNamed B.named
  have hlocks := B.notSynchronized
  subst hsz
  have hD := hD0.self (sz := s.heap.size)
  generalize hAe : va_A [(h0, .inr (12, [h0_0, h0_1, h0_2, h0_3, .int mn, .ref hs, .ref ha, .ref hb9, h0_8, .ref hct, h0_10, .ref hbd, .ref hlt, .ref hrk, h0_14, h0_15, .int mq, h0_17, h0_18, h0_19, h0_20, h0_21, h0_22, h0_23, h0_24, h0_25, h0_26, h0_27, h0_28, h0_29, h0_30, h0_31, h0_32, h0_33, h0_34, h0_35, h0_36, h0_37, h0_38, h0_39, h0_40, h0_41, h0_42, h0_43, h0_44, h0_45, h0_46, h0_47, h0_48, h0_49, h0_50, h0_51, h0_52, h0_53, h0_54, h0_55, h0_56, h0_57, h0_58, h0_59, h0_60, h0_61, h0_62, h0_63, h0_64, h0_65, h0_66, h0_67, h0_68, h0_69])), (hct, .inl (chct, 80, .inl fhct)), (hs, .inl (chs, 80, .inl fhs)), (ha, .inl (cha, 80, .inl fha)), (hb9, .inl (chb9, 80, .inl fhb9)), (hbd, .inl (chbd, 12, .inl fhbd)), (hlt, .inl (chlt, 144, .inl fhlt)), (hrk, .inl (chrk, 12, .inl fhrk))] s.heap.size = A at hD ⊢
  have hA : ∀ q : Nat, s.heap.size ≤ q → A q := fun q h => by rw [← hAe]; exact Or.inr h
  have hS : va_S A s.heap s.heap [] := va_S.rf
  have hP : va_P (dC, dI) vwCl [(h0, .inr (12, [h0_0, h0_1, h0_2, h0_3, .int mn, .ref hs, .ref ha, .ref hb9, h0_8, .ref hct, h0_10, .ref hbd, .ref hlt, .ref hrk, h0_14, h0_15, .int mq, h0_17, h0_18, h0_19, h0_20, h0_21, h0_22, h0_23, h0_24, h0_25, h0_26, h0_27, h0_28, h0_29, h0_30, h0_31, h0_32, h0_33, h0_34, h0_35, h0_36, h0_37, h0_38, h0_39, h0_40, h0_41, h0_42, h0_43, h0_44, h0_45, h0_46, h0_47, h0_48, h0_49, h0_50, h0_51, h0_52, h0_53, h0_54, h0_55, h0_56, h0_57, h0_58, h0_59, h0_60, h0_61, h0_62, h0_63, h0_64, h0_65, h0_66, h0_67, h0_68, h0_69])), (hct, .inl (chct, 80, .inl fhct)), (hs, .inl (chs, 80, .inl fhs)), (ha, .inl (cha, 80, .inl fha)), (hb9, .inl (chb9, 80, .inl fhb9)), (hbd, .inl (chbd, 12, .inl fhbd)), (hlt, .inl (chlt, 144, .inl fhlt)), (hrk, .inl (chrk, 12, .inl fhrk))] s.heap := hP
  have w__fieldLink_RX12_154_ShellHeapModel_notes_I_ := hts (.fieldLink RX12 154 "ShellHeapModel" "notes" "I") (z_mc (z_ml z_m0))
  have hiX12 := show ∀ w ∈ u_ws RX12 TX12 70, w ∈ u_s_X12_orders from fun w h => z_mc (z_mr (z_ml h))
  have w__fieldLink_RX12_167_ShellHeapModel_quarrelNow_I_ := hts (.fieldLink RX12 167 "ShellHeapModel" "quarrelNow" "I") (z_mc (z_ml z_m1))
  have w__fieldLink_RX12_35_ShellHeapModel_later_Z_ := hts (.fieldLink RX12 35 "ShellHeapModel" "later" "[Z") (z_mc (z_ml z_m2))
  have w__fieldLink_RX12_38_ShellHeapModel_rank_I_ := hts (.fieldLink RX12 38 "ShellHeapModel" "rank" "[I") (z_mc (z_ml z_m3))
  have w__fieldLink_RX12_25_ShellHeapModel_counts_Z_ := hts (.fieldLink RX12 25 "ShellHeapModel" "counts" "[Z") (z_mc (z_ml z_m4))
  have w__fieldLink_RX12_13_ShellHeapModel_sort_I_ := hts (.fieldLink RX12 13 "ShellHeapModel" "sort" "[I") (z_mc (z_ml z_m5))
  have w__fieldLink_RX12_32_ShellHeapModel_bedOf_I_ := hts (.fieldLink RX12 32 "ShellHeapModel" "bedOf" "[I") (z_mc (z_ml z_m6))
  have w__fieldLink_RX12_16_ShellHeapModel_noteA_I_ := hts (.fieldLink RX12 16 "ShellHeapModel" "noteA" "[I") (z_mc (z_ml z_m7))
  have w__fieldLink_RX12_19_ShellHeapModel_noteB_I_ := hts (.fieldLink RX12 19 "ShellHeapModel" "noteB" "[I") (z_mc (z_ml z_m8))
  have hl := lv_entry ([.ref h0]) (n := 4) (Nat.le_of_ble_eq_true rfl)
  rw [lg_entry_eq]
  generalize (lg_sl ([.ref h0]) ++ List.replicate (4 - (lg_sl ([.ref h0])).length) Slot.unset).toArray = ls at hl ⊢
  have hl : lv_has ls 4 [(0, .ref h0)] := hl
  refine z_nameQ (fun QQ hQQ => ?_)
  refine lv_iconst (v := 0) hx hb dX12_orders_0 (by decide) ?_
  refine lv_istore_n (lv' := [(1, .int 0), (0, .ref h0)]) hx hb dX12_orders_1 rfl hl (by decide) rfl (fun ls hl => ?_)
  have loop_1 : ∀ (n_2 : Nat) (i_4 : Int32) (f_5 : Nat → Int32) (H : Heap) (locs : List Loc) (ls : Array Slot), (145 - (i_4).toInt).toNat < n_2 → (((0 : Int) ≤ (i_4).toInt ∧ (i_4).toInt ≤ (144 : Int))) → va_P (dC, dI) vwCl [(h0, .inr (12, [h0_0, h0_1, h0_2, h0_3, .int mn, .ref hs, .ref ha, .ref hb9, h0_8, .ref hct, h0_10, .ref hbd, .ref hlt, .ref hrk, h0_14, h0_15, .int mq, h0_17, h0_18, h0_19, h0_20, h0_21, h0_22, h0_23, h0_24, h0_25, h0_26, h0_27, h0_28, h0_29, h0_30, h0_31, h0_32, h0_33, h0_34, h0_35, h0_36, h0_37, h0_38, h0_39, h0_40, h0_41, h0_42, h0_43, h0_44, h0_45, h0_46, h0_47, h0_48, h0_49, h0_50, h0_51, h0_52, h0_53, h0_54, h0_55, h0_56, h0_57, h0_58, h0_59, h0_60, h0_61, h0_62, h0_63, h0_64, h0_65, h0_66, h0_67, h0_68, h0_69])), (hct, .inl (chct, 80, .inl fhct)), (hs, .inl (chs, 80, .inl fhs)), (ha, .inl (cha, 80, .inl fha)), (hb9, .inl (chb9, 80, .inl fhb9)), (hbd, .inl (chbd, 12, .inl fhbd)), (hlt, .inl (chlt, 144, .inl f_5)), (hrk, .inl (chrk, 12, .inl fhrk))] H → va_D A [(h0, .inr (12, [h0_0, h0_1, h0_2, h0_3, .int mn, .ref hs, .ref ha, .ref hb9, h0_8, .ref hct, h0_10, .ref hbd, .ref hlt, .ref hrk, h0_14, h0_15, .int mq, h0_17, h0_18, h0_19, h0_20, h0_21, h0_22, h0_23, h0_24, h0_25, h0_26, h0_27, h0_28, h0_29, h0_30, h0_31, h0_32, h0_33, h0_34, h0_35, h0_36, h0_37, h0_38, h0_39, h0_40, h0_41, h0_42, h0_43, h0_44, h0_45, h0_46, h0_47, h0_48, h0_49, h0_50, h0_51, h0_52, h0_53, h0_54, h0_55, h0_56, h0_57, h0_58, h0_59, h0_60, h0_61, h0_62, h0_63, h0_64, h0_65, h0_66, h0_67, h0_68, h0_69])), (hct, .inl (chct, 80, .inl fhct)), (hs, .inl (chs, 80, .inl fhs)), (ha, .inl (cha, 80, .inl fha)), (hb9, .inl (chb9, 80, .inl fhb9)), (hbd, .inl (chbd, 12, .inl fhbd)), (hlt, .inl (chlt, 144, .inl f_5)), (hrk, .inl (chrk, 12, .inl fhrk))] → va_S A s.heap H locs → lv_has ls 4 [(1, .int i_4), (0, .ref h0)] → W p l e ({ frames := 0, cells := 0, slots := 0, locals := 0 } : Room) s m ([.ref h0] : List Value).toArray below meth c H locs 0 0 QQ (F0 m 2 ls []) := by
    intro n_2
    induction n_2 with
    | zero => intro i_4 f_5 H locs ls hm; exact absurd hm (Nat.not_lt_zero _)
    | succ n_2 ih_3 =>
      intro i_4 f_5 H locs ls hm hF_6 hP hD hS hl
      refine lv_iload_n hx hb dX12_orders_2 rfl (lv_at hl 0 rfl) ?_
      refine lv_sipush (v := 144) hx hb dX12_orders_3 (by decide) ?_
      refine lv_icmp_ge (tgt := 22) hx hb dX12_orders_6 (by decide) (fun c_7 => ?_) (fun c_7 => ?_)
      · have k_8 : (144 : Int) ≤ (i_4).toInt := z_le c_7
        obtain rfl : i_4 = 144 := z_eq' (show (i_4).toInt = (144 : Int) by omega)
        refine lv_iconst (v := 0) hx hb dX12_orders_22 (by decide) ?_
        refine lv_istore_n (lv' := [(1, .int 0), (0, .ref h0)]) hx hb dX12_orders_23 rfl hl (by decide) rfl (fun ls hl => ?_)
        have loop_10 : ∀ (n_11 : Nat) (i_13 : Int32) (f_14 : Nat → Int32) (H : Heap) (locs : List Loc) (ls : Array Slot), (81 - (i_13).toInt).toNat < n_11 → (((0 : Int) ≤ (i_13).toInt ∧ (i_13).toInt ≤ (80 : Int))) → va_P (dC, dI) vwCl [(h0, .inr (12, [h0_0, h0_1, h0_2, h0_3, .int mn, .ref hs, .ref ha, .ref hb9, h0_8, .ref hct, h0_10, .ref hbd, .ref hlt, .ref hrk, h0_14, h0_15, .int mq, h0_17, h0_18, h0_19, h0_20, h0_21, h0_22, h0_23, h0_24, h0_25, h0_26, h0_27, h0_28, h0_29, h0_30, h0_31, h0_32, h0_33, h0_34, h0_35, h0_36, h0_37, h0_38, h0_39, h0_40, h0_41, h0_42, h0_43, h0_44, h0_45, h0_46, h0_47, h0_48, h0_49, h0_50, h0_51, h0_52, h0_53, h0_54, h0_55, h0_56, h0_57, h0_58, h0_59, h0_60, h0_61, h0_62, h0_63, h0_64, h0_65, h0_66, h0_67, h0_68, h0_69])), (hct, .inl (chct, 80, .inl fhct)), (hs, .inl (chs, 80, .inl fhs)), (ha, .inl (cha, 80, .inl fha)), (hb9, .inl (chb9, 80, .inl fhb9)), (hbd, .inl (chbd, 12, .inl fhbd)), (hlt, .inl (chlt, 144, .inl f_14)), (hrk, .inl (chrk, 12, .inl fhrk))] H → va_D A [(h0, .inr (12, [h0_0, h0_1, h0_2, h0_3, .int mn, .ref hs, .ref ha, .ref hb9, h0_8, .ref hct, h0_10, .ref hbd, .ref hlt, .ref hrk, h0_14, h0_15, .int mq, h0_17, h0_18, h0_19, h0_20, h0_21, h0_22, h0_23, h0_24, h0_25, h0_26, h0_27, h0_28, h0_29, h0_30, h0_31, h0_32, h0_33, h0_34, h0_35, h0_36, h0_37, h0_38, h0_39, h0_40, h0_41, h0_42, h0_43, h0_44, h0_45, h0_46, h0_47, h0_48, h0_49, h0_50, h0_51, h0_52, h0_53, h0_54, h0_55, h0_56, h0_57, h0_58, h0_59, h0_60, h0_61, h0_62, h0_63, h0_64, h0_65, h0_66, h0_67, h0_68, h0_69])), (hct, .inl (chct, 80, .inl fhct)), (hs, .inl (chs, 80, .inl fhs)), (ha, .inl (cha, 80, .inl fha)), (hb9, .inl (chb9, 80, .inl fhb9)), (hbd, .inl (chbd, 12, .inl fhbd)), (hlt, .inl (chlt, 144, .inl f_14)), (hrk, .inl (chrk, 12, .inl fhrk))] → va_S A s.heap H locs → lv_has ls 4 [(1, .int i_13), (0, .ref h0)] → W p l e ({ frames := 0, cells := 0, slots := 0, locals := 0 } : Room) s m ([.ref h0] : List Value).toArray below meth c H locs 0 0 QQ (F0 m 24 ls []) := by
          intro n_11
          induction n_11 with
          | zero => intro i_13 f_14 H locs ls hm; exact absurd hm (Nat.not_lt_zero _)
          | succ n_11 ih_12 =>
            intro i_13 f_14 H locs ls hm hF_15 hP hD hS hl
            refine lv_iload_n hx hb dX12_orders_24 rfl (lv_at hl 0 rfl) ?_
            refine lv_aload_n hx hb dX12_orders_25 rfl (lv_at hl 1 rfl) ?_
            refine va_get (D := (dC, dI)) (ci := 12) (v := .int mn) (C := RX12) (T := TX12) (N := 70) hx hb hts hiX12 hown hK hP 0 rfl rfl 4 (by decide) w__fieldLink_RX12_154_ShellHeapModel_notes_I_ (fun _ h9 => h9) rfl dX12_orders_26 ?_
            refine lv_icmp_ge (tgt := 89) hx hb dX12_orders_29 (by decide) (fun c_16 => ?_) (fun c_16 => ?_)
            · have k_17 : (mn).toInt ≤ (i_13).toInt := z_le c_16
              refine lv_iconst (v := 0) hx hb dX12_orders_89 (by decide) ?_
              refine lv_istore_n (lv' := [(1, .int 0), (0, .ref h0)]) hx hb dX12_orders_90 rfl hl (by decide) rfl (fun ls hl => ?_)
              have loop_18 : ∀ (n_19 : Nat) (i_21 : Int32) (f_22 : Nat → Int32) (H : Heap) (locs : List Loc) (ls : Array Slot), (13 - (i_21).toInt).toNat < n_19 → (((0 : Int) ≤ (i_21).toInt ∧ (i_21).toInt ≤ (12 : Int))) → va_P (dC, dI) vwCl [(h0, .inr (12, [h0_0, h0_1, h0_2, h0_3, .int mn, .ref hs, .ref ha, .ref hb9, h0_8, .ref hct, h0_10, .ref hbd, .ref hlt, .ref hrk, h0_14, h0_15, .int mq, h0_17, h0_18, h0_19, h0_20, h0_21, h0_22, h0_23, h0_24, h0_25, h0_26, h0_27, h0_28, h0_29, h0_30, h0_31, h0_32, h0_33, h0_34, h0_35, h0_36, h0_37, h0_38, h0_39, h0_40, h0_41, h0_42, h0_43, h0_44, h0_45, h0_46, h0_47, h0_48, h0_49, h0_50, h0_51, h0_52, h0_53, h0_54, h0_55, h0_56, h0_57, h0_58, h0_59, h0_60, h0_61, h0_62, h0_63, h0_64, h0_65, h0_66, h0_67, h0_68, h0_69])), (hct, .inl (chct, 80, .inl fhct)), (hs, .inl (chs, 80, .inl fhs)), (ha, .inl (cha, 80, .inl fha)), (hb9, .inl (chb9, 80, .inl fhb9)), (hbd, .inl (chbd, 12, .inl fhbd)), (hlt, .inl (chlt, 144, .inl f_22)), (hrk, .inl (chrk, 12, .inl fhrk))] H → va_D A [(h0, .inr (12, [h0_0, h0_1, h0_2, h0_3, .int mn, .ref hs, .ref ha, .ref hb9, h0_8, .ref hct, h0_10, .ref hbd, .ref hlt, .ref hrk, h0_14, h0_15, .int mq, h0_17, h0_18, h0_19, h0_20, h0_21, h0_22, h0_23, h0_24, h0_25, h0_26, h0_27, h0_28, h0_29, h0_30, h0_31, h0_32, h0_33, h0_34, h0_35, h0_36, h0_37, h0_38, h0_39, h0_40, h0_41, h0_42, h0_43, h0_44, h0_45, h0_46, h0_47, h0_48, h0_49, h0_50, h0_51, h0_52, h0_53, h0_54, h0_55, h0_56, h0_57, h0_58, h0_59, h0_60, h0_61, h0_62, h0_63, h0_64, h0_65, h0_66, h0_67, h0_68, h0_69])), (hct, .inl (chct, 80, .inl fhct)), (hs, .inl (chs, 80, .inl fhs)), (ha, .inl (cha, 80, .inl fha)), (hb9, .inl (chb9, 80, .inl fhb9)), (hbd, .inl (chbd, 12, .inl fhbd)), (hlt, .inl (chlt, 144, .inl f_22)), (hrk, .inl (chrk, 12, .inl fhrk))] → va_S A s.heap H locs → lv_has ls 4 [(1, .int i_21), (0, .ref h0)] → W p l e ({ frames := 0, cells := 0, slots := 0, locals := 0 } : Room) s m ([.ref h0] : List Value).toArray below meth c H locs 0 0 QQ (F0 m 91 ls []) := by
                intro n_19
                induction n_19 with
                | zero => intro i_21 f_22 H locs ls hm; exact absurd hm (Nat.not_lt_zero _)
                | succ n_19 ih_20 =>
                  intro i_21 f_22 H locs ls hm hF_23 hP hD hS hl
                  refine lv_iload_n hx hb dX12_orders_91 rfl (lv_at hl 0 rfl) ?_
                  refine lv_bipush (v := 12) hx hb dX12_orders_92 (by decide) ?_
                  refine lv_icmp_ge (tgt := 189) hx hb dX12_orders_94 (by decide) (fun c_24 => ?_) (fun c_24 => ?_)
                  · have k_25 : (12 : Int) ≤ (i_21).toInt := z_le c_24
                    obtain rfl : i_21 = 12 := z_eq' (show (i_21).toInt = (12 : Int) by omega)
                    refine lv_aload_n hx hb dX12_orders_189 rfl (lv_at hl 1 rfl) ?_
                    refine lv_iconst (v := 0) hx hb dX12_orders_190 (by decide) ?_
                    refine va_put (D := (dC, dI)) (ci := 12) (v := .int 0) (ty := .int) (C := RX12) (T := TX12) (N := 70) hx hb hts hiX12 tyX12 tyX12_ok nmX12 hown hK hP hD hS 0 rfl rfl 16 (by decide) w__fieldLink_RX12_167_ShellHeapModel_quarrelNow_I_ (fun _ h9 => h9) rfl (by decide +kernel) rfl rfl (Nat.le_of_ble_eq_true rfl) dX12_orders_191 (fun H_27 locs hP hD hS => ?_)
                    obtain ⟨hP, hD⟩ := z_s_0_16 hP hD
                    refine lv_iconst (v := 0) hx hb dX12_orders_194 (by decide) ?_
                    refine lv_istore_n (lv' := [(1, .int 0), (0, .ref h0)]) hx hb dX12_orders_195 rfl hl (by decide) rfl (fun ls hl => ?_)
                    have loop_28 : ∀ (n_29 : Nat) (i_31 : Int32) (v_32 : Int32) (H : Heap) (locs : List Loc) (ls : Array Slot), (13 - (i_31).toInt).toNat < n_29 → (((0 : Int) ≤ (i_31).toInt ∧ (i_31).toInt ≤ (12 : Int))) → (((0 : Int) ≤ (v_32).toInt ∧ (v_32).toInt ≤ (2 : Int))) → va_P (dC, dI) vwCl [(h0, .inr (12, [h0_0, h0_1, h0_2, h0_3, .int mn, .ref hs, .ref ha, .ref hb9, h0_8, .ref hct, h0_10, .ref hbd, .ref hlt, .ref hrk, h0_14, h0_15, .int v_32, h0_17, h0_18, h0_19, h0_20, h0_21, h0_22, h0_23, h0_24, h0_25, h0_26, h0_27, h0_28, h0_29, h0_30, h0_31, h0_32, h0_33, h0_34, h0_35, h0_36, h0_37, h0_38, h0_39, h0_40, h0_41, h0_42, h0_43, h0_44, h0_45, h0_46, h0_47, h0_48, h0_49, h0_50, h0_51, h0_52, h0_53, h0_54, h0_55, h0_56, h0_57, h0_58, h0_59, h0_60, h0_61, h0_62, h0_63, h0_64, h0_65, h0_66, h0_67, h0_68, h0_69])), (hct, .inl (chct, 80, .inl fhct)), (hs, .inl (chs, 80, .inl fhs)), (ha, .inl (cha, 80, .inl fha)), (hb9, .inl (chb9, 80, .inl fhb9)), (hbd, .inl (chbd, 12, .inl fhbd)), (hlt, .inl (chlt, 144, .inl f_22)), (hrk, .inl (chrk, 12, .inl fhrk))] H → va_D A [(h0, .inr (12, [h0_0, h0_1, h0_2, h0_3, .int mn, .ref hs, .ref ha, .ref hb9, h0_8, .ref hct, h0_10, .ref hbd, .ref hlt, .ref hrk, h0_14, h0_15, .int v_32, h0_17, h0_18, h0_19, h0_20, h0_21, h0_22, h0_23, h0_24, h0_25, h0_26, h0_27, h0_28, h0_29, h0_30, h0_31, h0_32, h0_33, h0_34, h0_35, h0_36, h0_37, h0_38, h0_39, h0_40, h0_41, h0_42, h0_43, h0_44, h0_45, h0_46, h0_47, h0_48, h0_49, h0_50, h0_51, h0_52, h0_53, h0_54, h0_55, h0_56, h0_57, h0_58, h0_59, h0_60, h0_61, h0_62, h0_63, h0_64, h0_65, h0_66, h0_67, h0_68, h0_69])), (hct, .inl (chct, 80, .inl fhct)), (hs, .inl (chs, 80, .inl fhs)), (ha, .inl (cha, 80, .inl fha)), (hb9, .inl (chb9, 80, .inl fhb9)), (hbd, .inl (chbd, 12, .inl fhbd)), (hlt, .inl (chlt, 144, .inl f_22)), (hrk, .inl (chrk, 12, .inl fhrk))] → va_S A s.heap H locs → lv_has ls 4 [(1, .int i_31), (0, .ref h0)] → W p l e ({ frames := 0, cells := 0, slots := 0, locals := 0 } : Room) s m ([.ref h0] : List Value).toArray below meth c H locs 0 0 QQ (F0 m 196 ls []) := by
                      intro n_29
                      induction n_29 with
                      | zero => intro i_31 v_32 H locs ls hm; exact absurd hm (Nat.not_lt_zero _)
                      | succ n_29 ih_30 =>
                        intro i_31 v_32 H locs ls hm hF_33 hF_34 hP hD hS hl
                        refine lv_iload_n hx hb dX12_orders_196 rfl (lv_at hl 0 rfl) ?_
                        refine lv_bipush (v := 12) hx hb dX12_orders_197 (by decide) ?_
                        refine lv_icmp_ge (tgt := 232) hx hb dX12_orders_199 (by decide) (fun c_35 => ?_) (fun c_35 => ?_)
                        · have k_36 : (12 : Int) ≤ (i_31).toInt := z_le c_35
                          obtain rfl : i_31 = 12 := z_eq' (show (i_31).toInt = (12 : Int) by omega)
                          refine lv_iconst (v := 0) hx hb dX12_orders_232 (by decide) ?_
                          refine lv_istore_n (lv' := [(1, .int 0), (0, .ref h0)]) hx hb dX12_orders_233 rfl hl (by decide) rfl (fun ls hl => ?_)
                          have loop_38 : ∀ (n_39 : Nat) (i_41 : Int32) (f_42 : Nat → Int32) (H : Heap) (locs : List Loc) (ls : Array Slot), (13 - (i_41).toInt).toNat < n_39 → (((0 : Int) ≤ (i_41).toInt ∧ (i_41).toInt ≤ (12 : Int))) → va_P (dC, dI) vwCl [(h0, .inr (12, [h0_0, h0_1, h0_2, h0_3, .int mn, .ref hs, .ref ha, .ref hb9, h0_8, .ref hct, h0_10, .ref hbd, .ref hlt, .ref hrk, h0_14, h0_15, .int v_32, h0_17, h0_18, h0_19, h0_20, h0_21, h0_22, h0_23, h0_24, h0_25, h0_26, h0_27, h0_28, h0_29, h0_30, h0_31, h0_32, h0_33, h0_34, h0_35, h0_36, h0_37, h0_38, h0_39, h0_40, h0_41, h0_42, h0_43, h0_44, h0_45, h0_46, h0_47, h0_48, h0_49, h0_50, h0_51, h0_52, h0_53, h0_54, h0_55, h0_56, h0_57, h0_58, h0_59, h0_60, h0_61, h0_62, h0_63, h0_64, h0_65, h0_66, h0_67, h0_68, h0_69])), (hct, .inl (chct, 80, .inl fhct)), (hs, .inl (chs, 80, .inl fhs)), (ha, .inl (cha, 80, .inl fha)), (hb9, .inl (chb9, 80, .inl fhb9)), (hbd, .inl (chbd, 12, .inl fhbd)), (hlt, .inl (chlt, 144, .inl f_22)), (hrk, .inl (chrk, 12, .inl f_42))] H → va_D A [(h0, .inr (12, [h0_0, h0_1, h0_2, h0_3, .int mn, .ref hs, .ref ha, .ref hb9, h0_8, .ref hct, h0_10, .ref hbd, .ref hlt, .ref hrk, h0_14, h0_15, .int v_32, h0_17, h0_18, h0_19, h0_20, h0_21, h0_22, h0_23, h0_24, h0_25, h0_26, h0_27, h0_28, h0_29, h0_30, h0_31, h0_32, h0_33, h0_34, h0_35, h0_36, h0_37, h0_38, h0_39, h0_40, h0_41, h0_42, h0_43, h0_44, h0_45, h0_46, h0_47, h0_48, h0_49, h0_50, h0_51, h0_52, h0_53, h0_54, h0_55, h0_56, h0_57, h0_58, h0_59, h0_60, h0_61, h0_62, h0_63, h0_64, h0_65, h0_66, h0_67, h0_68, h0_69])), (hct, .inl (chct, 80, .inl fhct)), (hs, .inl (chs, 80, .inl fhs)), (ha, .inl (cha, 80, .inl fha)), (hb9, .inl (chb9, 80, .inl fhb9)), (hbd, .inl (chbd, 12, .inl fhbd)), (hlt, .inl (chlt, 144, .inl f_22)), (hrk, .inl (chrk, 12, .inl f_42))] → va_S A s.heap H locs → lv_has ls 4 [(1, .int i_41), (0, .ref h0)] → W p l e ({ frames := 0, cells := 0, slots := 0, locals := 0 } : Room) s m ([.ref h0] : List Value).toArray below meth c H locs 0 0 QQ (F0 m 234 ls []) := by
                            intro n_39
                            induction n_39 with
                            | zero => intro i_41 f_42 H locs ls hm; exact absurd hm (Nat.not_lt_zero _)
                            | succ n_39 ih_40 =>
                              intro i_41 f_42 H locs ls hm hF_43 hP hD hS hl
                              refine lv_iload_n hx hb dX12_orders_234 rfl (lv_at hl 0 rfl) ?_
                              refine lv_bipush (v := 12) hx hb dX12_orders_235 (by decide) ?_
                              refine lv_icmp_ge (tgt := 253) hx hb dX12_orders_237 (by decide) (fun c_44 => ?_) (fun c_44 => ?_)
                              · have k_45 : (12 : Int) ≤ (i_41).toInt := z_le c_44
                                obtain rfl : i_41 = 12 := z_eq' (show (i_41).toInt = (12 : Int) by omega)
                                refine lv_iconst (v := 0) hx hb dX12_orders_253 (by decide) ?_
                                refine lv_istore_n (lv' := [(1, .int 0), (0, .ref h0)]) hx hb dX12_orders_254 rfl hl (by decide) rfl (fun ls hl => ?_)
                                have loop_47 : ∀ (n_48 : Nat) (i_50 : Int32) (f_51 : Nat → Int32) (H : Heap) (locs : List Loc) (ls : Array Slot), (13 - (i_50).toInt).toNat < n_48 → (((0 : Int) ≤ (i_50).toInt ∧ (i_50).toInt ≤ (12 : Int))) → va_P (dC, dI) vwCl [(h0, .inr (12, [h0_0, h0_1, h0_2, h0_3, .int mn, .ref hs, .ref ha, .ref hb9, h0_8, .ref hct, h0_10, .ref hbd, .ref hlt, .ref hrk, h0_14, h0_15, .int v_32, h0_17, h0_18, h0_19, h0_20, h0_21, h0_22, h0_23, h0_24, h0_25, h0_26, h0_27, h0_28, h0_29, h0_30, h0_31, h0_32, h0_33, h0_34, h0_35, h0_36, h0_37, h0_38, h0_39, h0_40, h0_41, h0_42, h0_43, h0_44, h0_45, h0_46, h0_47, h0_48, h0_49, h0_50, h0_51, h0_52, h0_53, h0_54, h0_55, h0_56, h0_57, h0_58, h0_59, h0_60, h0_61, h0_62, h0_63, h0_64, h0_65, h0_66, h0_67, h0_68, h0_69])), (hct, .inl (chct, 80, .inl fhct)), (hs, .inl (chs, 80, .inl fhs)), (ha, .inl (cha, 80, .inl fha)), (hb9, .inl (chb9, 80, .inl fhb9)), (hbd, .inl (chbd, 12, .inl fhbd)), (hlt, .inl (chlt, 144, .inl f_22)), (hrk, .inl (chrk, 12, .inl f_51))] H → va_D A [(h0, .inr (12, [h0_0, h0_1, h0_2, h0_3, .int mn, .ref hs, .ref ha, .ref hb9, h0_8, .ref hct, h0_10, .ref hbd, .ref hlt, .ref hrk, h0_14, h0_15, .int v_32, h0_17, h0_18, h0_19, h0_20, h0_21, h0_22, h0_23, h0_24, h0_25, h0_26, h0_27, h0_28, h0_29, h0_30, h0_31, h0_32, h0_33, h0_34, h0_35, h0_36, h0_37, h0_38, h0_39, h0_40, h0_41, h0_42, h0_43, h0_44, h0_45, h0_46, h0_47, h0_48, h0_49, h0_50, h0_51, h0_52, h0_53, h0_54, h0_55, h0_56, h0_57, h0_58, h0_59, h0_60, h0_61, h0_62, h0_63, h0_64, h0_65, h0_66, h0_67, h0_68, h0_69])), (hct, .inl (chct, 80, .inl fhct)), (hs, .inl (chs, 80, .inl fhs)), (ha, .inl (cha, 80, .inl fha)), (hb9, .inl (chb9, 80, .inl fhb9)), (hbd, .inl (chbd, 12, .inl fhbd)), (hlt, .inl (chlt, 144, .inl f_22)), (hrk, .inl (chrk, 12, .inl f_51))] → va_S A s.heap H locs → lv_has ls 4 [(1, .int i_50), (0, .ref h0)] → W p l e ({ frames := 0, cells := 0, slots := 0, locals := 0 } : Room) s m ([.ref h0] : List Value).toArray below meth c H locs 0 0 QQ (F0 m 255 ls []) := by
                                  intro n_48
                                  induction n_48 with
                                  | zero => intro i_50 f_51 H locs ls hm; exact absurd hm (Nat.not_lt_zero _)
                                  | succ n_48 ih_49 =>
                                    intro i_50 f_51 H locs ls hm hF_52 hP hD hS hl
                                    refine lv_iload_n hx hb dX12_orders_255 rfl (lv_at hl 0 rfl) ?_
                                    refine lv_bipush (v := 12) hx hb dX12_orders_256 (by decide) ?_
                                    refine lv_icmp_ge (tgt := 345) hx hb dX12_orders_258 (by decide) (fun c_53 => ?_) (fun c_53 => ?_)
                                    · have k_54 : (12 : Int) ≤ (i_50).toInt := z_le c_53
                                      obtain rfl : i_50 = 12 := z_eq' (show (i_50).toInt = (12 : Int) by omega)
                                      refine z_backQ hQQ ?_
                                      have hP9 := hP
                                      have hD9 := hD
                                      have hK9 := hK.sub (tys' := []) [] rfl
                                      refine W.widen (k := 0) (n := 0) (Nat.le_of_ble_eq_true rfl) (Nat.le_of_ble_eq_true rfl) ?_
                                      exact W.vret hx hb hr (fun t ht hW => ⟨⟨(), rfl, trivial, ⟨v_32, f_22, f_51, hF_34, by rw [ht]; exact hP9, va_K.moved hW.alike hK9, hD9⟩⟩, hS.F ht⟩) hS.2.2 dX12_orders_345
                                    · have k_56 : (12 : Int) > (i_50).toInt := z_nle c_53
                                      refine lv_aload_n hx hb dX12_orders_261 rfl (lv_at hl 1 rfl) ?_
                                      refine va_get (D := (dC, dI)) (ci := 12) (v := .int v_32) (C := RX12) (T := TX12) (N := 70) hx hb hts hiX12 hown hK hP 0 rfl rfl 16 (by decide) w__fieldLink_RX12_167_ShellHeapModel_quarrelNow_I_ (fun _ h9 => h9) rfl dX12_orders_262 ?_
                                      refine lv_if_ne (tgt := 345) hx hb dX12_orders_265 (by decide) (fun c_57 => ?_) (fun c_57 => ?_)
                                      · have k_58 : (v_32).toInt ≠ (0 : Int) := z_ne c_57
                                        refine z_backQ hQQ ?_
                                        have hP9 := hP
                                        have hD9 := hD
                                        have hK9 := hK.sub (tys' := []) [] rfl
                                        refine W.widen (k := 0) (n := 0) (Nat.le_of_ble_eq_true rfl) (Nat.le_of_ble_eq_true rfl) ?_
                                        exact W.vret hx hb hr (fun t ht hW => ⟨⟨(), rfl, trivial, ⟨v_32, f_22, f_51, hF_34, by rw [ht]; exact hP9, va_K.moved hW.alike hK9, hD9⟩⟩, hS.F ht⟩) hS.2.2 dX12_orders_345
                                      · have k_59 : (v_32).toInt = (0 : Int) := z_eq c_57
                                        obtain rfl : v_32 = 0 := z_eq' (show (v_32).toInt = (0 : Int) by omega)
                                        refine lv_iconst (v := 0) hx hb dX12_orders_268 (by decide) ?_
                                        refine lv_istore_n (lv' := [(2, .int 0), (1, .int i_50), (0, .ref h0)]) hx hb dX12_orders_269 rfl hl (by decide) rfl (fun ls hl => ?_)
                                        have loop_61 : ∀ (n_62 : Nat) (i_64 : Int32) (f_65 : Nat → Int32) (H : Heap) (locs : List Loc) (ls : Array Slot), (13 - (i_64).toInt).toNat < n_62 → (((0 : Int) ≤ (i_64).toInt ∧ (i_64).toInt ≤ (12 : Int))) → va_P (dC, dI) vwCl [(h0, .inr (12, [h0_0, h0_1, h0_2, h0_3, .int mn, .ref hs, .ref ha, .ref hb9, h0_8, .ref hct, h0_10, .ref hbd, .ref hlt, .ref hrk, h0_14, h0_15, .int 0, h0_17, h0_18, h0_19, h0_20, h0_21, h0_22, h0_23, h0_24, h0_25, h0_26, h0_27, h0_28, h0_29, h0_30, h0_31, h0_32, h0_33, h0_34, h0_35, h0_36, h0_37, h0_38, h0_39, h0_40, h0_41, h0_42, h0_43, h0_44, h0_45, h0_46, h0_47, h0_48, h0_49, h0_50, h0_51, h0_52, h0_53, h0_54, h0_55, h0_56, h0_57, h0_58, h0_59, h0_60, h0_61, h0_62, h0_63, h0_64, h0_65, h0_66, h0_67, h0_68, h0_69])), (hct, .inl (chct, 80, .inl fhct)), (hs, .inl (chs, 80, .inl fhs)), (ha, .inl (cha, 80, .inl fha)), (hb9, .inl (chb9, 80, .inl fhb9)), (hbd, .inl (chbd, 12, .inl fhbd)), (hlt, .inl (chlt, 144, .inl f_22)), (hrk, .inl (chrk, 12, .inl f_65))] H → va_D A [(h0, .inr (12, [h0_0, h0_1, h0_2, h0_3, .int mn, .ref hs, .ref ha, .ref hb9, h0_8, .ref hct, h0_10, .ref hbd, .ref hlt, .ref hrk, h0_14, h0_15, .int 0, h0_17, h0_18, h0_19, h0_20, h0_21, h0_22, h0_23, h0_24, h0_25, h0_26, h0_27, h0_28, h0_29, h0_30, h0_31, h0_32, h0_33, h0_34, h0_35, h0_36, h0_37, h0_38, h0_39, h0_40, h0_41, h0_42, h0_43, h0_44, h0_45, h0_46, h0_47, h0_48, h0_49, h0_50, h0_51, h0_52, h0_53, h0_54, h0_55, h0_56, h0_57, h0_58, h0_59, h0_60, h0_61, h0_62, h0_63, h0_64, h0_65, h0_66, h0_67, h0_68, h0_69])), (hct, .inl (chct, 80, .inl fhct)), (hs, .inl (chs, 80, .inl fhs)), (ha, .inl (cha, 80, .inl fha)), (hb9, .inl (chb9, 80, .inl fhb9)), (hbd, .inl (chbd, 12, .inl fhbd)), (hlt, .inl (chlt, 144, .inl f_22)), (hrk, .inl (chrk, 12, .inl f_65))] → va_S A s.heap H locs → lv_has ls 4 [(2, .int i_64), (1, .int i_50), (0, .ref h0)] → W p l e ({ frames := 0, cells := 0, slots := 0, locals := 0 } : Room) s m ([.ref h0] : List Value).toArray below meth c H locs 0 0 QQ (F0 m 270 ls []) := by
                                          intro n_62
                                          induction n_62 with
                                          | zero => intro i_64 f_65 H locs ls hm; exact absurd hm (Nat.not_lt_zero _)
                                          | succ n_62 ih_63 =>
                                            intro i_64 f_65 H locs ls hm hF_66 hP hD hS hl
                                            refine lv_iload_n hx hb dX12_orders_270 rfl (lv_at hl 0 rfl) ?_
                                            refine lv_bipush (v := 12) hx hb dX12_orders_271 (by decide) ?_
                                            refine lv_icmp_ge (tgt := 339) hx hb dX12_orders_273 (by decide) (fun c_67 => ?_) (fun c_67 => ?_)
                                            · have k_68 : (12 : Int) ≤ (i_64).toInt := z_le c_67
                                              obtain rfl : i_64 = 12 := z_eq' (show (i_64).toInt = (12 : Int) by omega)
                                              obtain ⟨z_70, ez_70⟩ : ∃ y : Int32, y = i_50 + 1 := ⟨_, rfl⟩
                                              have kz_70 : (z_70).toInt = (i_50).toInt + (1 : Int) := by rw [ez_70]; exact z_add (b := 1) rfl rfl (z_al hF_52.1 (by decide)) (z_ah hF_52.2 (by decide))
                                              refine lv_iinc (v := z_70) (lv' := [(1, .int z_70), (2, .int 12), (0, .ref h0)]) hx hb dX12_orders_339 hl (k := 1) rfl (by rw [ez_70]; rfl) (by decide) rfl (fun ls hl => ?_)
                                              refine lv_goto (tgt := 255) hx hb dX12_orders_342 (by decide) ?_
                                              exact ih_49 z_70 f_65 _ _ _ (show (13 - (z_70).toInt).toNat < n_48 by omega) (show ((0 : Int) ≤ (z_70).toInt ∧ (z_70).toInt ≤ (12 : Int)) by omega) hP hD hS (lv_sub hl [0, 2] rfl)
                                            · have k_71 : (12 : Int) > (i_64).toInt := z_nle c_67
                                              refine lv_iconst (v := 0) hx hb dX12_orders_276 (by decide) ?_
                                              refine lv_istore_n (lv' := [(3, .int 0), (2, .int i_64), (1, .int i_50), (0, .ref h0)]) hx hb dX12_orders_277 rfl hl (by decide) rfl (fun ls hl => ?_)
                                              have loop_72 : ∀ (n_73 : Nat) (i_75 : Int32) (f_76 : Nat → Int32) (H : Heap) (locs : List Loc) (ls : Array Slot), (13 - (i_75).toInt).toNat < n_73 → (((0 : Int) ≤ (i_75).toInt ∧ (i_75).toInt ≤ (12 : Int))) → va_P (dC, dI) vwCl [(h0, .inr (12, [h0_0, h0_1, h0_2, h0_3, .int mn, .ref hs, .ref ha, .ref hb9, h0_8, .ref hct, h0_10, .ref hbd, .ref hlt, .ref hrk, h0_14, h0_15, .int 0, h0_17, h0_18, h0_19, h0_20, h0_21, h0_22, h0_23, h0_24, h0_25, h0_26, h0_27, h0_28, h0_29, h0_30, h0_31, h0_32, h0_33, h0_34, h0_35, h0_36, h0_37, h0_38, h0_39, h0_40, h0_41, h0_42, h0_43, h0_44, h0_45, h0_46, h0_47, h0_48, h0_49, h0_50, h0_51, h0_52, h0_53, h0_54, h0_55, h0_56, h0_57, h0_58, h0_59, h0_60, h0_61, h0_62, h0_63, h0_64, h0_65, h0_66, h0_67, h0_68, h0_69])), (hct, .inl (chct, 80, .inl fhct)), (hs, .inl (chs, 80, .inl fhs)), (ha, .inl (cha, 80, .inl fha)), (hb9, .inl (chb9, 80, .inl fhb9)), (hbd, .inl (chbd, 12, .inl fhbd)), (hlt, .inl (chlt, 144, .inl f_22)), (hrk, .inl (chrk, 12, .inl f_76))] H → va_D A [(h0, .inr (12, [h0_0, h0_1, h0_2, h0_3, .int mn, .ref hs, .ref ha, .ref hb9, h0_8, .ref hct, h0_10, .ref hbd, .ref hlt, .ref hrk, h0_14, h0_15, .int 0, h0_17, h0_18, h0_19, h0_20, h0_21, h0_22, h0_23, h0_24, h0_25, h0_26, h0_27, h0_28, h0_29, h0_30, h0_31, h0_32, h0_33, h0_34, h0_35, h0_36, h0_37, h0_38, h0_39, h0_40, h0_41, h0_42, h0_43, h0_44, h0_45, h0_46, h0_47, h0_48, h0_49, h0_50, h0_51, h0_52, h0_53, h0_54, h0_55, h0_56, h0_57, h0_58, h0_59, h0_60, h0_61, h0_62, h0_63, h0_64, h0_65, h0_66, h0_67, h0_68, h0_69])), (hct, .inl (chct, 80, .inl fhct)), (hs, .inl (chs, 80, .inl fhs)), (ha, .inl (cha, 80, .inl fha)), (hb9, .inl (chb9, 80, .inl fhb9)), (hbd, .inl (chbd, 12, .inl fhbd)), (hlt, .inl (chlt, 144, .inl f_22)), (hrk, .inl (chrk, 12, .inl f_76))] → va_S A s.heap H locs → lv_has ls 4 [(3, .int i_75), (2, .int i_64), (1, .int i_50), (0, .ref h0)] → W p l e ({ frames := 0, cells := 0, slots := 0, locals := 0 } : Room) s m ([.ref h0] : List Value).toArray below meth c H locs 0 0 QQ (F0 m 278 ls []) := by
                                                intro n_73
                                                induction n_73 with
                                                | zero => intro i_75 f_76 H locs ls hm; exact absurd hm (Nat.not_lt_zero _)
                                                | succ n_73 ih_74 =>
                                                  intro i_75 f_76 H locs ls hm hF_77 hP hD hS hl
                                                  refine lv_iload_n hx hb dX12_orders_278 rfl (lv_at hl 0 rfl) ?_
                                                  refine lv_bipush (v := 12) hx hb dX12_orders_279 (by decide) ?_
                                                  refine lv_icmp_ge (tgt := 333) hx hb dX12_orders_281 (by decide) (fun c_78 => ?_) (fun c_78 => ?_)
                                                  · have k_79 : (12 : Int) ≤ (i_75).toInt := z_le c_78
                                                    obtain rfl : i_75 = 12 := z_eq' (show (i_75).toInt = (12 : Int) by omega)
                                                    obtain ⟨z_81, ez_81⟩ : ∃ y : Int32, y = i_64 + 1 := ⟨_, rfl⟩
                                                    have kz_81 : (z_81).toInt = (i_64).toInt + (1 : Int) := by rw [ez_81]; exact z_add (b := 1) rfl rfl (z_al hF_66.1 (by decide)) (z_ah hF_66.2 (by decide))
                                                    refine lv_iinc (v := z_81) (lv' := [(2, .int z_81), (3, .int 12), (1, .int i_50), (0, .ref h0)]) hx hb dX12_orders_333 hl (k := 1) rfl (by rw [ez_81]; rfl) (by decide) rfl (fun ls hl => ?_)
                                                    refine lv_goto (tgt := 270) hx hb dX12_orders_336 (by decide) ?_
                                                    exact ih_63 z_81 f_76 _ _ _ (show (13 - (z_81).toInt).toNat < n_62 by omega) (show ((0 : Int) ≤ (z_81).toInt ∧ (z_81).toInt ≤ (12 : Int)) by omega) hP hD hS (lv_sub hl [0, 2, 3] rfl)
                                                  · have k_82 : (12 : Int) > (i_75).toInt := z_nle c_78
                                                    refine lv_aload_n hx hb dX12_orders_284 rfl (lv_at hl 3 rfl) ?_
                                                    refine va_get (D := (dC, dI)) (ci := 12) (v := .ref hlt) (C := RX12) (T := TX12) (N := 70) hx hb hts hiX12 hown hK hP 0 rfl rfl 12 (by decide) w__fieldLink_RX12_35_ShellHeapModel_later_Z_ (fun _ h9 => h9) rfl dX12_orders_285 ?_
                                                    refine lv_bipush (v := 12) hx hb dX12_orders_288 (by decide) ?_
                                                    refine lv_iload_n hx hb dX12_orders_290 rfl (lv_at hl 1 rfl) ?_
                                                    refine lv_imul hx hb dX12_orders_291 ?_
                                                    refine lv_topi (fun z_83 ez_83 => ?_)
                                                    have kz_83 : (z_83).toInt = (12 : Int) * (i_64).toInt := by rw [ez_83]; exact z_mul (a := (12 : Int)) (b := (i_64).toInt) rfl rfl (by omega) (by omega)
                                                    refine lv_iload_n hx hb dX12_orders_292 rfl (lv_at hl 0 rfl) ?_
                                                    refine lv_iadd hx hb dX12_orders_293 ?_
                                                    refine lv_topi (fun z_84 ez_84 => ?_)
                                                    have kz_84 : (z_84).toInt = (z_83).toInt + (i_75).toInt := by rw [ez_84]; exact z_add (a := (z_83).toInt) (b := (i_75).toInt) rfl rfl (by omega) (by omega)
                                                    refine va_zald hx hb hK hP 6 5 rfl rfl (z_vpin (by omega) (by omega)) dX12_orders_294 ?_
                                                    refine lv_topi (fun z_85 ez_85 => ?_)
                                                    refine lv_if_eq (tgt := 327) hx hb dX12_orders_295 (by decide) (fun c_86 => ?_) (fun c_86 => ?_)
                                                    · have k_87 : (z_85).toInt = (0 : Int) := z_eq c_86
                                                      obtain rfl : z_85 = 0 := z_eq' (show (z_85).toInt = (0 : Int) by omega)
                                                      obtain ⟨z_89, ez_89⟩ : ∃ y : Int32, y = i_75 + 1 := ⟨_, rfl⟩
                                                      have kz_89 : (z_89).toInt = (i_75).toInt + (1 : Int) := by rw [ez_89]; exact z_add (b := 1) rfl rfl (z_al hF_77.1 (by decide)) (z_ah hF_77.2 (by decide))
                                                      refine lv_iinc (v := z_89) (lv' := [(3, .int z_89), (2, .int i_64), (1, .int i_50), (0, .ref h0)]) hx hb dX12_orders_327 hl (k := 0) rfl (by rw [ez_89]; rfl) (by decide) rfl (fun ls hl => ?_)
                                                      refine lv_goto (tgt := 278) hx hb dX12_orders_330 (by decide) ?_
                                                      exact ih_74 z_89 f_76 _ _ _ (show (13 - (z_89).toInt).toNat < n_73 by omega) (show ((0 : Int) ≤ (z_89).toInt ∧ (z_89).toInt ≤ (12 : Int)) by omega) hP hD hS (lv_sub hl [0, 1, 2, 3] rfl)
                                                    · have k_90 : (z_85).toInt ≠ (0 : Int) := z_ne c_86
                                                      refine lv_aload_n hx hb dX12_orders_298 rfl (lv_at hl 3 rfl) ?_
                                                      refine va_get (D := (dC, dI)) (ci := 12) (v := .ref hrk) (C := RX12) (T := TX12) (N := 70) hx hb hts hiX12 hown hK hP 0 rfl rfl 13 (by decide) w__fieldLink_RX12_38_ShellHeapModel_rank_I_ (fun _ h9 => h9) rfl dX12_orders_299 ?_
                                                      refine lv_iload_n hx hb dX12_orders_302 rfl (lv_at hl 1 rfl) ?_
                                                      refine va_iald hx hb hK hP 7 6 rfl rfl (z_vpin (by omega) (by omega)) dX12_orders_303 ?_
                                                      refine lv_topi (fun z_91 ez_91 => ?_)
                                                      refine lv_aload_n hx hb dX12_orders_304 rfl (lv_at hl 3 rfl) ?_
                                                      refine va_get (D := (dC, dI)) (ci := 12) (v := .ref hrk) (C := RX12) (T := TX12) (N := 70) hx hb hts hiX12 hown hK hP 0 rfl rfl 13 (by decide) w__fieldLink_RX12_38_ShellHeapModel_rank_I_ (fun _ h9 => h9) rfl dX12_orders_305 ?_
                                                      refine lv_iload_n hx hb dX12_orders_308 rfl (lv_at hl 0 rfl) ?_
                                                      refine va_iald hx hb hK hP 7 6 rfl rfl (z_vpin (by omega) (by omega)) dX12_orders_309 ?_
                                                      refine lv_topi (fun z_92 ez_92 => ?_)
                                                      refine lv_icmp_gt (tgt := 327) hx hb dX12_orders_310 (by decide) (fun c_93 => ?_) (fun c_93 => ?_)
                                                      · have k_94 : (z_92).toInt < (z_91).toInt := z_lt c_93
                                                        obtain ⟨z_95, ez_95⟩ : ∃ y : Int32, y = i_75 + 1 := ⟨_, rfl⟩
                                                        have kz_95 : (z_95).toInt = (i_75).toInt + (1 : Int) := by rw [ez_95]; exact z_add (b := 1) rfl rfl (z_al hF_77.1 (by decide)) (z_ah hF_77.2 (by decide))
                                                        refine lv_iinc (v := z_95) (lv' := [(3, .int z_95), (2, .int i_64), (1, .int i_50), (0, .ref h0)]) hx hb dX12_orders_327 hl (k := 0) rfl (by rw [ez_95]; rfl) (by decide) rfl (fun ls hl => ?_)
                                                        refine lv_goto (tgt := 278) hx hb dX12_orders_330 (by decide) ?_
                                                        exact ih_74 z_95 f_76 _ _ _ (show (13 - (z_95).toInt).toNat < n_73 by omega) (show ((0 : Int) ≤ (z_95).toInt ∧ (z_95).toInt ≤ (12 : Int)) by omega) hP hD hS (lv_sub hl [0, 1, 2, 3] rfl)
                                                      · have k_96 : (z_92).toInt ≥ (z_91).toInt := z_nlt c_93
                                                        refine lv_aload_n hx hb dX12_orders_313 rfl (lv_at hl 3 rfl) ?_
                                                        refine va_get (D := (dC, dI)) (ci := 12) (v := .ref hrk) (C := RX12) (T := TX12) (N := 70) hx hb hts hiX12 hown hK hP 0 rfl rfl 13 (by decide) w__fieldLink_RX12_38_ShellHeapModel_rank_I_ (fun _ h9 => h9) rfl dX12_orders_314 ?_
                                                        refine lv_iload_n hx hb dX12_orders_317 rfl (lv_at hl 1 rfl) ?_
                                                        refine lv_aload_n hx hb dX12_orders_318 rfl (lv_at hl 3 rfl) ?_
                                                        refine va_get (D := (dC, dI)) (ci := 12) (v := .ref hrk) (C := RX12) (T := TX12) (N := 70) hx hb hts hiX12 hown hK hP 0 rfl rfl 13 (by decide) w__fieldLink_RX12_38_ShellHeapModel_rank_I_ (fun _ h9 => h9) rfl dX12_orders_319 ?_
                                                        refine lv_iload_n hx hb dX12_orders_322 rfl (lv_at hl 0 rfl) ?_
                                                        refine va_iald hx hb hK hP 7 6 rfl rfl (z_vpin (by omega) (by omega)) dX12_orders_323 ?_
                                                        refine lv_topi (fun z_97 ez_97 => ?_)
                                                        refine lv_iconst (v := 1) hx hb dX12_orders_324 (by decide) ?_
                                                        refine lv_iadd hx hb dX12_orders_325 ?_
                                                        refine lv_topi (fun z_98 ez_98 => ?_)
                                                        refine va_iast hx hb hK hP hD hS 7 6 rfl rfl (z_vpin (by omega) (by omega)) dX12_orders_326 (fun H_99 locs hP hD hS => ?_)
                                                        obtain ⟨hP, hD⟩ := z_s_7 hP hD
                                                        generalize (upd f_76 (i_64 : Int32).toNatClampNeg z_98) = f_100 at hP hD
                                                        obtain ⟨z_101, ez_101⟩ : ∃ y : Int32, y = i_75 + 1 := ⟨_, rfl⟩
                                                        have kz_101 : (z_101).toInt = (i_75).toInt + (1 : Int) := by rw [ez_101]; exact z_add (b := 1) rfl rfl (z_al hF_77.1 (by decide)) (z_ah hF_77.2 (by decide))
                                                        refine lv_iinc (v := z_101) (lv' := [(3, .int z_101), (2, .int i_64), (1, .int i_50), (0, .ref h0)]) hx hb dX12_orders_327 hl (k := 0) rfl (by rw [ez_101]; rfl) (by decide) rfl (fun ls hl => ?_)
                                                        refine lv_goto (tgt := 278) hx hb dX12_orders_330 (by decide) ?_
                                                        exact ih_74 z_101 f_100 _ _ _ (show (13 - (z_101).toInt).toNat < n_73 by omega) (show ((0 : Int) ≤ (z_101).toInt ∧ (z_101).toInt ≤ (12 : Int)) by omega) hP hD hS (lv_sub hl [0, 1, 2, 3] rfl)
                                              exact loop_72 _ 0 f_65 _ _ _ (Nat.lt_succ_self _) (show ((0 : Int) ≤ (0 : Int) ∧ (0 : Int) ≤ (12 : Int)) by omega) hP hD hS hl
                                        exact loop_61 _ 0 f_51 _ _ _ (Nat.lt_succ_self _) (show ((0 : Int) ≤ (0 : Int) ∧ (0 : Int) ≤ (12 : Int)) by omega) hP hD hS hl
                                exact loop_47 _ 0 f_42 _ _ _ (Nat.lt_succ_self _) (show ((0 : Int) ≤ (0 : Int) ∧ (0 : Int) ≤ (12 : Int)) by omega) hP hD hS hl
                              · have k_102 : (12 : Int) > (i_41).toInt := z_nle c_44
                                refine lv_aload_n hx hb dX12_orders_240 rfl (lv_at hl 1 rfl) ?_
                                refine va_get (D := (dC, dI)) (ci := 12) (v := .ref hrk) (C := RX12) (T := TX12) (N := 70) hx hb hts hiX12 hown hK hP 0 rfl rfl 13 (by decide) w__fieldLink_RX12_38_ShellHeapModel_rank_I_ (fun _ h9 => h9) rfl dX12_orders_241 ?_
                                refine lv_iload_n hx hb dX12_orders_244 rfl (lv_at hl 0 rfl) ?_
                                refine lv_iconst (v := 0) hx hb dX12_orders_245 (by decide) ?_
                                refine va_iast hx hb hK hP hD hS 7 6 rfl rfl (z_vpin (by omega) (by omega)) dX12_orders_246 (fun H_103 locs hP hD hS => ?_)
                                obtain ⟨hP, hD⟩ := z_s_7 hP hD
                                generalize (upd f_42 (i_41 : Int32).toNatClampNeg 0) = f_104 at hP hD
                                obtain ⟨z_105, ez_105⟩ : ∃ y : Int32, y = i_41 + 1 := ⟨_, rfl⟩
                                have kz_105 : (z_105).toInt = (i_41).toInt + (1 : Int) := by rw [ez_105]; exact z_add (b := 1) rfl rfl (z_al hF_43.1 (by decide)) (z_ah hF_43.2 (by decide))
                                refine lv_iinc (v := z_105) (lv' := [(1, .int z_105), (0, .ref h0)]) hx hb dX12_orders_247 hl (k := 0) rfl (by rw [ez_105]; rfl) (by decide) rfl (fun ls hl => ?_)
                                refine lv_goto (tgt := 234) hx hb dX12_orders_250 (by decide) ?_
                                exact ih_40 z_105 f_104 _ _ _ (show (13 - (z_105).toInt).toNat < n_39 by omega) (show ((0 : Int) ≤ (z_105).toInt ∧ (z_105).toInt ≤ (12 : Int)) by omega) hP hD hS (lv_sub hl [0, 1] rfl)
                          exact loop_38 _ 0 fhrk _ _ _ (Nat.lt_succ_self _) (show ((0 : Int) ≤ (0 : Int) ∧ (0 : Int) ≤ (12 : Int)) by omega) hP hD hS hl
                        · have k_106 : (12 : Int) > (i_31).toInt := z_nle c_35
                          refine lv_aload_n hx hb dX12_orders_202 rfl (lv_at hl 1 rfl) ?_
                          refine lv_aload_n hx hb dX12_orders_203 rfl (lv_at hl 1 rfl) ?_
                          refine va_get (D := (dC, dI)) (ci := 12) (v := .ref hlt) (C := RX12) (T := TX12) (N := 70) hx hb hts hiX12 hown hK hP 0 rfl rfl 12 (by decide) w__fieldLink_RX12_35_ShellHeapModel_later_Z_ (fun _ h9 => h9) rfl dX12_orders_204 ?_
                          refine lv_bipush (v := 13) hx hb dX12_orders_207 (by decide) ?_
                          refine lv_iload_n hx hb dX12_orders_209 rfl (lv_at hl 0 rfl) ?_
                          refine lv_imul hx hb dX12_orders_210 ?_
                          refine lv_topi (fun z_107 ez_107 => ?_)
                          have kz_107 : (z_107).toInt = (13 : Int) * (i_31).toInt := by rw [ez_107]; exact z_mul (a := (13 : Int)) (b := (i_31).toInt) rfl rfl (by omega) (by omega)
                          refine va_zald hx hb hK hP 6 5 rfl rfl (z_vpin (by omega) (by omega)) dX12_orders_211 ?_
                          refine lv_topi (fun z_108 ez_108 => ?_)
                          refine lv_if_eq (tgt := 219) hx hb dX12_orders_212 (by decide) (fun c_109 => ?_) (fun c_109 => ?_)
                          · have k_110 : (z_108).toInt = (0 : Int) := z_eq c_109
                            obtain rfl : z_108 = 0 := z_eq' (show (z_108).toInt = (0 : Int) by omega)
                            refine lv_aload_n hx hb dX12_orders_219 rfl (lv_at hl 1 rfl) ?_
                            refine va_get (D := (dC, dI)) (ci := 12) (v := .int v_32) (C := RX12) (T := TX12) (N := 70) hx hb hts hiX12 hown hK hP 0 rfl rfl 16 (by decide) w__fieldLink_RX12_167_ShellHeapModel_quarrelNow_I_ (fun _ h9 => h9) rfl dX12_orders_220 ?_
                            refine va_put (D := (dC, dI)) (ci := 12) (v := .int v_32) (ty := .int) (C := RX12) (T := TX12) (N := 70) hx hb hts hiX12 tyX12 tyX12_ok nmX12 hown hK hP hD hS 0 rfl rfl 16 (by decide) w__fieldLink_RX12_167_ShellHeapModel_quarrelNow_I_ (fun _ h9 => h9) rfl (by decide +kernel) rfl rfl (Nat.le_of_ble_eq_true rfl) dX12_orders_223 (fun H_112 locs hP hD hS => ?_)
                            obtain ⟨hP, hD⟩ := z_s_0_16 hP hD
                            obtain ⟨z_113, ez_113⟩ : ∃ y : Int32, y = i_31 + 1 := ⟨_, rfl⟩
                            have kz_113 : (z_113).toInt = (i_31).toInt + (1 : Int) := by rw [ez_113]; exact z_add (b := 1) rfl rfl (z_al hF_33.1 (by decide)) (z_ah hF_33.2 (by decide))
                            refine lv_iinc (v := z_113) (lv' := [(1, .int z_113), (0, .ref h0)]) hx hb dX12_orders_226 hl (k := 0) rfl (by rw [ez_113]; rfl) (by decide) rfl (fun ls hl => ?_)
                            refine lv_goto (tgt := 196) hx hb dX12_orders_229 (by decide) ?_
                            exact ih_30 z_113 v_32 _ _ _ (show (13 - (z_113).toInt).toNat < n_29 by omega) (show ((0 : Int) ≤ (z_113).toInt ∧ (z_113).toInt ≤ (12 : Int)) by omega) (show ((0 : Int) ≤ (v_32).toInt ∧ (v_32).toInt ≤ (2 : Int)) by omega) hP hD hS (lv_sub hl [0, 1] rfl)
                          · have k_114 : (z_108).toInt ≠ (0 : Int) := z_ne c_109
                            refine lv_iconst (v := 1) hx hb dX12_orders_215 (by decide) ?_
                            refine lv_goto (tgt := 223) hx hb dX12_orders_216 (by decide) ?_
                            refine va_put (D := (dC, dI)) (ci := 12) (v := .int 1) (ty := .int) (C := RX12) (T := TX12) (N := 70) hx hb hts hiX12 tyX12 tyX12_ok nmX12 hown hK hP hD hS 0 rfl rfl 16 (by decide) w__fieldLink_RX12_167_ShellHeapModel_quarrelNow_I_ (fun _ h9 => h9) rfl (by decide +kernel) rfl rfl (Nat.le_of_ble_eq_true rfl) dX12_orders_223 (fun H_115 locs hP hD hS => ?_)
                            obtain ⟨hP, hD⟩ := z_s_0_16 hP hD
                            obtain ⟨z_116, ez_116⟩ : ∃ y : Int32, y = i_31 + 1 := ⟨_, rfl⟩
                            have kz_116 : (z_116).toInt = (i_31).toInt + (1 : Int) := by rw [ez_116]; exact z_add (b := 1) rfl rfl (z_al hF_33.1 (by decide)) (z_ah hF_33.2 (by decide))
                            refine lv_iinc (v := z_116) (lv' := [(1, .int z_116), (0, .ref h0)]) hx hb dX12_orders_226 hl (k := 0) rfl (by rw [ez_116]; rfl) (by decide) rfl (fun ls hl => ?_)
                            refine lv_goto (tgt := 196) hx hb dX12_orders_229 (by decide) ?_
                            exact ih_30 z_116 1 _ _ _ (show (13 - (z_116).toInt).toNat < n_29 by omega) (show ((0 : Int) ≤ (z_116).toInt ∧ (z_116).toInt ≤ (12 : Int)) by omega) (show ((0 : Int) ≤ (1 : Int) ∧ (1 : Int) ≤ (2 : Int)) by omega) hP hD hS (lv_sub hl [0, 1] rfl)
                    exact loop_28 _ 0 0 _ _ _ (Nat.lt_succ_self _) (show ((0 : Int) ≤ (0 : Int) ∧ (0 : Int) ≤ (12 : Int)) by omega) (show ((0 : Int) ≤ (0 : Int) ∧ (0 : Int) ≤ (2 : Int)) by omega) hP hD hS hl
                  · have k_117 : (12 : Int) > (i_21).toInt := z_nle c_24
                    refine lv_iconst (v := 0) hx hb dX12_orders_97 (by decide) ?_
                    refine lv_istore_n (lv' := [(2, .int 0), (1, .int i_21), (0, .ref h0)]) hx hb dX12_orders_98 rfl hl (by decide) rfl (fun ls hl => ?_)
                    have loop_118 : ∀ (n_119 : Nat) (i_121 : Int32) (f_122 : Nat → Int32) (H : Heap) (locs : List Loc) (ls : Array Slot), (13 - (i_121).toInt).toNat < n_119 → (((0 : Int) ≤ (i_121).toInt ∧ (i_121).toInt ≤ (12 : Int))) → va_P (dC, dI) vwCl [(h0, .inr (12, [h0_0, h0_1, h0_2, h0_3, .int mn, .ref hs, .ref ha, .ref hb9, h0_8, .ref hct, h0_10, .ref hbd, .ref hlt, .ref hrk, h0_14, h0_15, .int mq, h0_17, h0_18, h0_19, h0_20, h0_21, h0_22, h0_23, h0_24, h0_25, h0_26, h0_27, h0_28, h0_29, h0_30, h0_31, h0_32, h0_33, h0_34, h0_35, h0_36, h0_37, h0_38, h0_39, h0_40, h0_41, h0_42, h0_43, h0_44, h0_45, h0_46, h0_47, h0_48, h0_49, h0_50, h0_51, h0_52, h0_53, h0_54, h0_55, h0_56, h0_57, h0_58, h0_59, h0_60, h0_61, h0_62, h0_63, h0_64, h0_65, h0_66, h0_67, h0_68, h0_69])), (hct, .inl (chct, 80, .inl fhct)), (hs, .inl (chs, 80, .inl fhs)), (ha, .inl (cha, 80, .inl fha)), (hb9, .inl (chb9, 80, .inl fhb9)), (hbd, .inl (chbd, 12, .inl fhbd)), (hlt, .inl (chlt, 144, .inl f_122)), (hrk, .inl (chrk, 12, .inl fhrk))] H → va_D A [(h0, .inr (12, [h0_0, h0_1, h0_2, h0_3, .int mn, .ref hs, .ref ha, .ref hb9, h0_8, .ref hct, h0_10, .ref hbd, .ref hlt, .ref hrk, h0_14, h0_15, .int mq, h0_17, h0_18, h0_19, h0_20, h0_21, h0_22, h0_23, h0_24, h0_25, h0_26, h0_27, h0_28, h0_29, h0_30, h0_31, h0_32, h0_33, h0_34, h0_35, h0_36, h0_37, h0_38, h0_39, h0_40, h0_41, h0_42, h0_43, h0_44, h0_45, h0_46, h0_47, h0_48, h0_49, h0_50, h0_51, h0_52, h0_53, h0_54, h0_55, h0_56, h0_57, h0_58, h0_59, h0_60, h0_61, h0_62, h0_63, h0_64, h0_65, h0_66, h0_67, h0_68, h0_69])), (hct, .inl (chct, 80, .inl fhct)), (hs, .inl (chs, 80, .inl fhs)), (ha, .inl (cha, 80, .inl fha)), (hb9, .inl (chb9, 80, .inl fhb9)), (hbd, .inl (chbd, 12, .inl fhbd)), (hlt, .inl (chlt, 144, .inl f_122)), (hrk, .inl (chrk, 12, .inl fhrk))] → va_S A s.heap H locs → lv_has ls 4 [(2, .int i_121), (1, .int i_21), (0, .ref h0)] → W p l e ({ frames := 0, cells := 0, slots := 0, locals := 0 } : Room) s m ([.ref h0] : List Value).toArray below meth c H locs 0 0 QQ (F0 m 99 ls []) := by
                      intro n_119
                      induction n_119 with
                      | zero => intro i_121 f_122 H locs ls hm; exact absurd hm (Nat.not_lt_zero _)
                      | succ n_119 ih_120 =>
                        intro i_121 f_122 H locs ls hm hF_123 hP hD hS hl
                        refine lv_iload_n hx hb dX12_orders_99 rfl (lv_at hl 0 rfl) ?_
                        refine lv_bipush (v := 12) hx hb dX12_orders_100 (by decide) ?_
                        refine lv_icmp_ge (tgt := 183) hx hb dX12_orders_102 (by decide) (fun c_124 => ?_) (fun c_124 => ?_)
                        · have k_125 : (12 : Int) ≤ (i_121).toInt := z_le c_124
                          obtain rfl : i_121 = 12 := z_eq' (show (i_121).toInt = (12 : Int) by omega)
                          obtain ⟨z_127, ez_127⟩ : ∃ y : Int32, y = i_21 + 1 := ⟨_, rfl⟩
                          have kz_127 : (z_127).toInt = (i_21).toInt + (1 : Int) := by rw [ez_127]; exact z_add (b := 1) rfl rfl (z_al hF_23.1 (by decide)) (z_ah hF_23.2 (by decide))
                          refine lv_iinc (v := z_127) (lv' := [(1, .int z_127), (2, .int 12), (0, .ref h0)]) hx hb dX12_orders_183 hl (k := 1) rfl (by rw [ez_127]; rfl) (by decide) rfl (fun ls hl => ?_)
                          refine lv_goto (tgt := 91) hx hb dX12_orders_186 (by decide) ?_
                          exact ih_20 z_127 f_122 _ _ _ (show (13 - (z_127).toInt).toNat < n_19 by omega) (show ((0 : Int) ≤ (z_127).toInt ∧ (z_127).toInt ≤ (12 : Int)) by omega) hP hD hS (lv_sub hl [0, 2] rfl)
                        · have k_128 : (12 : Int) > (i_121).toInt := z_nle c_124
                          refine lv_iconst (v := 0) hx hb dX12_orders_105 (by decide) ?_
                          refine lv_istore_n (lv' := [(3, .int 0), (2, .int i_121), (1, .int i_21), (0, .ref h0)]) hx hb dX12_orders_106 rfl hl (by decide) rfl (fun ls hl => ?_)
                          have loop_129 : ∀ (n_130 : Nat) (i_132 : Int32) (f_133 : Nat → Int32) (H : Heap) (locs : List Loc) (ls : Array Slot), (13 - (i_132).toInt).toNat < n_130 → (((0 : Int) ≤ (i_132).toInt ∧ (i_132).toInt ≤ (12 : Int))) → va_P (dC, dI) vwCl [(h0, .inr (12, [h0_0, h0_1, h0_2, h0_3, .int mn, .ref hs, .ref ha, .ref hb9, h0_8, .ref hct, h0_10, .ref hbd, .ref hlt, .ref hrk, h0_14, h0_15, .int mq, h0_17, h0_18, h0_19, h0_20, h0_21, h0_22, h0_23, h0_24, h0_25, h0_26, h0_27, h0_28, h0_29, h0_30, h0_31, h0_32, h0_33, h0_34, h0_35, h0_36, h0_37, h0_38, h0_39, h0_40, h0_41, h0_42, h0_43, h0_44, h0_45, h0_46, h0_47, h0_48, h0_49, h0_50, h0_51, h0_52, h0_53, h0_54, h0_55, h0_56, h0_57, h0_58, h0_59, h0_60, h0_61, h0_62, h0_63, h0_64, h0_65, h0_66, h0_67, h0_68, h0_69])), (hct, .inl (chct, 80, .inl fhct)), (hs, .inl (chs, 80, .inl fhs)), (ha, .inl (cha, 80, .inl fha)), (hb9, .inl (chb9, 80, .inl fhb9)), (hbd, .inl (chbd, 12, .inl fhbd)), (hlt, .inl (chlt, 144, .inl f_133)), (hrk, .inl (chrk, 12, .inl fhrk))] H → va_D A [(h0, .inr (12, [h0_0, h0_1, h0_2, h0_3, .int mn, .ref hs, .ref ha, .ref hb9, h0_8, .ref hct, h0_10, .ref hbd, .ref hlt, .ref hrk, h0_14, h0_15, .int mq, h0_17, h0_18, h0_19, h0_20, h0_21, h0_22, h0_23, h0_24, h0_25, h0_26, h0_27, h0_28, h0_29, h0_30, h0_31, h0_32, h0_33, h0_34, h0_35, h0_36, h0_37, h0_38, h0_39, h0_40, h0_41, h0_42, h0_43, h0_44, h0_45, h0_46, h0_47, h0_48, h0_49, h0_50, h0_51, h0_52, h0_53, h0_54, h0_55, h0_56, h0_57, h0_58, h0_59, h0_60, h0_61, h0_62, h0_63, h0_64, h0_65, h0_66, h0_67, h0_68, h0_69])), (hct, .inl (chct, 80, .inl fhct)), (hs, .inl (chs, 80, .inl fhs)), (ha, .inl (cha, 80, .inl fha)), (hb9, .inl (chb9, 80, .inl fhb9)), (hbd, .inl (chbd, 12, .inl fhbd)), (hlt, .inl (chlt, 144, .inl f_133)), (hrk, .inl (chrk, 12, .inl fhrk))] → va_S A s.heap H locs → lv_has ls 4 [(3, .int i_132), (2, .int i_121), (1, .int i_21), (0, .ref h0)] → W p l e ({ frames := 0, cells := 0, slots := 0, locals := 0 } : Room) s m ([.ref h0] : List Value).toArray below meth c H locs 0 0 QQ (F0 m 107 ls []) := by
                            intro n_130
                            induction n_130 with
                            | zero => intro i_132 f_133 H locs ls hm; exact absurd hm (Nat.not_lt_zero _)
                            | succ n_130 ih_131 =>
                              intro i_132 f_133 H locs ls hm hF_134 hP hD hS hl
                              refine lv_iload_n hx hb dX12_orders_107 rfl (lv_at hl 0 rfl) ?_
                              refine lv_bipush (v := 12) hx hb dX12_orders_108 (by decide) ?_
                              refine lv_icmp_ge (tgt := 177) hx hb dX12_orders_110 (by decide) (fun c_135 => ?_) (fun c_135 => ?_)
                              · have k_136 : (12 : Int) ≤ (i_132).toInt := z_le c_135
                                obtain rfl : i_132 = 12 := z_eq' (show (i_132).toInt = (12 : Int) by omega)
                                obtain ⟨z_138, ez_138⟩ : ∃ y : Int32, y = i_121 + 1 := ⟨_, rfl⟩
                                have kz_138 : (z_138).toInt = (i_121).toInt + (1 : Int) := by rw [ez_138]; exact z_add (b := 1) rfl rfl (z_al hF_123.1 (by decide)) (z_ah hF_123.2 (by decide))
                                refine lv_iinc (v := z_138) (lv' := [(2, .int z_138), (3, .int 12), (1, .int i_21), (0, .ref h0)]) hx hb dX12_orders_177 hl (k := 1) rfl (by rw [ez_138]; rfl) (by decide) rfl (fun ls hl => ?_)
                                refine lv_goto (tgt := 99) hx hb dX12_orders_180 (by decide) ?_
                                exact ih_120 z_138 f_133 _ _ _ (show (13 - (z_138).toInt).toNat < n_119 by omega) (show ((0 : Int) ≤ (z_138).toInt ∧ (z_138).toInt ≤ (12 : Int)) by omega) hP hD hS (lv_sub hl [0, 2, 3] rfl)
                              · have k_139 : (12 : Int) > (i_132).toInt := z_nle c_135
                                refine lv_aload_n hx hb dX12_orders_113 rfl (lv_at hl 3 rfl) ?_
                                refine va_get (D := (dC, dI)) (ci := 12) (v := .ref hlt) (C := RX12) (T := TX12) (N := 70) hx hb hts hiX12 hown hK hP 0 rfl rfl 12 (by decide) w__fieldLink_RX12_35_ShellHeapModel_later_Z_ (fun _ h9 => h9) rfl dX12_orders_114 ?_
                                refine lv_bipush (v := 12) hx hb dX12_orders_117 (by decide) ?_
                                refine lv_iload_n hx hb dX12_orders_119 rfl (lv_at hl 1 rfl) ?_
                                refine lv_imul hx hb dX12_orders_120 ?_
                                refine lv_topi (fun z_140 ez_140 => ?_)
                                have kz_140 : (z_140).toInt = (12 : Int) * (i_121).toInt := by rw [ez_140]; exact z_mul (a := (12 : Int)) (b := (i_121).toInt) rfl rfl (by omega) (by omega)
                                refine lv_iload_n hx hb dX12_orders_121 rfl (lv_at hl 0 rfl) ?_
                                refine lv_iadd hx hb dX12_orders_122 ?_
                                refine lv_topi (fun z_141 ez_141 => ?_)
                                have kz_141 : (z_141).toInt = (z_140).toInt + (i_132).toInt := by rw [ez_141]; exact z_add (a := (z_140).toInt) (b := (i_132).toInt) rfl rfl (by omega) (by omega)
                                refine lv_aload_n hx hb dX12_orders_123 rfl (lv_at hl 3 rfl) ?_
                                refine va_get (D := (dC, dI)) (ci := 12) (v := .ref hlt) (C := RX12) (T := TX12) (N := 70) hx hb hts hiX12 hown hK hP 0 rfl rfl 12 (by decide) w__fieldLink_RX12_35_ShellHeapModel_later_Z_ (fun _ h9 => h9) rfl dX12_orders_124 ?_
                                refine lv_bipush (v := 12) hx hb dX12_orders_127 (by decide) ?_
                                refine lv_iload_n hx hb dX12_orders_129 rfl (lv_at hl 1 rfl) ?_
                                refine lv_imul hx hb dX12_orders_130 ?_
                                refine lv_topi (fun z_142 ez_142 => ?_)
                                have kz_142 : (z_142).toInt = (12 : Int) * (i_121).toInt := by rw [ez_142]; exact z_mul (a := (12 : Int)) (b := (i_121).toInt) rfl rfl (by omega) (by omega)
                                refine lv_iload_n hx hb dX12_orders_131 rfl (lv_at hl 0 rfl) ?_
                                refine lv_iadd hx hb dX12_orders_132 ?_
                                refine lv_topi (fun z_143 ez_143 => ?_)
                                have kz_143 : (z_143).toInt = (z_142).toInt + (i_132).toInt := by rw [ez_143]; exact z_add (a := (z_142).toInt) (b := (i_132).toInt) rfl rfl (by omega) (by omega)
                                refine va_zald hx hb hK hP 6 5 rfl rfl (z_vpin (by omega) (by omega)) dX12_orders_133 ?_
                                refine lv_topi (fun z_144 ez_144 => ?_)
                                refine lv_if_ne (tgt := 165) hx hb dX12_orders_134 (by decide) (fun c_145 => ?_) (fun c_145 => ?_)
                                · have k_146 : (z_144).toInt ≠ (0 : Int) := z_ne c_145
                                  refine lv_iconst (v := 1) hx hb dX12_orders_165 (by decide) ?_
                                  refine lv_goto (tgt := 170) hx hb dX12_orders_166 (by decide) ?_
                                  refine va_zast hx hb hK hP hD hS 6 5 rfl rfl (z_vpin (by omega) (by omega)) dX12_orders_170 (fun H_147 locs hP hD hS => ?_)
                                  obtain ⟨hP, hD⟩ := z_s_6 hP hD
                                  generalize (upd f_133 (z_141 : Int32).toNatClampNeg (vp_nar .boolean 1)) = f_148 at hP hD
                                  obtain ⟨z_149, ez_149⟩ : ∃ y : Int32, y = i_132 + 1 := ⟨_, rfl⟩
                                  have kz_149 : (z_149).toInt = (i_132).toInt + (1 : Int) := by rw [ez_149]; exact z_add (b := 1) rfl rfl (z_al hF_134.1 (by decide)) (z_ah hF_134.2 (by decide))
                                  refine lv_iinc (v := z_149) (lv' := [(3, .int z_149), (2, .int i_121), (1, .int i_21), (0, .ref h0)]) hx hb dX12_orders_171 hl (k := 0) rfl (by rw [ez_149]; rfl) (by decide) rfl (fun ls hl => ?_)
                                  refine lv_goto (tgt := 107) hx hb dX12_orders_174 (by decide) ?_
                                  exact ih_131 z_149 f_148 _ _ _ (show (13 - (z_149).toInt).toNat < n_130 by omega) (show ((0 : Int) ≤ (z_149).toInt ∧ (z_149).toInt ≤ (12 : Int)) by omega) hP hD hS (lv_sub hl [0, 1, 2, 3] rfl)
                                · have k_150 : (z_144).toInt = (0 : Int) := z_eq c_145
                                  obtain rfl : z_144 = 0 := z_eq' (show (z_144).toInt = (0 : Int) by omega)
                                  refine lv_aload_n hx hb dX12_orders_137 rfl (lv_at hl 3 rfl) ?_
                                  refine va_get (D := (dC, dI)) (ci := 12) (v := .ref hlt) (C := RX12) (T := TX12) (N := 70) hx hb hts hiX12 hown hK hP 0 rfl rfl 12 (by decide) w__fieldLink_RX12_35_ShellHeapModel_later_Z_ (fun _ h9 => h9) rfl dX12_orders_138 ?_
                                  refine lv_bipush (v := 12) hx hb dX12_orders_141 (by decide) ?_
                                  refine lv_iload_n hx hb dX12_orders_143 rfl (lv_at hl 1 rfl) ?_
                                  refine lv_imul hx hb dX12_orders_144 ?_
                                  refine lv_topi (fun z_152 ez_152 => ?_)
                                  have kz_152 : (z_152).toInt = (12 : Int) * (i_121).toInt := by rw [ez_152]; exact z_mul (a := (12 : Int)) (b := (i_121).toInt) rfl rfl (by omega) (by omega)
                                  refine lv_iload_n hx hb dX12_orders_145 rfl (lv_at hl 2 rfl) ?_
                                  refine lv_iadd hx hb dX12_orders_146 ?_
                                  refine lv_topi (fun z_153 ez_153 => ?_)
                                  have kz_153 : (z_153).toInt = (z_152).toInt + (i_21).toInt := by rw [ez_153]; exact z_add (a := (z_152).toInt) (b := (i_21).toInt) rfl rfl (by omega) (by omega)
                                  refine va_zald hx hb hK hP 6 5 rfl rfl (z_vpin (by omega) (by omega)) dX12_orders_147 ?_
                                  refine lv_topi (fun z_154 ez_154 => ?_)
                                  refine lv_if_eq (tgt := 169) hx hb dX12_orders_148 (by decide) (fun c_155 => ?_) (fun c_155 => ?_)
                                  · have k_156 : (z_154).toInt = (0 : Int) := z_eq c_155
                                    obtain rfl : z_154 = 0 := z_eq' (show (z_154).toInt = (0 : Int) by omega)
                                    refine lv_iconst (v := 0) hx hb dX12_orders_169 (by decide) ?_
                                    refine va_zast hx hb hK hP hD hS 6 5 rfl rfl (z_vpin (by omega) (by omega)) dX12_orders_170 (fun H_158 locs hP hD hS => ?_)
                                    obtain ⟨hP, hD⟩ := z_s_6 hP hD
                                    generalize (upd f_133 (z_141 : Int32).toNatClampNeg (vp_nar .boolean 0)) = f_159 at hP hD
                                    obtain ⟨z_160, ez_160⟩ : ∃ y : Int32, y = i_132 + 1 := ⟨_, rfl⟩
                                    have kz_160 : (z_160).toInt = (i_132).toInt + (1 : Int) := by rw [ez_160]; exact z_add (b := 1) rfl rfl (z_al hF_134.1 (by decide)) (z_ah hF_134.2 (by decide))
                                    refine lv_iinc (v := z_160) (lv' := [(3, .int z_160), (2, .int i_121), (1, .int i_21), (0, .ref h0)]) hx hb dX12_orders_171 hl (k := 0) rfl (by rw [ez_160]; rfl) (by decide) rfl (fun ls hl => ?_)
                                    refine lv_goto (tgt := 107) hx hb dX12_orders_174 (by decide) ?_
                                    exact ih_131 z_160 f_159 _ _ _ (show (13 - (z_160).toInt).toNat < n_130 by omega) (show ((0 : Int) ≤ (z_160).toInt ∧ (z_160).toInt ≤ (12 : Int)) by omega) hP hD hS (lv_sub hl [0, 1, 2, 3] rfl)
                                  · have k_161 : (z_154).toInt ≠ (0 : Int) := z_ne c_155
                                    refine lv_aload_n hx hb dX12_orders_151 rfl (lv_at hl 3 rfl) ?_
                                    refine va_get (D := (dC, dI)) (ci := 12) (v := .ref hlt) (C := RX12) (T := TX12) (N := 70) hx hb hts hiX12 hown hK hP 0 rfl rfl 12 (by decide) w__fieldLink_RX12_35_ShellHeapModel_later_Z_ (fun _ h9 => h9) rfl dX12_orders_152 ?_
                                    refine lv_bipush (v := 12) hx hb dX12_orders_155 (by decide) ?_
                                    refine lv_iload_n hx hb dX12_orders_157 rfl (lv_at hl 2 rfl) ?_
                                    refine lv_imul hx hb dX12_orders_158 ?_
                                    refine lv_topi (fun z_162 ez_162 => ?_)
                                    have kz_162 : (z_162).toInt = (12 : Int) * (i_21).toInt := by rw [ez_162]; exact z_mul (a := (12 : Int)) (b := (i_21).toInt) rfl rfl (by omega) (by omega)
                                    refine lv_iload_n hx hb dX12_orders_159 rfl (lv_at hl 0 rfl) ?_
                                    refine lv_iadd hx hb dX12_orders_160 ?_
                                    refine lv_topi (fun z_163 ez_163 => ?_)
                                    have kz_163 : (z_163).toInt = (z_162).toInt + (i_132).toInt := by rw [ez_163]; exact z_add (a := (z_162).toInt) (b := (i_132).toInt) rfl rfl (by omega) (by omega)
                                    refine va_zald hx hb hK hP 6 5 rfl rfl (z_vpin (by omega) (by omega)) dX12_orders_161 ?_
                                    refine lv_topi (fun z_164 ez_164 => ?_)
                                    refine lv_if_eq (tgt := 169) hx hb dX12_orders_162 (by decide) (fun c_165 => ?_) (fun c_165 => ?_)
                                    · have k_166 : (z_164).toInt = (0 : Int) := z_eq c_165
                                      obtain rfl : z_164 = 0 := z_eq' (show (z_164).toInt = (0 : Int) by omega)
                                      refine lv_iconst (v := 0) hx hb dX12_orders_169 (by decide) ?_
                                      refine va_zast hx hb hK hP hD hS 6 5 rfl rfl (z_vpin (by omega) (by omega)) dX12_orders_170 (fun H_168 locs hP hD hS => ?_)
                                      obtain ⟨hP, hD⟩ := z_s_6 hP hD
                                      generalize (upd f_133 (z_141 : Int32).toNatClampNeg (vp_nar .boolean 0)) = f_169 at hP hD
                                      obtain ⟨z_170, ez_170⟩ : ∃ y : Int32, y = i_132 + 1 := ⟨_, rfl⟩
                                      have kz_170 : (z_170).toInt = (i_132).toInt + (1 : Int) := by rw [ez_170]; exact z_add (b := 1) rfl rfl (z_al hF_134.1 (by decide)) (z_ah hF_134.2 (by decide))
                                      refine lv_iinc (v := z_170) (lv' := [(3, .int z_170), (2, .int i_121), (1, .int i_21), (0, .ref h0)]) hx hb dX12_orders_171 hl (k := 0) rfl (by rw [ez_170]; rfl) (by decide) rfl (fun ls hl => ?_)
                                      refine lv_goto (tgt := 107) hx hb dX12_orders_174 (by decide) ?_
                                      exact ih_131 z_170 f_169 _ _ _ (show (13 - (z_170).toInt).toNat < n_130 by omega) (show ((0 : Int) ≤ (z_170).toInt ∧ (z_170).toInt ≤ (12 : Int)) by omega) hP hD hS (lv_sub hl [0, 1, 2, 3] rfl)
                                    · have k_171 : (z_164).toInt ≠ (0 : Int) := z_ne c_165
                                      refine lv_iconst (v := 1) hx hb dX12_orders_165 (by decide) ?_
                                      refine lv_goto (tgt := 170) hx hb dX12_orders_166 (by decide) ?_
                                      refine va_zast hx hb hK hP hD hS 6 5 rfl rfl (z_vpin (by omega) (by omega)) dX12_orders_170 (fun H_172 locs hP hD hS => ?_)
                                      obtain ⟨hP, hD⟩ := z_s_6 hP hD
                                      generalize (upd f_133 (z_141 : Int32).toNatClampNeg (vp_nar .boolean 1)) = f_173 at hP hD
                                      obtain ⟨z_174, ez_174⟩ : ∃ y : Int32, y = i_132 + 1 := ⟨_, rfl⟩
                                      have kz_174 : (z_174).toInt = (i_132).toInt + (1 : Int) := by rw [ez_174]; exact z_add (b := 1) rfl rfl (z_al hF_134.1 (by decide)) (z_ah hF_134.2 (by decide))
                                      refine lv_iinc (v := z_174) (lv' := [(3, .int z_174), (2, .int i_121), (1, .int i_21), (0, .ref h0)]) hx hb dX12_orders_171 hl (k := 0) rfl (by rw [ez_174]; rfl) (by decide) rfl (fun ls hl => ?_)
                                      refine lv_goto (tgt := 107) hx hb dX12_orders_174 (by decide) ?_
                                      exact ih_131 z_174 f_173 _ _ _ (show (13 - (z_174).toInt).toNat < n_130 by omega) (show ((0 : Int) ≤ (z_174).toInt ∧ (z_174).toInt ≤ (12 : Int)) by omega) hP hD hS (lv_sub hl [0, 1, 2, 3] rfl)
                          exact loop_129 _ 0 f_122 _ _ _ (Nat.lt_succ_self _) (show ((0 : Int) ≤ (0 : Int) ∧ (0 : Int) ≤ (12 : Int)) by omega) hP hD hS hl
                    exact loop_118 _ 0 f_22 _ _ _ (Nat.lt_succ_self _) (show ((0 : Int) ≤ (0 : Int) ∧ (0 : Int) ≤ (12 : Int)) by omega) hP hD hS hl
              exact loop_18 _ 0 f_14 _ _ _ (Nat.lt_succ_self _) (show ((0 : Int) ≤ (0 : Int) ∧ (0 : Int) ≤ (12 : Int)) by omega) hP hD hS hl
            · have k_175 : (mn).toInt > (i_13).toInt := z_nle c_16
              refine lv_aload_n hx hb dX12_orders_32 rfl (lv_at hl 1 rfl) ?_
              refine va_get (D := (dC, dI)) (ci := 12) (v := .ref hct) (C := RX12) (T := TX12) (N := 70) hx hb hts hiX12 hown hK hP 0 rfl rfl 9 (by decide) w__fieldLink_RX12_25_ShellHeapModel_counts_Z_ (fun _ h9 => h9) rfl dX12_orders_33 ?_
              refine lv_iload_n hx hb dX12_orders_36 rfl (lv_at hl 0 rfl) ?_
              refine va_zald hx hb hK hP 1 0 rfl rfl (z_vpin (by omega) (by omega)) dX12_orders_37 ?_
              refine lv_topi (fun z_176 ez_176 => ?_)
              refine lv_if_eq (tgt := 83) hx hb dX12_orders_38 (by decide) (fun c_177 => ?_) (fun c_177 => ?_)
              · have k_178 : (z_176).toInt = (0 : Int) := z_eq c_177
                obtain rfl : z_176 = 0 := z_eq' (show (z_176).toInt = (0 : Int) by omega)
                obtain ⟨z_180, ez_180⟩ : ∃ y : Int32, y = i_13 + 1 := ⟨_, rfl⟩
                have kz_180 : (z_180).toInt = (i_13).toInt + (1 : Int) := by rw [ez_180]; exact z_add (b := 1) rfl rfl (z_al hF_15.1 (by decide)) (z_ah hF_15.2 (by decide))
                refine lv_iinc (v := z_180) (lv' := [(1, .int z_180), (0, .ref h0)]) hx hb dX12_orders_83 hl (k := 0) rfl (by rw [ez_180]; rfl) (by decide) rfl (fun ls hl => ?_)
                refine lv_goto (tgt := 24) hx hb dX12_orders_86 (by decide) ?_
                exact ih_12 z_180 f_14 _ _ _ (show (81 - (z_180).toInt).toNat < n_11 by omega) (show ((0 : Int) ≤ (z_180).toInt ∧ (z_180).toInt ≤ (80 : Int)) by omega) hP hD hS (lv_sub hl [0, 1] rfl)
              · have k_181 : (z_176).toInt ≠ (0 : Int) := z_ne c_177
                refine lv_aload_n hx hb dX12_orders_41 rfl (lv_at hl 1 rfl) ?_
                refine va_get (D := (dC, dI)) (ci := 12) (v := .ref hs) (C := RX12) (T := TX12) (N := 70) hx hb hts hiX12 hown hK hP 0 rfl rfl 5 (by decide) w__fieldLink_RX12_13_ShellHeapModel_sort_I_ (fun _ h9 => h9) rfl dX12_orders_42 ?_
                refine lv_iload_n hx hb dX12_orders_45 rfl (lv_at hl 0 rfl) ?_
                refine va_iald hx hb hK hP 2 1 rfl rfl (z_vpin (by omega) (by omega)) dX12_orders_46 ?_
                refine lv_topi (fun z_182 ez_182 => ?_)
                refine lv_iconst (v := 2) hx hb dX12_orders_47 (by decide) ?_
                refine lv_icmp_ge (tgt := 83) hx hb dX12_orders_48 (by decide) (fun c_183 => ?_) (fun c_183 => ?_)
                · have k_184 : (2 : Int) ≤ (z_182).toInt := z_le c_183
                  obtain ⟨z_185, ez_185⟩ : ∃ y : Int32, y = i_13 + 1 := ⟨_, rfl⟩
                  have kz_185 : (z_185).toInt = (i_13).toInt + (1 : Int) := by rw [ez_185]; exact z_add (b := 1) rfl rfl (z_al hF_15.1 (by decide)) (z_ah hF_15.2 (by decide))
                  refine lv_iinc (v := z_185) (lv' := [(1, .int z_185), (0, .ref h0)]) hx hb dX12_orders_83 hl (k := 0) rfl (by rw [ez_185]; rfl) (by decide) rfl (fun ls hl => ?_)
                  refine lv_goto (tgt := 24) hx hb dX12_orders_86 (by decide) ?_
                  exact ih_12 z_185 f_14 _ _ _ (show (81 - (z_185).toInt).toNat < n_11 by omega) (show ((0 : Int) ≤ (z_185).toInt ∧ (z_185).toInt ≤ (80 : Int)) by omega) hP hD hS (lv_sub hl [0, 1] rfl)
                · have k_186 : (2 : Int) > (z_182).toInt := z_nle c_183
                  refine lv_aload_n hx hb dX12_orders_51 rfl (lv_at hl 1 rfl) ?_
                  refine va_get (D := (dC, dI)) (ci := 12) (v := .ref hlt) (C := RX12) (T := TX12) (N := 70) hx hb hts hiX12 hown hK hP 0 rfl rfl 12 (by decide) w__fieldLink_RX12_35_ShellHeapModel_later_Z_ (fun _ h9 => h9) rfl dX12_orders_52 ?_
                  refine lv_bipush (v := 12) hx hb dX12_orders_55 (by decide) ?_
                  refine lv_aload_n hx hb dX12_orders_57 rfl (lv_at hl 1 rfl) ?_
                  refine va_get (D := (dC, dI)) (ci := 12) (v := .ref hbd) (C := RX12) (T := TX12) (N := 70) hx hb hts hiX12 hown hK hP 0 rfl rfl 11 (by decide) w__fieldLink_RX12_32_ShellHeapModel_bedOf_I_ (fun _ h9 => h9) rfl dX12_orders_58 ?_
                  refine lv_aload_n hx hb dX12_orders_61 rfl (lv_at hl 1 rfl) ?_
                  refine va_get (D := (dC, dI)) (ci := 12) (v := .ref ha) (C := RX12) (T := TX12) (N := 70) hx hb hts hiX12 hown hK hP 0 rfl rfl 6 (by decide) w__fieldLink_RX12_16_ShellHeapModel_noteA_I_ (fun _ h9 => h9) rfl dX12_orders_62 ?_
                  refine lv_iload_n hx hb dX12_orders_65 rfl (lv_at hl 0 rfl) ?_
                  refine va_iald hx hb hK hP 3 2 rfl rfl (z_vpin (by omega) (by omega)) dX12_orders_66 ?_
                  refine lv_topi (fun z_187 ez_187 => ?_)
                  have kz_187 : ((0 : Int) ≤ (z_187).toInt ∧ (z_187).toInt ≤ (79 : Int)) := by rw [ez_187]; exact hI_ha _
                  have krz_187 : (z_187).toInt ≤ (11 : Int) := by rw [ez_187]; exact (hR _).2.1 (by rw [← ez_182]; omega)
                  refine va_iald hx hb hK hP 5 4 rfl rfl (z_vpin (by omega) (by omega)) dX12_orders_67 ?_
                  refine lv_topi (fun z_188 ez_188 => ?_)
                  have kz_188 : ((0 : Int) ≤ (z_188).toInt ∧ (z_188).toInt ≤ (11 : Int)) := by rw [ez_188]; exact hI_hbd _
                  refine lv_imul hx hb dX12_orders_68 ?_
                  refine lv_topi (fun z_189 ez_189 => ?_)
                  have kz_189 : (z_189).toInt = (12 : Int) * (z_188).toInt := by rw [ez_189]; exact z_mul (a := (12 : Int)) (b := (z_188).toInt) rfl rfl (by omega) (by omega)
                  refine lv_aload_n hx hb dX12_orders_69 rfl (lv_at hl 1 rfl) ?_
                  refine va_get (D := (dC, dI)) (ci := 12) (v := .ref hbd) (C := RX12) (T := TX12) (N := 70) hx hb hts hiX12 hown hK hP 0 rfl rfl 11 (by decide) w__fieldLink_RX12_32_ShellHeapModel_bedOf_I_ (fun _ h9 => h9) rfl dX12_orders_70 ?_
                  refine lv_aload_n hx hb dX12_orders_73 rfl (lv_at hl 1 rfl) ?_
                  refine va_get (D := (dC, dI)) (ci := 12) (v := .ref hb9) (C := RX12) (T := TX12) (N := 70) hx hb hts hiX12 hown hK hP 0 rfl rfl 7 (by decide) w__fieldLink_RX12_19_ShellHeapModel_noteB_I_ (fun _ h9 => h9) rfl dX12_orders_74 ?_
                  refine lv_iload_n hx hb dX12_orders_77 rfl (lv_at hl 0 rfl) ?_
                  refine va_iald hx hb hK hP 4 3 rfl rfl (z_vpin (by omega) (by omega)) dX12_orders_78 ?_
                  refine lv_topi (fun z_190 ez_190 => ?_)
                  have krz_190 : (0 : Int) ≤ (z_190).toInt ∧ (z_190).toInt ≤ (11 : Int) := by rw [ez_190]; exact (hR _).2.2 (by rw [← ez_182]; omega)
                  refine va_iald hx hb hK hP 5 4 rfl rfl (z_vpin (by omega) (by omega)) dX12_orders_79 ?_
                  refine lv_topi (fun z_191 ez_191 => ?_)
                  have kz_191 : ((0 : Int) ≤ (z_191).toInt ∧ (z_191).toInt ≤ (11 : Int)) := by rw [ez_191]; exact hI_hbd _
                  refine lv_iadd hx hb dX12_orders_80 ?_
                  refine lv_topi (fun z_192 ez_192 => ?_)
                  have kz_192 : (z_192).toInt = (z_189).toInt + (z_191).toInt := by rw [ez_192]; exact z_add (a := (z_189).toInt) (b := (z_191).toInt) rfl rfl (by omega) (by omega)
                  refine lv_iconst (v := 1) hx hb dX12_orders_81 (by decide) ?_
                  refine va_zast hx hb hK hP hD hS 6 5 rfl rfl (z_vpin (by omega) (by omega)) dX12_orders_82 (fun H_193 locs hP hD hS => ?_)
                  obtain ⟨hP, hD⟩ := z_s_6 hP hD
                  generalize (upd f_14 (z_192 : Int32).toNatClampNeg (vp_nar .boolean 1)) = f_194 at hP hD
                  obtain ⟨z_195, ez_195⟩ : ∃ y : Int32, y = i_13 + 1 := ⟨_, rfl⟩
                  have kz_195 : (z_195).toInt = (i_13).toInt + (1 : Int) := by rw [ez_195]; exact z_add (b := 1) rfl rfl (z_al hF_15.1 (by decide)) (z_ah hF_15.2 (by decide))
                  refine lv_iinc (v := z_195) (lv' := [(1, .int z_195), (0, .ref h0)]) hx hb dX12_orders_83 hl (k := 0) rfl (by rw [ez_195]; rfl) (by decide) rfl (fun ls hl => ?_)
                  refine lv_goto (tgt := 24) hx hb dX12_orders_86 (by decide) ?_
                  exact ih_12 z_195 f_194 _ _ _ (show (81 - (z_195).toInt).toNat < n_11 by omega) (show ((0 : Int) ≤ (z_195).toInt ∧ (z_195).toInt ≤ (80 : Int)) by omega) hP hD hS (lv_sub hl [0, 1] rfl)
        exact loop_10 _ 0 f_5 _ _ _ (Nat.lt_succ_self _) (show ((0 : Int) ≤ (0 : Int) ∧ (0 : Int) ≤ (80 : Int)) by omega) hP hD hS hl
      · have k_196 : (144 : Int) > (i_4).toInt := z_nle c_7
        refine lv_aload_n hx hb dX12_orders_9 rfl (lv_at hl 1 rfl) ?_
        refine va_get (D := (dC, dI)) (ci := 12) (v := .ref hlt) (C := RX12) (T := TX12) (N := 70) hx hb hts hiX12 hown hK hP 0 rfl rfl 12 (by decide) w__fieldLink_RX12_35_ShellHeapModel_later_Z_ (fun _ h9 => h9) rfl dX12_orders_10 ?_
        refine lv_iload_n hx hb dX12_orders_13 rfl (lv_at hl 0 rfl) ?_
        refine lv_iconst (v := 0) hx hb dX12_orders_14 (by decide) ?_
        refine va_zast hx hb hK hP hD hS 6 5 rfl rfl (z_vpin (by omega) (by omega)) dX12_orders_15 (fun H_197 locs hP hD hS => ?_)
        obtain ⟨hP, hD⟩ := z_s_6 hP hD
        generalize (upd f_5 (i_4 : Int32).toNatClampNeg (vp_nar .boolean 0)) = f_198 at hP hD
        obtain ⟨z_199, ez_199⟩ : ∃ y : Int32, y = i_4 + 1 := ⟨_, rfl⟩
        have kz_199 : (z_199).toInt = (i_4).toInt + (1 : Int) := by rw [ez_199]; exact z_add (b := 1) rfl rfl (z_al hF_6.1 (by decide)) (z_ah hF_6.2 (by decide))
        refine lv_iinc (v := z_199) (lv' := [(1, .int z_199), (0, .ref h0)]) hx hb dX12_orders_16 hl (k := 0) rfl (by rw [ez_199]; rfl) (by decide) rfl (fun ls hl => ?_)
        refine lv_goto (tgt := 2) hx hb dX12_orders_19 (by decide) ?_
        exact ih_3 z_199 f_198 _ _ _ (show (145 - (z_199).toInt).toNat < n_2 by omega) (show ((0 : Int) ≤ (z_199).toInt ∧ (z_199).toInt ≤ (144 : Int)) by omega) hP hD hS (lv_sub hl [0, 1] rfl)
  exact loop_1 _ 0 fhlt _ _ _ (Nat.lt_succ_self _) (show ((0 : Int) ≤ (0 : Int) ∧ (0 : Int) ≤ (144 : Int)) by omega) hP hD hS hl
def u_s_X12_spans : List Cond := .code yX12_spans cX12_spans 4 none :: ([.fieldLink RX12 154 "ShellHeapModel" "notes" "I", .fieldLink RX12 167 "ShellHeapModel" "quarrelNow" "I", .fieldLink RX12 41 "ShellHeapModel" "first" "[I", .fieldLink RX12 44 "ShellHeapModel" "last" "[I", .fieldLink RX12 35 "ShellHeapModel" "later" "[Z", .fieldLink RX12 25 "ShellHeapModel" "counts" "[Z", .fieldLink RX12 13 "ShellHeapModel" "sort" "[I", .fieldLink RX12 32 "ShellHeapModel" "bedOf" "[I", .fieldLink RX12 16 "ShellHeapModel" "noteA" "[I", .fieldLink RX12 19 "ShellHeapModel" "noteB" "[I", .fieldLink RX12 22 "ShellHeapModel" "noteC" "[I"] ++ (wsX120 ++ []))
theorem gd_s_X12_spans : z_gd u_s_X12_spans := z_gdc (by decide +kernel) (z_gda gdX12 (z_gd0))
set_option maxHeartbeats 4000000 in
set_option maxRecDepth 100000 in
theorem s_X12_spans (l : Launch) (dC : Nat → ClassId) (dI : Nat → Nat → Nat) (sz : Nat) (h0 : Nat) (h0_0 : Value) (h0_1 : Value) (h0_2 : Value) (h0_3 : Value) (mn : Int32) (hs : Nat) (ha : Nat) (hb9 : Nat) (hc9 : Nat) (hct : Nat) (h0_10 : Value) (hbd : Nat) (hlt : Nat) (h0_13 : Value) (hfi : Nat) (hla : Nat) (mq : Int32) (h0_17 : Value) (h0_18 : Value) (h0_19 : Value) (h0_20 : Value) (h0_21 : Value) (h0_22 : Value) (h0_23 : Value) (h0_24 : Value) (h0_25 : Value) (h0_26 : Value) (h0_27 : Value) (h0_28 : Value) (h0_29 : Value) (h0_30 : Value) (h0_31 : Value) (h0_32 : Value) (h0_33 : Value) (h0_34 : Value) (h0_35 : Value) (h0_36 : Value) (h0_37 : Value) (h0_38 : Value) (h0_39 : Value) (h0_40 : Value) (h0_41 : Value) (h0_42 : Value) (h0_43 : Value) (h0_44 : Value) (h0_45 : Value) (h0_46 : Value) (h0_47 : Value) (h0_48 : Value) (h0_49 : Value) (h0_50 : Value) (h0_51 : Value) (h0_52 : Value) (h0_53 : Value) (h0_54 : Value) (h0_55 : Value) (h0_56 : Value) (h0_57 : Value) (h0_58 : Value) (h0_59 : Value) (h0_60 : Value) (h0_61 : Value) (h0_62 : Value) (h0_63 : Value) (h0_64 : Value) (h0_65 : Value) (h0_66 : Value) (h0_67 : Value) (h0_68 : Value) (h0_69 : Value) (chct : ClassId) (fhct : Nat → Int32) (chs : ClassId) (fhs : Nat → Int32) (cha : ClassId) (fha : Nat → Int32) (chb9 : ClassId) (fhb9 : Nat → Int32) (chc9 : ClassId) (fhc9 : Nat → Int32) (chbd : ClassId) (fhbd : Nat → Int32) (chlt : ClassId) (fhlt : Nat → Int32) (chfi : ClassId) (fhfi : Nat → Int32) (chla : ClassId) (fhla : Nat → Int32) (hB_mq : ((0 : Int) ≤ (mq).toInt ∧ (mq).toInt ≤ (2 : Int))) (hB_mn : ((0 : Int) ≤ (mn).toInt ∧ (mn).toInt ≤ (80 : Int))) (hI_ha : ∀ j : Nat, ((0 : Int) ≤ (fha j).toInt ∧ (fha j).toInt ≤ (79 : Int))) (hI_hbd : ∀ j : Nat, ((0 : Int) ≤ (fhbd j).toInt ∧ (fhbd j).toInt ≤ (11 : Int))) (hR : ∀ j : Nat, z_relm (fhs j) (fha j) (fhb9 j)) : Met l yX12_spans u_s_X12_spans ({ frames := 0, cells := 0, slots := 0, locals := 0 }) (va_Pc [.ref h0] (z_C (dC, dI) vwCl [(h0, .inr (12, [h0_0, h0_1, h0_2, h0_3, .int mn, .ref hs, .ref ha, .ref hb9, .ref hc9, .ref hct, h0_10, .ref hbd, .ref hlt, h0_13, .ref hfi, .ref hla, .int mq, h0_17, h0_18, h0_19, h0_20, h0_21, h0_22, h0_23, h0_24, h0_25, h0_26, h0_27, h0_28, h0_29, h0_30, h0_31, h0_32, h0_33, h0_34, h0_35, h0_36, h0_37, h0_38, h0_39, h0_40, h0_41, h0_42, h0_43, h0_44, h0_45, h0_46, h0_47, h0_48, h0_49, h0_50, h0_51, h0_52, h0_53, h0_54, h0_55, h0_56, h0_57, h0_58, h0_59, h0_60, h0_61, h0_62, h0_63, h0_64, h0_65, h0_66, h0_67, h0_68, h0_69])), (hct, .inl (chct, 80, .inl fhct)), (hs, .inl (chs, 80, .inl fhs)), (ha, .inl (cha, 80, .inl fha)), (hb9, .inl (chb9, 80, .inl fhb9)), (hc9, .inl (chc9, 80, .inl fhc9)), (hbd, .inl (chbd, 12, .inl fhbd)), (hlt, .inl (chlt, 144, .inl fhlt)), (hfi, .inl (chfi, 12, .inl fhfi)), (hla, .inl (chla, 12, .inl fhla))] [(chct, .boolean), (chs, .int), (cha, .int), (chb9, .int), (chc9, .int), (chbd, .int), (chlt, .boolean), (chfi, .int), (chla, .int)] sz)) (va_Qv (fun (_ : Unit) => True) (fun (_ : Unit) (t : State) => ∃ (n_h0_quarrelNow : Int32), ∃ (g_hfi : Nat → Int32), ∃ (g_hla : Nat → Int32), ((0 : Int) ≤ (n_h0_quarrelNow).toInt ∧ (n_h0_quarrelNow).toInt ≤ (2 : Int)) ∧ va_P (dC, dI) vwCl [(h0, .inr (12, [h0_0, h0_1, h0_2, h0_3, .int mn, .ref hs, .ref ha, .ref hb9, .ref hc9, .ref hct, h0_10, .ref hbd, .ref hlt, h0_13, .ref hfi, .ref hla, .int n_h0_quarrelNow, h0_17, h0_18, h0_19, h0_20, h0_21, h0_22, h0_23, h0_24, h0_25, h0_26, h0_27, h0_28, h0_29, h0_30, h0_31, h0_32, h0_33, h0_34, h0_35, h0_36, h0_37, h0_38, h0_39, h0_40, h0_41, h0_42, h0_43, h0_44, h0_45, h0_46, h0_47, h0_48, h0_49, h0_50, h0_51, h0_52, h0_53, h0_54, h0_55, h0_56, h0_57, h0_58, h0_59, h0_60, h0_61, h0_62, h0_63, h0_64, h0_65, h0_66, h0_67, h0_68, h0_69])), (hct, .inl (chct, 80, .inl fhct)), (hs, .inl (chs, 80, .inl fhs)), (ha, .inl (cha, 80, .inl fha)), (hb9, .inl (chb9, 80, .inl fhb9)), (hc9, .inl (chc9, 80, .inl fhc9)), (hbd, .inl (chbd, 12, .inl fhbd)), (hlt, .inl (chlt, 144, .inl fhlt)), (hfi, .inl (chfi, 12, .inl g_hfi)), (hla, .inl (chla, 12, .inl g_hla))] t.heap ∧ va_K (dC, dI) vwCl [] t ∧ va_D (va_A [(h0, .inr (12, [h0_0, h0_1, h0_2, h0_3, .int mn, .ref hs, .ref ha, .ref hb9, .ref hc9, .ref hct, h0_10, .ref hbd, .ref hlt, h0_13, .ref hfi, .ref hla, .int mq, h0_17, h0_18, h0_19, h0_20, h0_21, h0_22, h0_23, h0_24, h0_25, h0_26, h0_27, h0_28, h0_29, h0_30, h0_31, h0_32, h0_33, h0_34, h0_35, h0_36, h0_37, h0_38, h0_39, h0_40, h0_41, h0_42, h0_43, h0_44, h0_45, h0_46, h0_47, h0_48, h0_49, h0_50, h0_51, h0_52, h0_53, h0_54, h0_55, h0_56, h0_57, h0_58, h0_59, h0_60, h0_61, h0_62, h0_63, h0_64, h0_65, h0_66, h0_67, h0_68, h0_69])), (hct, .inl (chct, 80, .inl fhct)), (hs, .inl (chs, 80, .inl fhs)), (ha, .inl (cha, 80, .inl fha)), (hb9, .inl (chb9, 80, .inl fhb9)), (hc9, .inl (chc9, 80, .inl fhc9)), (hbd, .inl (chbd, 12, .inl fhbd)), (hlt, .inl (chlt, 144, .inl fhlt)), (hfi, .inl (chfi, 12, .inl fhfi)), (hla, .inl (chla, 12, .inl fhla))] sz) [(h0, .inr (12, [h0_0, h0_1, h0_2, h0_3, .int mn, .ref hs, .ref ha, .ref hb9, .ref hc9, .ref hct, h0_10, .ref hbd, .ref hlt, h0_13, .ref hfi, .ref hla, .int n_h0_quarrelNow, h0_17, h0_18, h0_19, h0_20, h0_21, h0_22, h0_23, h0_24, h0_25, h0_26, h0_27, h0_28, h0_29, h0_30, h0_31, h0_32, h0_33, h0_34, h0_35, h0_36, h0_37, h0_38, h0_39, h0_40, h0_41, h0_42, h0_43, h0_44, h0_45, h0_46, h0_47, h0_48, h0_49, h0_50, h0_51, h0_52, h0_53, h0_54, h0_55, h0_56, h0_57, h0_58, h0_59, h0_60, h0_61, h0_62, h0_63, h0_64, h0_65, h0_66, h0_67, h0_68, h0_69])), (hct, .inl (chct, 80, .inl fhct)), (hs, .inl (chs, 80, .inl fhs)), (ha, .inl (cha, 80, .inl fha)), (hb9, .inl (chb9, 80, .inl fhb9)), (hc9, .inl (chc9, 80, .inl fhc9)), (hbd, .inl (chbd, 12, .inl fhbd)), (hlt, .inl (chlt, 144, .inl fhlt)), (hfi, .inl (chfi, 12, .inl g_hfi)), (hla, .inl (chla, 12, .inl g_hla))]) (va_A [(h0, .inr (12, [h0_0, h0_1, h0_2, h0_3, .int mn, .ref hs, .ref ha, .ref hb9, .ref hc9, .ref hct, h0_10, .ref hbd, .ref hlt, h0_13, .ref hfi, .ref hla, .int mq, h0_17, h0_18, h0_19, h0_20, h0_21, h0_22, h0_23, h0_24, h0_25, h0_26, h0_27, h0_28, h0_29, h0_30, h0_31, h0_32, h0_33, h0_34, h0_35, h0_36, h0_37, h0_38, h0_39, h0_40, h0_41, h0_42, h0_43, h0_44, h0_45, h0_46, h0_47, h0_48, h0_49, h0_50, h0_51, h0_52, h0_53, h0_54, h0_55, h0_56, h0_57, h0_58, h0_59, h0_60, h0_61, h0_62, h0_63, h0_64, h0_65, h0_66, h0_67, h0_68, h0_69])), (hct, .inl (chct, 80, .inl fhct)), (hs, .inl (chs, 80, .inl fhs)), (ha, .inl (cha, 80, .inl fha)), (hb9, .inl (chb9, 80, .inl fhb9)), (hc9, .inl (chc9, 80, .inl fhc9)), (hbd, .inl (chbd, 12, .inl fhbd)), (hlt, .inl (chlt, 144, .inl fhlt)), (hfi, .inl (chfi, 12, .inl fhfi)), (hla, .inl (chla, 12, .inl fhla))] sz)) 0 0 (va_A [(h0, .inr (12, [h0_0, h0_1, h0_2, h0_3, .int mn, .ref hs, .ref ha, .ref hb9, .ref hc9, .ref hct, h0_10, .ref hbd, .ref hlt, h0_13, .ref hfi, .ref hla, .int mq, h0_17, h0_18, h0_19, h0_20, h0_21, h0_22, h0_23, h0_24, h0_25, h0_26, h0_27, h0_28, h0_29, h0_30, h0_31, h0_32, h0_33, h0_34, h0_35, h0_36, h0_37, h0_38, h0_39, h0_40, h0_41, h0_42, h0_43, h0_44, h0_45, h0_46, h0_47, h0_48, h0_49, h0_50, h0_51, h0_52, h0_53, h0_54, h0_55, h0_56, h0_57, h0_58, h0_59, h0_60, h0_61, h0_62, h0_63, h0_64, h0_65, h0_66, h0_67, h0_68, h0_69])), (hct, .inl (chct, 80, .inl fhct)), (hs, .inl (chs, 80, .inl fhs)), (ha, .inl (cha, 80, .inl fha)), (hb9, .inl (chb9, 80, .inl fhb9)), (hc9, .inl (chc9, 80, .inl fhc9)), (hbd, .inl (chbd, 12, .inl fhbd)), (hlt, .inl (chlt, 144, .inl fhlt)), (hfi, .inl (chfi, 12, .inl fhfi)), (hla, .inl (chla, 12, .inl fhla))] sz) := by
  refine Met.ofW (cc := cX12_spans) (maxL := 4) (ret := none) (by decide) rfl ?_
  intro p e s m args below meth c s₁ B hml hv
  obtain ⟨rfl, hsz, hP, hK, hD0⟩ := hv
  have hx := B.exec
  have hb := B.bytes
  have hr := B.returns
  have hts := atoms_spec (ws := u_s_X12_spans) B.pre
  have hown : s.vm.findClass RX12 = some m.cls := findClass_of_methodNamed B.named
  have hlocks := B.notSynchronized
  subst hsz
  have hD := hD0.self (sz := s.heap.size)
  generalize hAe : va_A [(h0, .inr (12, [h0_0, h0_1, h0_2, h0_3, .int mn, .ref hs, .ref ha, .ref hb9, .ref hc9, .ref hct, h0_10, .ref hbd, .ref hlt, h0_13, .ref hfi, .ref hla, .int mq, h0_17, h0_18, h0_19, h0_20, h0_21, h0_22, h0_23, h0_24, h0_25, h0_26, h0_27, h0_28, h0_29, h0_30, h0_31, h0_32, h0_33, h0_34, h0_35, h0_36, h0_37, h0_38, h0_39, h0_40, h0_41, h0_42, h0_43, h0_44, h0_45, h0_46, h0_47, h0_48, h0_49, h0_50, h0_51, h0_52, h0_53, h0_54, h0_55, h0_56, h0_57, h0_58, h0_59, h0_60, h0_61, h0_62, h0_63, h0_64, h0_65, h0_66, h0_67, h0_68, h0_69])), (hct, .inl (chct, 80, .inl fhct)), (hs, .inl (chs, 80, .inl fhs)), (ha, .inl (cha, 80, .inl fha)), (hb9, .inl (chb9, 80, .inl fhb9)), (hc9, .inl (chc9, 80, .inl fhc9)), (hbd, .inl (chbd, 12, .inl fhbd)), (hlt, .inl (chlt, 144, .inl fhlt)), (hfi, .inl (chfi, 12, .inl fhfi)), (hla, .inl (chla, 12, .inl fhla))] s.heap.size = A at hD ⊢
  have hA : ∀ q : Nat, s.heap.size ≤ q → A q := fun q h => by rw [← hAe]; exact Or.inr h
  have hS : va_S A s.heap s.heap [] := va_S.rf
  have hP : va_P (dC, dI) vwCl [(h0, .inr (12, [h0_0, h0_1, h0_2, h0_3, .int mn, .ref hs, .ref ha, .ref hb9, .ref hc9, .ref hct, h0_10, .ref hbd, .ref hlt, h0_13, .ref hfi, .ref hla, .int mq, h0_17, h0_18, h0_19, h0_20, h0_21, h0_22, h0_23, h0_24, h0_25, h0_26, h0_27, h0_28, h0_29, h0_30, h0_31, h0_32, h0_33, h0_34, h0_35, h0_36, h0_37, h0_38, h0_39, h0_40, h0_41, h0_42, h0_43, h0_44, h0_45, h0_46, h0_47, h0_48, h0_49, h0_50, h0_51, h0_52, h0_53, h0_54, h0_55, h0_56, h0_57, h0_58, h0_59, h0_60, h0_61, h0_62, h0_63, h0_64, h0_65, h0_66, h0_67, h0_68, h0_69])), (hct, .inl (chct, 80, .inl fhct)), (hs, .inl (chs, 80, .inl fhs)), (ha, .inl (cha, 80, .inl fha)), (hb9, .inl (chb9, 80, .inl fhb9)), (hc9, .inl (chc9, 80, .inl fhc9)), (hbd, .inl (chbd, 12, .inl fhbd)), (hlt, .inl (chlt, 144, .inl fhlt)), (hfi, .inl (chfi, 12, .inl fhfi)), (hla, .inl (chla, 12, .inl fhla))] s.heap := hP
  have w__fieldLink_RX12_154_ShellHeapModel_notes_I_ := hts (.fieldLink RX12 154 "ShellHeapModel" "notes" "I") (z_mc (z_ml z_m0))
  have hiX12 := show ∀ w ∈ u_ws RX12 TX12 70, w ∈ u_s_X12_spans from fun w h => z_mc (z_mr (z_ml h))
  have w__fieldLink_RX12_167_ShellHeapModel_quarrelNow_I_ := hts (.fieldLink RX12 167 "ShellHeapModel" "quarrelNow" "I") (z_mc (z_ml z_m1))
  have w__fieldLink_RX12_41_ShellHeapModel_first_I_ := hts (.fieldLink RX12 41 "ShellHeapModel" "first" "[I") (z_mc (z_ml z_m2))
  have w__fieldLink_RX12_44_ShellHeapModel_last_I_ := hts (.fieldLink RX12 44 "ShellHeapModel" "last" "[I") (z_mc (z_ml z_m3))
  have w__fieldLink_RX12_35_ShellHeapModel_later_Z_ := hts (.fieldLink RX12 35 "ShellHeapModel" "later" "[Z") (z_mc (z_ml z_m4))
  have w__fieldLink_RX12_25_ShellHeapModel_counts_Z_ := hts (.fieldLink RX12 25 "ShellHeapModel" "counts" "[Z") (z_mc (z_ml z_m5))
  have w__fieldLink_RX12_13_ShellHeapModel_sort_I_ := hts (.fieldLink RX12 13 "ShellHeapModel" "sort" "[I") (z_mc (z_ml z_m6))
  have w__fieldLink_RX12_32_ShellHeapModel_bedOf_I_ := hts (.fieldLink RX12 32 "ShellHeapModel" "bedOf" "[I") (z_mc (z_ml z_m7))
  have w__fieldLink_RX12_16_ShellHeapModel_noteA_I_ := hts (.fieldLink RX12 16 "ShellHeapModel" "noteA" "[I") (z_mc (z_ml z_m8))
  have w__fieldLink_RX12_19_ShellHeapModel_noteB_I_ := hts (.fieldLink RX12 19 "ShellHeapModel" "noteB" "[I") (z_mc (z_ml z_m9))
  have w__fieldLink_RX12_22_ShellHeapModel_noteC_I_ := hts (.fieldLink RX12 22 "ShellHeapModel" "noteC" "[I") (z_mc (z_ml z_m10))
  have hl := lv_entry ([.ref h0]) (n := 4) (Nat.le_of_ble_eq_true rfl)
  rw [lg_entry_eq]
  generalize (lg_sl ([.ref h0]) ++ List.replicate (4 - (lg_sl ([.ref h0])).length) Slot.unset).toArray = ls at hl ⊢
  have hl : lv_has ls 4 [(0, .ref h0)] := hl
  refine z_nameQ (fun QQ hQQ => ?_)
  refine lv_iconst (v := 0) hx hb dX12_spans_0 (by decide) ?_
  refine lv_istore_n (lv' := [(1, .int 0), (0, .ref h0)]) hx hb dX12_spans_1 rfl hl (by decide) rfl (fun ls hl => ?_)
  have loop_1 : ∀ (n_2 : Nat) (i_4 : Int32) (f_5 : Nat → Int32) (f_6 : Nat → Int32) (H : Heap) (locs : List Loc) (ls : Array Slot), (13 - (i_4).toInt).toNat < n_2 → (((0 : Int) ≤ (i_4).toInt ∧ (i_4).toInt ≤ (12 : Int))) → va_P (dC, dI) vwCl [(h0, .inr (12, [h0_0, h0_1, h0_2, h0_3, .int mn, .ref hs, .ref ha, .ref hb9, .ref hc9, .ref hct, h0_10, .ref hbd, .ref hlt, h0_13, .ref hfi, .ref hla, .int mq, h0_17, h0_18, h0_19, h0_20, h0_21, h0_22, h0_23, h0_24, h0_25, h0_26, h0_27, h0_28, h0_29, h0_30, h0_31, h0_32, h0_33, h0_34, h0_35, h0_36, h0_37, h0_38, h0_39, h0_40, h0_41, h0_42, h0_43, h0_44, h0_45, h0_46, h0_47, h0_48, h0_49, h0_50, h0_51, h0_52, h0_53, h0_54, h0_55, h0_56, h0_57, h0_58, h0_59, h0_60, h0_61, h0_62, h0_63, h0_64, h0_65, h0_66, h0_67, h0_68, h0_69])), (hct, .inl (chct, 80, .inl fhct)), (hs, .inl (chs, 80, .inl fhs)), (ha, .inl (cha, 80, .inl fha)), (hb9, .inl (chb9, 80, .inl fhb9)), (hc9, .inl (chc9, 80, .inl fhc9)), (hbd, .inl (chbd, 12, .inl fhbd)), (hlt, .inl (chlt, 144, .inl fhlt)), (hfi, .inl (chfi, 12, .inl f_5)), (hla, .inl (chla, 12, .inl f_6))] H → va_D A [(h0, .inr (12, [h0_0, h0_1, h0_2, h0_3, .int mn, .ref hs, .ref ha, .ref hb9, .ref hc9, .ref hct, h0_10, .ref hbd, .ref hlt, h0_13, .ref hfi, .ref hla, .int mq, h0_17, h0_18, h0_19, h0_20, h0_21, h0_22, h0_23, h0_24, h0_25, h0_26, h0_27, h0_28, h0_29, h0_30, h0_31, h0_32, h0_33, h0_34, h0_35, h0_36, h0_37, h0_38, h0_39, h0_40, h0_41, h0_42, h0_43, h0_44, h0_45, h0_46, h0_47, h0_48, h0_49, h0_50, h0_51, h0_52, h0_53, h0_54, h0_55, h0_56, h0_57, h0_58, h0_59, h0_60, h0_61, h0_62, h0_63, h0_64, h0_65, h0_66, h0_67, h0_68, h0_69])), (hct, .inl (chct, 80, .inl fhct)), (hs, .inl (chs, 80, .inl fhs)), (ha, .inl (cha, 80, .inl fha)), (hb9, .inl (chb9, 80, .inl fhb9)), (hc9, .inl (chc9, 80, .inl fhc9)), (hbd, .inl (chbd, 12, .inl fhbd)), (hlt, .inl (chlt, 144, .inl fhlt)), (hfi, .inl (chfi, 12, .inl f_5)), (hla, .inl (chla, 12, .inl f_6))] → va_S A s.heap H locs → lv_has ls 4 [(1, .int i_4), (0, .ref h0)] → W p l e ({ frames := 0, cells := 0, slots := 0, locals := 0 } : Room) s m ([.ref h0] : List Value).toArray below meth c H locs 0 0 QQ (F0 m 2 ls []) := by
    intro n_2
    induction n_2 with
    | zero => intro i_4 f_5 f_6 H locs ls hm; exact absurd hm (Nat.not_lt_zero _)
    | succ n_2 ih_3 =>
      intro i_4 f_5 f_6 H locs ls hm hF_7 hP hD hS hl
      refine lv_iload_n hx hb dX12_spans_2 rfl (lv_at hl 0 rfl) ?_
      refine lv_bipush (v := 12) hx hb dX12_spans_3 (by decide) ?_
      refine lv_icmp_ge (tgt := 30) hx hb dX12_spans_5 (by decide) (fun c_8 => ?_) (fun c_8 => ?_)
      · have k_9 : (12 : Int) ≤ (i_4).toInt := z_le c_8
        obtain rfl : i_4 = 12 := z_eq' (show (i_4).toInt = (12 : Int) by omega)
        refine lv_iconst (v := 0) hx hb dX12_spans_30 (by decide) ?_
        refine lv_istore_n (lv' := [(1, .int 0), (0, .ref h0)]) hx hb dX12_spans_31 rfl hl (by decide) rfl (fun ls hl => ?_)
        have loop_11 : ∀ (n_12 : Nat) (i_14 : Int32) (f_15 : Nat → Int32) (f_16 : Nat → Int32) (H : Heap) (locs : List Loc) (ls : Array Slot), (81 - (i_14).toInt).toNat < n_12 → (((0 : Int) ≤ (i_14).toInt ∧ (i_14).toInt ≤ (80 : Int))) → va_P (dC, dI) vwCl [(h0, .inr (12, [h0_0, h0_1, h0_2, h0_3, .int mn, .ref hs, .ref ha, .ref hb9, .ref hc9, .ref hct, h0_10, .ref hbd, .ref hlt, h0_13, .ref hfi, .ref hla, .int mq, h0_17, h0_18, h0_19, h0_20, h0_21, h0_22, h0_23, h0_24, h0_25, h0_26, h0_27, h0_28, h0_29, h0_30, h0_31, h0_32, h0_33, h0_34, h0_35, h0_36, h0_37, h0_38, h0_39, h0_40, h0_41, h0_42, h0_43, h0_44, h0_45, h0_46, h0_47, h0_48, h0_49, h0_50, h0_51, h0_52, h0_53, h0_54, h0_55, h0_56, h0_57, h0_58, h0_59, h0_60, h0_61, h0_62, h0_63, h0_64, h0_65, h0_66, h0_67, h0_68, h0_69])), (hct, .inl (chct, 80, .inl fhct)), (hs, .inl (chs, 80, .inl fhs)), (ha, .inl (cha, 80, .inl fha)), (hb9, .inl (chb9, 80, .inl fhb9)), (hc9, .inl (chc9, 80, .inl fhc9)), (hbd, .inl (chbd, 12, .inl fhbd)), (hlt, .inl (chlt, 144, .inl fhlt)), (hfi, .inl (chfi, 12, .inl f_15)), (hla, .inl (chla, 12, .inl f_16))] H → va_D A [(h0, .inr (12, [h0_0, h0_1, h0_2, h0_3, .int mn, .ref hs, .ref ha, .ref hb9, .ref hc9, .ref hct, h0_10, .ref hbd, .ref hlt, h0_13, .ref hfi, .ref hla, .int mq, h0_17, h0_18, h0_19, h0_20, h0_21, h0_22, h0_23, h0_24, h0_25, h0_26, h0_27, h0_28, h0_29, h0_30, h0_31, h0_32, h0_33, h0_34, h0_35, h0_36, h0_37, h0_38, h0_39, h0_40, h0_41, h0_42, h0_43, h0_44, h0_45, h0_46, h0_47, h0_48, h0_49, h0_50, h0_51, h0_52, h0_53, h0_54, h0_55, h0_56, h0_57, h0_58, h0_59, h0_60, h0_61, h0_62, h0_63, h0_64, h0_65, h0_66, h0_67, h0_68, h0_69])), (hct, .inl (chct, 80, .inl fhct)), (hs, .inl (chs, 80, .inl fhs)), (ha, .inl (cha, 80, .inl fha)), (hb9, .inl (chb9, 80, .inl fhb9)), (hc9, .inl (chc9, 80, .inl fhc9)), (hbd, .inl (chbd, 12, .inl fhbd)), (hlt, .inl (chlt, 144, .inl fhlt)), (hfi, .inl (chfi, 12, .inl f_15)), (hla, .inl (chla, 12, .inl f_16))] → va_S A s.heap H locs → lv_has ls 4 [(1, .int i_14), (0, .ref h0)] → W p l e ({ frames := 0, cells := 0, slots := 0, locals := 0 } : Room) s m ([.ref h0] : List Value).toArray below meth c H locs 0 0 QQ (F0 m 32 ls []) := by
          intro n_12
          induction n_12 with
          | zero => intro i_14 f_15 f_16 H locs ls hm; exact absurd hm (Nat.not_lt_zero _)
          | succ n_12 ih_13 =>
            intro i_14 f_15 f_16 H locs ls hm hF_17 hP hD hS hl
            refine lv_iload_n hx hb dX12_spans_32 rfl (lv_at hl 0 rfl) ?_
            refine lv_aload_n hx hb dX12_spans_33 rfl (lv_at hl 1 rfl) ?_
            refine va_get (D := (dC, dI)) (ci := 12) (v := .int mn) (C := RX12) (T := TX12) (N := 70) hx hb hts hiX12 hown hK hP 0 rfl rfl 4 (by decide) w__fieldLink_RX12_154_ShellHeapModel_notes_I_ (fun _ h9 => h9) rfl dX12_spans_34 ?_
            refine lv_icmp_ge (tgt := 152) hx hb dX12_spans_37 (by decide) (fun c_18 => ?_) (fun c_18 => ?_)
            · have k_19 : (mn).toInt ≤ (i_14).toInt := z_le c_18
              refine lv_iconst (v := 0) hx hb dX12_spans_152 (by decide) ?_
              refine lv_istore_n (lv' := [(1, .int 0), (0, .ref h0)]) hx hb dX12_spans_153 rfl hl (by decide) rfl (fun ls hl => ?_)
              have loop_20 : ∀ (n_21 : Nat) (i_23 : Int32) (f_24 : Nat → Int32) (f_25 : Nat → Int32) (H : Heap) (locs : List Loc) (ls : Array Slot), (13 - (i_23).toInt).toNat < n_21 → (((0 : Int) ≤ (i_23).toInt ∧ (i_23).toInt ≤ (12 : Int))) → va_P (dC, dI) vwCl [(h0, .inr (12, [h0_0, h0_1, h0_2, h0_3, .int mn, .ref hs, .ref ha, .ref hb9, .ref hc9, .ref hct, h0_10, .ref hbd, .ref hlt, h0_13, .ref hfi, .ref hla, .int mq, h0_17, h0_18, h0_19, h0_20, h0_21, h0_22, h0_23, h0_24, h0_25, h0_26, h0_27, h0_28, h0_29, h0_30, h0_31, h0_32, h0_33, h0_34, h0_35, h0_36, h0_37, h0_38, h0_39, h0_40, h0_41, h0_42, h0_43, h0_44, h0_45, h0_46, h0_47, h0_48, h0_49, h0_50, h0_51, h0_52, h0_53, h0_54, h0_55, h0_56, h0_57, h0_58, h0_59, h0_60, h0_61, h0_62, h0_63, h0_64, h0_65, h0_66, h0_67, h0_68, h0_69])), (hct, .inl (chct, 80, .inl fhct)), (hs, .inl (chs, 80, .inl fhs)), (ha, .inl (cha, 80, .inl fha)), (hb9, .inl (chb9, 80, .inl fhb9)), (hc9, .inl (chc9, 80, .inl fhc9)), (hbd, .inl (chbd, 12, .inl fhbd)), (hlt, .inl (chlt, 144, .inl fhlt)), (hfi, .inl (chfi, 12, .inl f_24)), (hla, .inl (chla, 12, .inl f_25))] H → va_D A [(h0, .inr (12, [h0_0, h0_1, h0_2, h0_3, .int mn, .ref hs, .ref ha, .ref hb9, .ref hc9, .ref hct, h0_10, .ref hbd, .ref hlt, h0_13, .ref hfi, .ref hla, .int mq, h0_17, h0_18, h0_19, h0_20, h0_21, h0_22, h0_23, h0_24, h0_25, h0_26, h0_27, h0_28, h0_29, h0_30, h0_31, h0_32, h0_33, h0_34, h0_35, h0_36, h0_37, h0_38, h0_39, h0_40, h0_41, h0_42, h0_43, h0_44, h0_45, h0_46, h0_47, h0_48, h0_49, h0_50, h0_51, h0_52, h0_53, h0_54, h0_55, h0_56, h0_57, h0_58, h0_59, h0_60, h0_61, h0_62, h0_63, h0_64, h0_65, h0_66, h0_67, h0_68, h0_69])), (hct, .inl (chct, 80, .inl fhct)), (hs, .inl (chs, 80, .inl fhs)), (ha, .inl (cha, 80, .inl fha)), (hb9, .inl (chb9, 80, .inl fhb9)), (hc9, .inl (chc9, 80, .inl fhc9)), (hbd, .inl (chbd, 12, .inl fhbd)), (hlt, .inl (chlt, 144, .inl fhlt)), (hfi, .inl (chfi, 12, .inl f_24)), (hla, .inl (chla, 12, .inl f_25))] → va_S A s.heap H locs → lv_has ls 4 [(1, .int i_23), (0, .ref h0)] → W p l e ({ frames := 0, cells := 0, slots := 0, locals := 0 } : Room) s m ([.ref h0] : List Value).toArray below meth c H locs 0 0 QQ (F0 m 154 ls []) := by
                intro n_21
                induction n_21 with
                | zero => intro i_23 f_24 f_25 H locs ls hm; exact absurd hm (Nat.not_lt_zero _)
                | succ n_21 ih_22 =>
                  intro i_23 f_24 f_25 H locs ls hm hF_26 hP hD hS hl
                  refine lv_iload_n hx hb dX12_spans_154 rfl (lv_at hl 0 rfl) ?_
                  refine lv_bipush (v := 12) hx hb dX12_spans_155 (by decide) ?_
                  refine lv_icmp_ge (tgt := 283) hx hb dX12_spans_157 (by decide) (fun c_27 => ?_) (fun c_27 => ?_)
                  · have k_28 : (12 : Int) ≤ (i_23).toInt := z_le c_27
                    obtain rfl : i_23 = 12 := z_eq' (show (i_23).toInt = (12 : Int) by omega)
                    refine lv_aload_n hx hb dX12_spans_283 rfl (lv_at hl 1 rfl) ?_
                    refine va_get (D := (dC, dI)) (ci := 12) (v := .int mq) (C := RX12) (T := TX12) (N := 70) hx hb hts hiX12 hown hK hP 0 rfl rfl 16 (by decide) w__fieldLink_RX12_167_ShellHeapModel_quarrelNow_I_ (fun _ h9 => h9) rfl dX12_spans_284 ?_
                    refine lv_iconst (v := 1) hx hb dX12_spans_287 (by decide) ?_
                    refine lv_icmp_ne (tgt := 292) hx hb dX12_spans_288 (by decide) (fun c_30 => ?_) (fun c_30 => ?_)
                    · have k_31 : (mq).toInt ≠ (1 : Int) := z_ne c_30
                      refine lv_iconst (v := 0) hx hb dX12_spans_292 (by decide) ?_
                      refine lv_istore_n (lv' := [(1, .int 0), (0, .ref h0)]) hx hb dX12_spans_293 rfl hl (by decide) rfl (fun ls hl => ?_)
                      have loop_32 : ∀ (n_33 : Nat) (i_35 : Int32) (v_36 : Int32) (H : Heap) (locs : List Loc) (ls : Array Slot), (13 - (i_35).toInt).toNat < n_33 → (((0 : Int) ≤ (i_35).toInt ∧ (i_35).toInt ≤ (12 : Int))) → (((0 : Int) ≤ (v_36).toInt ∧ (v_36).toInt ≤ (2 : Int))) → va_P (dC, dI) vwCl [(h0, .inr (12, [h0_0, h0_1, h0_2, h0_3, .int mn, .ref hs, .ref ha, .ref hb9, .ref hc9, .ref hct, h0_10, .ref hbd, .ref hlt, h0_13, .ref hfi, .ref hla, .int v_36, h0_17, h0_18, h0_19, h0_20, h0_21, h0_22, h0_23, h0_24, h0_25, h0_26, h0_27, h0_28, h0_29, h0_30, h0_31, h0_32, h0_33, h0_34, h0_35, h0_36, h0_37, h0_38, h0_39, h0_40, h0_41, h0_42, h0_43, h0_44, h0_45, h0_46, h0_47, h0_48, h0_49, h0_50, h0_51, h0_52, h0_53, h0_54, h0_55, h0_56, h0_57, h0_58, h0_59, h0_60, h0_61, h0_62, h0_63, h0_64, h0_65, h0_66, h0_67, h0_68, h0_69])), (hct, .inl (chct, 80, .inl fhct)), (hs, .inl (chs, 80, .inl fhs)), (ha, .inl (cha, 80, .inl fha)), (hb9, .inl (chb9, 80, .inl fhb9)), (hc9, .inl (chc9, 80, .inl fhc9)), (hbd, .inl (chbd, 12, .inl fhbd)), (hlt, .inl (chlt, 144, .inl fhlt)), (hfi, .inl (chfi, 12, .inl f_24)), (hla, .inl (chla, 12, .inl f_25))] H → va_D A [(h0, .inr (12, [h0_0, h0_1, h0_2, h0_3, .int mn, .ref hs, .ref ha, .ref hb9, .ref hc9, .ref hct, h0_10, .ref hbd, .ref hlt, h0_13, .ref hfi, .ref hla, .int v_36, h0_17, h0_18, h0_19, h0_20, h0_21, h0_22, h0_23, h0_24, h0_25, h0_26, h0_27, h0_28, h0_29, h0_30, h0_31, h0_32, h0_33, h0_34, h0_35, h0_36, h0_37, h0_38, h0_39, h0_40, h0_41, h0_42, h0_43, h0_44, h0_45, h0_46, h0_47, h0_48, h0_49, h0_50, h0_51, h0_52, h0_53, h0_54, h0_55, h0_56, h0_57, h0_58, h0_59, h0_60, h0_61, h0_62, h0_63, h0_64, h0_65, h0_66, h0_67, h0_68, h0_69])), (hct, .inl (chct, 80, .inl fhct)), (hs, .inl (chs, 80, .inl fhs)), (ha, .inl (cha, 80, .inl fha)), (hb9, .inl (chb9, 80, .inl fhb9)), (hc9, .inl (chc9, 80, .inl fhc9)), (hbd, .inl (chbd, 12, .inl fhbd)), (hlt, .inl (chlt, 144, .inl fhlt)), (hfi, .inl (chfi, 12, .inl f_24)), (hla, .inl (chla, 12, .inl f_25))] → va_S A s.heap H locs → lv_has ls 4 [(1, .int i_35), (0, .ref h0)] → W p l e ({ frames := 0, cells := 0, slots := 0, locals := 0 } : Room) s m ([.ref h0] : List Value).toArray below meth c H locs 0 0 QQ (F0 m 294 ls []) := by
                        intro n_33
                        induction n_33 with
                        | zero => intro i_35 v_36 H locs ls hm; exact absurd hm (Nat.not_lt_zero _)
                        | succ n_33 ih_34 =>
                          intro i_35 v_36 H locs ls hm hF_37 hF_38 hP hD hS hl
                          refine lv_iload_n hx hb dX12_spans_294 rfl (lv_at hl 0 rfl) ?_
                          refine lv_bipush (v := 12) hx hb dX12_spans_295 (by decide) ?_
                          refine lv_icmp_ge (tgt := 333) hx hb dX12_spans_297 (by decide) (fun c_39 => ?_) (fun c_39 => ?_)
                          · have k_40 : (12 : Int) ≤ (i_35).toInt := z_le c_39
                            obtain rfl : i_35 = 12 := z_eq' (show (i_35).toInt = (12 : Int) by omega)
                            refine z_backQ hQQ ?_
                            have hP9 := hP
                            have hD9 := hD
                            have hK9 := hK.sub (tys' := []) [] rfl
                            refine W.widen (k := 0) (n := 0) (Nat.le_of_ble_eq_true rfl) (Nat.le_of_ble_eq_true rfl) ?_
                            exact W.vret hx hb hr (fun t ht hW => ⟨⟨(), rfl, trivial, ⟨v_36, f_24, f_25, hF_38, by rw [ht]; exact hP9, va_K.moved hW.alike hK9, hD9⟩⟩, hS.F ht⟩) hS.2.2 dX12_spans_333
                          · have k_42 : (12 : Int) > (i_35).toInt := z_nle c_39
                            refine lv_aload_n hx hb dX12_spans_300 rfl (lv_at hl 1 rfl) ?_
                            refine lv_aload_n hx hb dX12_spans_301 rfl (lv_at hl 1 rfl) ?_
                            refine va_get (D := (dC, dI)) (ci := 12) (v := .ref hfi) (C := RX12) (T := TX12) (N := 70) hx hb hts hiX12 hown hK hP 0 rfl rfl 14 (by decide) w__fieldLink_RX12_41_ShellHeapModel_first_I_ (fun _ h9 => h9) rfl dX12_spans_302 ?_
                            refine lv_iload_n hx hb dX12_spans_305 rfl (lv_at hl 0 rfl) ?_
                            refine va_iald hx hb hK hP 8 7 rfl rfl (z_vpin (by omega) (by omega)) dX12_spans_306 ?_
                            refine lv_topi (fun z_43 ez_43 => ?_)
                            refine lv_aload_n hx hb dX12_spans_307 rfl (lv_at hl 1 rfl) ?_
                            refine va_get (D := (dC, dI)) (ci := 12) (v := .ref hla) (C := RX12) (T := TX12) (N := 70) hx hb hts hiX12 hown hK hP 0 rfl rfl 15 (by decide) w__fieldLink_RX12_44_ShellHeapModel_last_I_ (fun _ h9 => h9) rfl dX12_spans_308 ?_
                            refine lv_iload_n hx hb dX12_spans_311 rfl (lv_at hl 0 rfl) ?_
                            refine va_iald hx hb hK hP 9 8 rfl rfl (z_vpin (by omega) (by omega)) dX12_spans_312 ?_
                            refine lv_topi (fun z_44 ez_44 => ?_)
                            refine lv_icmp_le (tgt := 320) hx hb dX12_spans_313 (by decide) (fun c_45 => ?_) (fun c_45 => ?_)
                            · have k_46 : (z_43).toInt ≤ (z_44).toInt := z_le c_45
                              refine lv_aload_n hx hb dX12_spans_320 rfl (lv_at hl 1 rfl) ?_
                              refine va_get (D := (dC, dI)) (ci := 12) (v := .int v_36) (C := RX12) (T := TX12) (N := 70) hx hb hts hiX12 hown hK hP 0 rfl rfl 16 (by decide) w__fieldLink_RX12_167_ShellHeapModel_quarrelNow_I_ (fun _ h9 => h9) rfl dX12_spans_321 ?_
                              refine va_put (D := (dC, dI)) (ci := 12) (v := .int v_36) (ty := .int) (C := RX12) (T := TX12) (N := 70) hx hb hts hiX12 tyX12 tyX12_ok nmX12 hown hK hP hD hS 0 rfl rfl 16 (by decide) w__fieldLink_RX12_167_ShellHeapModel_quarrelNow_I_ (fun _ h9 => h9) rfl (by decide +kernel) rfl rfl (Nat.le_of_ble_eq_true rfl) dX12_spans_324 (fun H_47 locs hP hD hS => ?_)
                              obtain ⟨hP, hD⟩ := z_s_0_16 hP hD
                              obtain ⟨z_48, ez_48⟩ : ∃ y : Int32, y = i_35 + 1 := ⟨_, rfl⟩
                              have kz_48 : (z_48).toInt = (i_35).toInt + (1 : Int) := by rw [ez_48]; exact z_add (b := 1) rfl rfl (z_al hF_37.1 (by decide)) (z_ah hF_37.2 (by decide))
                              refine lv_iinc (v := z_48) (lv' := [(1, .int z_48), (0, .ref h0)]) hx hb dX12_spans_327 hl (k := 0) rfl (by rw [ez_48]; rfl) (by decide) rfl (fun ls hl => ?_)
                              refine lv_goto (tgt := 294) hx hb dX12_spans_330 (by decide) ?_
                              exact ih_34 z_48 v_36 _ _ _ (show (13 - (z_48).toInt).toNat < n_33 by omega) (show ((0 : Int) ≤ (z_48).toInt ∧ (z_48).toInt ≤ (12 : Int)) by omega) (show ((0 : Int) ≤ (v_36).toInt ∧ (v_36).toInt ≤ (2 : Int)) by omega) hP hD hS (lv_sub hl [0, 1] rfl)
                            · have k_49 : (z_43).toInt > (z_44).toInt := z_nle c_45
                              refine lv_iconst (v := 2) hx hb dX12_spans_316 (by decide) ?_
                              refine lv_goto (tgt := 324) hx hb dX12_spans_317 (by decide) ?_
                              refine va_put (D := (dC, dI)) (ci := 12) (v := .int 2) (ty := .int) (C := RX12) (T := TX12) (N := 70) hx hb hts hiX12 tyX12 tyX12_ok nmX12 hown hK hP hD hS 0 rfl rfl 16 (by decide) w__fieldLink_RX12_167_ShellHeapModel_quarrelNow_I_ (fun _ h9 => h9) rfl (by decide +kernel) rfl rfl (Nat.le_of_ble_eq_true rfl) dX12_spans_324 (fun H_50 locs hP hD hS => ?_)
                              obtain ⟨hP, hD⟩ := z_s_0_16 hP hD
                              obtain ⟨z_51, ez_51⟩ : ∃ y : Int32, y = i_35 + 1 := ⟨_, rfl⟩
                              have kz_51 : (z_51).toInt = (i_35).toInt + (1 : Int) := by rw [ez_51]; exact z_add (b := 1) rfl rfl (z_al hF_37.1 (by decide)) (z_ah hF_37.2 (by decide))
                              refine lv_iinc (v := z_51) (lv' := [(1, .int z_51), (0, .ref h0)]) hx hb dX12_spans_327 hl (k := 0) rfl (by rw [ez_51]; rfl) (by decide) rfl (fun ls hl => ?_)
                              refine lv_goto (tgt := 294) hx hb dX12_spans_330 (by decide) ?_
                              exact ih_34 z_51 2 _ _ _ (show (13 - (z_51).toInt).toNat < n_33 by omega) (show ((0 : Int) ≤ (z_51).toInt ∧ (z_51).toInt ≤ (12 : Int)) by omega) (show ((0 : Int) ≤ (2 : Int) ∧ (2 : Int) ≤ (2 : Int)) by omega) hP hD hS (lv_sub hl [0, 1] rfl)
                      exact loop_32 _ 0 mq _ _ _ (Nat.lt_succ_self _) (show ((0 : Int) ≤ (0 : Int) ∧ (0 : Int) ≤ (12 : Int)) by omega) (show ((0 : Int) ≤ (mq).toInt ∧ (mq).toInt ≤ (2 : Int)) by omega) hP hD hS hl
                    · have k_52 : (mq).toInt = (1 : Int) := z_eq c_30
                      obtain rfl : mq = 1 := z_eq' (show (mq).toInt = (1 : Int) by omega)
                      refine z_backQ hQQ ?_
                      have hP9 := hP
                      have hD9 := hD
                      have hK9 := hK.sub (tys' := []) [] rfl
                      refine W.widen (k := 0) (n := 0) (Nat.le_of_ble_eq_true rfl) (Nat.le_of_ble_eq_true rfl) ?_
                      exact W.vret hx hb hr (fun t ht hW => ⟨⟨(), rfl, trivial, ⟨1, f_24, f_25, (by decide), by rw [ht]; exact hP9, va_K.moved hW.alike hK9, hD9⟩⟩, hS.F ht⟩) hS.2.2 dX12_spans_291
                  · have k_54 : (12 : Int) > (i_23).toInt := z_nle c_27
                    refine lv_iconst (v := 0) hx hb dX12_spans_160 (by decide) ?_
                    refine lv_istore_n (lv' := [(2, .int 0), (1, .int i_23), (0, .ref h0)]) hx hb dX12_spans_161 rfl hl (by decide) rfl (fun ls hl => ?_)
                    have loop_55 : ∀ (n_56 : Nat) (i_58 : Int32) (f_59 : Nat → Int32) (f_60 : Nat → Int32) (H : Heap) (locs : List Loc) (ls : Array Slot), (13 - (i_58).toInt).toNat < n_56 → (((0 : Int) ≤ (i_58).toInt ∧ (i_58).toInt ≤ (12 : Int))) → va_P (dC, dI) vwCl [(h0, .inr (12, [h0_0, h0_1, h0_2, h0_3, .int mn, .ref hs, .ref ha, .ref hb9, .ref hc9, .ref hct, h0_10, .ref hbd, .ref hlt, h0_13, .ref hfi, .ref hla, .int mq, h0_17, h0_18, h0_19, h0_20, h0_21, h0_22, h0_23, h0_24, h0_25, h0_26, h0_27, h0_28, h0_29, h0_30, h0_31, h0_32, h0_33, h0_34, h0_35, h0_36, h0_37, h0_38, h0_39, h0_40, h0_41, h0_42, h0_43, h0_44, h0_45, h0_46, h0_47, h0_48, h0_49, h0_50, h0_51, h0_52, h0_53, h0_54, h0_55, h0_56, h0_57, h0_58, h0_59, h0_60, h0_61, h0_62, h0_63, h0_64, h0_65, h0_66, h0_67, h0_68, h0_69])), (hct, .inl (chct, 80, .inl fhct)), (hs, .inl (chs, 80, .inl fhs)), (ha, .inl (cha, 80, .inl fha)), (hb9, .inl (chb9, 80, .inl fhb9)), (hc9, .inl (chc9, 80, .inl fhc9)), (hbd, .inl (chbd, 12, .inl fhbd)), (hlt, .inl (chlt, 144, .inl fhlt)), (hfi, .inl (chfi, 12, .inl f_59)), (hla, .inl (chla, 12, .inl f_60))] H → va_D A [(h0, .inr (12, [h0_0, h0_1, h0_2, h0_3, .int mn, .ref hs, .ref ha, .ref hb9, .ref hc9, .ref hct, h0_10, .ref hbd, .ref hlt, h0_13, .ref hfi, .ref hla, .int mq, h0_17, h0_18, h0_19, h0_20, h0_21, h0_22, h0_23, h0_24, h0_25, h0_26, h0_27, h0_28, h0_29, h0_30, h0_31, h0_32, h0_33, h0_34, h0_35, h0_36, h0_37, h0_38, h0_39, h0_40, h0_41, h0_42, h0_43, h0_44, h0_45, h0_46, h0_47, h0_48, h0_49, h0_50, h0_51, h0_52, h0_53, h0_54, h0_55, h0_56, h0_57, h0_58, h0_59, h0_60, h0_61, h0_62, h0_63, h0_64, h0_65, h0_66, h0_67, h0_68, h0_69])), (hct, .inl (chct, 80, .inl fhct)), (hs, .inl (chs, 80, .inl fhs)), (ha, .inl (cha, 80, .inl fha)), (hb9, .inl (chb9, 80, .inl fhb9)), (hc9, .inl (chc9, 80, .inl fhc9)), (hbd, .inl (chbd, 12, .inl fhbd)), (hlt, .inl (chlt, 144, .inl fhlt)), (hfi, .inl (chfi, 12, .inl f_59)), (hla, .inl (chla, 12, .inl f_60))] → va_S A s.heap H locs → lv_has ls 4 [(2, .int i_58), (1, .int i_23), (0, .ref h0)] → W p l e ({ frames := 0, cells := 0, slots := 0, locals := 0 } : Room) s m ([.ref h0] : List Value).toArray below meth c H locs 0 0 QQ (F0 m 162 ls []) := by
                      intro n_56
                      induction n_56 with
                      | zero => intro i_58 f_59 f_60 H locs ls hm; exact absurd hm (Nat.not_lt_zero _)
                      | succ n_56 ih_57 =>
                        intro i_58 f_59 f_60 H locs ls hm hF_61 hP hD hS hl
                        refine lv_iload_n hx hb dX12_spans_162 rfl (lv_at hl 0 rfl) ?_
                        refine lv_bipush (v := 12) hx hb dX12_spans_163 (by decide) ?_
                        refine lv_icmp_ge (tgt := 277) hx hb dX12_spans_165 (by decide) (fun c_62 => ?_) (fun c_62 => ?_)
                        · have k_63 : (12 : Int) ≤ (i_58).toInt := z_le c_62
                          obtain rfl : i_58 = 12 := z_eq' (show (i_58).toInt = (12 : Int) by omega)
                          obtain ⟨z_65, ez_65⟩ : ∃ y : Int32, y = i_23 + 1 := ⟨_, rfl⟩
                          have kz_65 : (z_65).toInt = (i_23).toInt + (1 : Int) := by rw [ez_65]; exact z_add (b := 1) rfl rfl (z_al hF_26.1 (by decide)) (z_ah hF_26.2 (by decide))
                          refine lv_iinc (v := z_65) (lv' := [(1, .int z_65), (2, .int 12), (0, .ref h0)]) hx hb dX12_spans_277 hl (k := 1) rfl (by rw [ez_65]; rfl) (by decide) rfl (fun ls hl => ?_)
                          refine lv_goto (tgt := 154) hx hb dX12_spans_280 (by decide) ?_
                          exact ih_22 z_65 f_59 f_60 _ _ _ (show (13 - (z_65).toInt).toNat < n_21 by omega) (show ((0 : Int) ≤ (z_65).toInt ∧ (z_65).toInt ≤ (12 : Int)) by omega) hP hD hS (lv_sub hl [0, 2] rfl)
                        · have k_66 : (12 : Int) > (i_58).toInt := z_nle c_62
                          refine lv_iconst (v := 0) hx hb dX12_spans_168 (by decide) ?_
                          refine lv_istore_n (lv' := [(3, .int 0), (2, .int i_58), (1, .int i_23), (0, .ref h0)]) hx hb dX12_spans_169 rfl hl (by decide) rfl (fun ls hl => ?_)
                          have loop_67 : ∀ (n_68 : Nat) (i_70 : Int32) (f_71 : Nat → Int32) (f_72 : Nat → Int32) (H : Heap) (locs : List Loc) (ls : Array Slot), (13 - (i_70).toInt).toNat < n_68 → (((0 : Int) ≤ (i_70).toInt ∧ (i_70).toInt ≤ (12 : Int))) → va_P (dC, dI) vwCl [(h0, .inr (12, [h0_0, h0_1, h0_2, h0_3, .int mn, .ref hs, .ref ha, .ref hb9, .ref hc9, .ref hct, h0_10, .ref hbd, .ref hlt, h0_13, .ref hfi, .ref hla, .int mq, h0_17, h0_18, h0_19, h0_20, h0_21, h0_22, h0_23, h0_24, h0_25, h0_26, h0_27, h0_28, h0_29, h0_30, h0_31, h0_32, h0_33, h0_34, h0_35, h0_36, h0_37, h0_38, h0_39, h0_40, h0_41, h0_42, h0_43, h0_44, h0_45, h0_46, h0_47, h0_48, h0_49, h0_50, h0_51, h0_52, h0_53, h0_54, h0_55, h0_56, h0_57, h0_58, h0_59, h0_60, h0_61, h0_62, h0_63, h0_64, h0_65, h0_66, h0_67, h0_68, h0_69])), (hct, .inl (chct, 80, .inl fhct)), (hs, .inl (chs, 80, .inl fhs)), (ha, .inl (cha, 80, .inl fha)), (hb9, .inl (chb9, 80, .inl fhb9)), (hc9, .inl (chc9, 80, .inl fhc9)), (hbd, .inl (chbd, 12, .inl fhbd)), (hlt, .inl (chlt, 144, .inl fhlt)), (hfi, .inl (chfi, 12, .inl f_71)), (hla, .inl (chla, 12, .inl f_72))] H → va_D A [(h0, .inr (12, [h0_0, h0_1, h0_2, h0_3, .int mn, .ref hs, .ref ha, .ref hb9, .ref hc9, .ref hct, h0_10, .ref hbd, .ref hlt, h0_13, .ref hfi, .ref hla, .int mq, h0_17, h0_18, h0_19, h0_20, h0_21, h0_22, h0_23, h0_24, h0_25, h0_26, h0_27, h0_28, h0_29, h0_30, h0_31, h0_32, h0_33, h0_34, h0_35, h0_36, h0_37, h0_38, h0_39, h0_40, h0_41, h0_42, h0_43, h0_44, h0_45, h0_46, h0_47, h0_48, h0_49, h0_50, h0_51, h0_52, h0_53, h0_54, h0_55, h0_56, h0_57, h0_58, h0_59, h0_60, h0_61, h0_62, h0_63, h0_64, h0_65, h0_66, h0_67, h0_68, h0_69])), (hct, .inl (chct, 80, .inl fhct)), (hs, .inl (chs, 80, .inl fhs)), (ha, .inl (cha, 80, .inl fha)), (hb9, .inl (chb9, 80, .inl fhb9)), (hc9, .inl (chc9, 80, .inl fhc9)), (hbd, .inl (chbd, 12, .inl fhbd)), (hlt, .inl (chlt, 144, .inl fhlt)), (hfi, .inl (chfi, 12, .inl f_71)), (hla, .inl (chla, 12, .inl f_72))] → va_S A s.heap H locs → lv_has ls 4 [(3, .int i_70), (2, .int i_58), (1, .int i_23), (0, .ref h0)] → W p l e ({ frames := 0, cells := 0, slots := 0, locals := 0 } : Room) s m ([.ref h0] : List Value).toArray below meth c H locs 0 0 QQ (F0 m 170 ls []) := by
                            intro n_68
                            induction n_68 with
                            | zero => intro i_70 f_71 f_72 H locs ls hm; exact absurd hm (Nat.not_lt_zero _)
                            | succ n_68 ih_69 =>
                              intro i_70 f_71 f_72 H locs ls hm hF_73 hP hD hS hl
                              refine lv_iload_n hx hb dX12_spans_170 rfl (lv_at hl 0 rfl) ?_
                              refine lv_bipush (v := 12) hx hb dX12_spans_171 (by decide) ?_
                              refine lv_icmp_ge (tgt := 271) hx hb dX12_spans_173 (by decide) (fun c_74 => ?_) (fun c_74 => ?_)
                              · have k_75 : (12 : Int) ≤ (i_70).toInt := z_le c_74
                                obtain rfl : i_70 = 12 := z_eq' (show (i_70).toInt = (12 : Int) by omega)
                                obtain ⟨z_77, ez_77⟩ : ∃ y : Int32, y = i_58 + 1 := ⟨_, rfl⟩
                                have kz_77 : (z_77).toInt = (i_58).toInt + (1 : Int) := by rw [ez_77]; exact z_add (b := 1) rfl rfl (z_al hF_61.1 (by decide)) (z_ah hF_61.2 (by decide))
                                refine lv_iinc (v := z_77) (lv' := [(2, .int z_77), (3, .int 12), (1, .int i_23), (0, .ref h0)]) hx hb dX12_spans_271 hl (k := 1) rfl (by rw [ez_77]; rfl) (by decide) rfl (fun ls hl => ?_)
                                refine lv_goto (tgt := 162) hx hb dX12_spans_274 (by decide) ?_
                                exact ih_57 z_77 f_71 f_72 _ _ _ (show (13 - (z_77).toInt).toNat < n_56 by omega) (show ((0 : Int) ≤ (z_77).toInt ∧ (z_77).toInt ≤ (12 : Int)) by omega) hP hD hS (lv_sub hl [0, 2, 3] rfl)
                              · have k_78 : (12 : Int) > (i_70).toInt := z_nle c_74
                                refine lv_aload_n hx hb dX12_spans_176 rfl (lv_at hl 3 rfl) ?_
                                refine va_get (D := (dC, dI)) (ci := 12) (v := .ref hlt) (C := RX12) (T := TX12) (N := 70) hx hb hts hiX12 hown hK hP 0 rfl rfl 12 (by decide) w__fieldLink_RX12_35_ShellHeapModel_later_Z_ (fun _ h9 => h9) rfl dX12_spans_177 ?_
                                refine lv_bipush (v := 12) hx hb dX12_spans_180 (by decide) ?_
                                refine lv_iload_n hx hb dX12_spans_182 rfl (lv_at hl 1 rfl) ?_
                                refine lv_imul hx hb dX12_spans_183 ?_
                                refine lv_topi (fun z_79 ez_79 => ?_)
                                have kz_79 : (z_79).toInt = (12 : Int) * (i_58).toInt := by rw [ez_79]; exact z_mul (a := (12 : Int)) (b := (i_58).toInt) rfl rfl (by omega) (by omega)
                                refine lv_iload_n hx hb dX12_spans_184 rfl (lv_at hl 0 rfl) ?_
                                refine lv_iadd hx hb dX12_spans_185 ?_
                                refine lv_topi (fun z_80 ez_80 => ?_)
                                have kz_80 : (z_80).toInt = (z_79).toInt + (i_70).toInt := by rw [ez_80]; exact z_add (a := (z_79).toInt) (b := (i_70).toInt) rfl rfl (by omega) (by omega)
                                refine va_zald hx hb hK hP 7 6 rfl rfl (z_vpin (by omega) (by omega)) dX12_spans_186 ?_
                                refine lv_topi (fun z_81 ez_81 => ?_)
                                refine lv_if_ne (tgt := 193) hx hb dX12_spans_187 (by decide) (fun c_82 => ?_) (fun c_82 => ?_)
                                · have k_83 : (z_81).toInt ≠ (0 : Int) := z_ne c_82
                                  refine lv_aload_n hx hb dX12_spans_193 rfl (lv_at hl 3 rfl) ?_
                                  refine va_get (D := (dC, dI)) (ci := 12) (v := .ref hfi) (C := RX12) (T := TX12) (N := 70) hx hb hts hiX12 hown hK hP 0 rfl rfl 14 (by decide) w__fieldLink_RX12_41_ShellHeapModel_first_I_ (fun _ h9 => h9) rfl dX12_spans_194 ?_
                                  refine lv_iload_n hx hb dX12_spans_197 rfl (lv_at hl 1 rfl) ?_
                                  refine lv_aload_n hx hb dX12_spans_198 rfl (lv_at hl 3 rfl) ?_
                                  refine va_get (D := (dC, dI)) (ci := 12) (v := .ref hfi) (C := RX12) (T := TX12) (N := 70) hx hb hts hiX12 hown hK hP 0 rfl rfl 14 (by decide) w__fieldLink_RX12_41_ShellHeapModel_first_I_ (fun _ h9 => h9) rfl dX12_spans_199 ?_
                                  refine lv_iload_n hx hb dX12_spans_202 rfl (lv_at hl 0 rfl) ?_
                                  refine va_iald hx hb hK hP 8 7 rfl rfl (z_vpin (by omega) (by omega)) dX12_spans_203 ?_
                                  refine lv_topi (fun z_84 ez_84 => ?_)
                                  refine lv_aload_n hx hb dX12_spans_204 rfl (lv_at hl 3 rfl) ?_
                                  refine va_get (D := (dC, dI)) (ci := 12) (v := .ref hfi) (C := RX12) (T := TX12) (N := 70) hx hb hts hiX12 hown hK hP 0 rfl rfl 14 (by decide) w__fieldLink_RX12_41_ShellHeapModel_first_I_ (fun _ h9 => h9) rfl dX12_spans_205 ?_
                                  refine lv_iload_n hx hb dX12_spans_208 rfl (lv_at hl 1 rfl) ?_
                                  refine va_iald hx hb hK hP 8 7 rfl rfl (z_vpin (by omega) (by omega)) dX12_spans_209 ?_
                                  refine lv_topi (fun z_85 ez_85 => ?_)
                                  refine lv_icmp_le (tgt := 222) hx hb dX12_spans_210 (by decide) (fun c_86 => ?_) (fun c_86 => ?_)
                                  · have k_87 : (z_84).toInt ≤ (z_85).toInt := z_le c_86
                                    refine lv_aload_n hx hb dX12_spans_222 rfl (lv_at hl 3 rfl) ?_
                                    refine va_get (D := (dC, dI)) (ci := 12) (v := .ref hfi) (C := RX12) (T := TX12) (N := 70) hx hb hts hiX12 hown hK hP 0 rfl rfl 14 (by decide) w__fieldLink_RX12_41_ShellHeapModel_first_I_ (fun _ h9 => h9) rfl dX12_spans_223 ?_
                                    refine lv_iload_n hx hb dX12_spans_226 rfl (lv_at hl 1 rfl) ?_
                                    refine va_iald hx hb hK hP 8 7 rfl rfl (z_vpin (by omega) (by omega)) dX12_spans_227 ?_
                                    refine lv_topi (fun z_88 ez_88 => ?_)
                                    refine va_iast hx hb hK hP hD hS 8 7 rfl rfl (z_vpin (by omega) (by omega)) dX12_spans_228 (fun H_89 locs hP hD hS => ?_)
                                    obtain ⟨hP, hD⟩ := z_s_8 hP hD
                                    generalize (upd f_71 (i_58 : Int32).toNatClampNeg z_88) = f_90 at hP hD
                                    refine lv_aload_n hx hb dX12_spans_229 rfl (lv_at hl 3 rfl) ?_
                                    refine va_get (D := (dC, dI)) (ci := 12) (v := .ref hla) (C := RX12) (T := TX12) (N := 70) hx hb hts hiX12 hown hK hP 0 rfl rfl 15 (by decide) w__fieldLink_RX12_44_ShellHeapModel_last_I_ (fun _ h9 => h9) rfl dX12_spans_230 ?_
                                    refine lv_iload_n hx hb dX12_spans_233 rfl (lv_at hl 0 rfl) ?_
                                    refine lv_aload_n hx hb dX12_spans_234 rfl (lv_at hl 3 rfl) ?_
                                    refine va_get (D := (dC, dI)) (ci := 12) (v := .ref hla) (C := RX12) (T := TX12) (N := 70) hx hb hts hiX12 hown hK hP 0 rfl rfl 15 (by decide) w__fieldLink_RX12_44_ShellHeapModel_last_I_ (fun _ h9 => h9) rfl dX12_spans_235 ?_
                                    refine lv_iload_n hx hb dX12_spans_238 rfl (lv_at hl 1 rfl) ?_
                                    refine va_iald hx hb hK hP 9 8 rfl rfl (z_vpin (by omega) (by omega)) dX12_spans_239 ?_
                                    refine lv_topi (fun z_91 ez_91 => ?_)
                                    refine lv_aload_n hx hb dX12_spans_240 rfl (lv_at hl 3 rfl) ?_
                                    refine va_get (D := (dC, dI)) (ci := 12) (v := .ref hla) (C := RX12) (T := TX12) (N := 70) hx hb hts hiX12 hown hK hP 0 rfl rfl 15 (by decide) w__fieldLink_RX12_44_ShellHeapModel_last_I_ (fun _ h9 => h9) rfl dX12_spans_241 ?_
                                    refine lv_iload_n hx hb dX12_spans_244 rfl (lv_at hl 0 rfl) ?_
                                    refine va_iald hx hb hK hP 9 8 rfl rfl (z_vpin (by omega) (by omega)) dX12_spans_245 ?_
                                    refine lv_topi (fun z_92 ez_92 => ?_)
                                    refine lv_icmp_ge (tgt := 258) hx hb dX12_spans_246 (by decide) (fun c_93 => ?_) (fun c_93 => ?_)
                                    · have k_94 : (z_92).toInt ≤ (z_91).toInt := z_le c_93
                                      refine lv_aload_n hx hb dX12_spans_258 rfl (lv_at hl 3 rfl) ?_
                                      refine va_get (D := (dC, dI)) (ci := 12) (v := .ref hla) (C := RX12) (T := TX12) (N := 70) hx hb hts hiX12 hown hK hP 0 rfl rfl 15 (by decide) w__fieldLink_RX12_44_ShellHeapModel_last_I_ (fun _ h9 => h9) rfl dX12_spans_259 ?_
                                      refine lv_iload_n hx hb dX12_spans_262 rfl (lv_at hl 0 rfl) ?_
                                      refine va_iald hx hb hK hP 9 8 rfl rfl (z_vpin (by omega) (by omega)) dX12_spans_263 ?_
                                      refine lv_topi (fun z_95 ez_95 => ?_)
                                      refine va_iast hx hb hK hP hD hS 9 8 rfl rfl (z_vpin (by omega) (by omega)) dX12_spans_264 (fun H_96 locs hP hD hS => ?_)
                                      obtain ⟨hP, hD⟩ := z_s_9 hP hD
                                      generalize (upd f_72 (i_70 : Int32).toNatClampNeg z_95) = f_97 at hP hD
                                      obtain ⟨z_98, ez_98⟩ : ∃ y : Int32, y = i_70 + 1 := ⟨_, rfl⟩
                                      have kz_98 : (z_98).toInt = (i_70).toInt + (1 : Int) := by rw [ez_98]; exact z_add (b := 1) rfl rfl (z_al hF_73.1 (by decide)) (z_ah hF_73.2 (by decide))
                                      refine lv_iinc (v := z_98) (lv' := [(3, .int z_98), (2, .int i_58), (1, .int i_23), (0, .ref h0)]) hx hb dX12_spans_265 hl (k := 0) rfl (by rw [ez_98]; rfl) (by decide) rfl (fun ls hl => ?_)
                                      refine lv_goto (tgt := 170) hx hb dX12_spans_268 (by decide) ?_
                                      exact ih_69 z_98 f_90 f_97 _ _ _ (show (13 - (z_98).toInt).toNat < n_68 by omega) (show ((0 : Int) ≤ (z_98).toInt ∧ (z_98).toInt ≤ (12 : Int)) by omega) hP hD hS (lv_sub hl [0, 1, 2, 3] rfl)
                                    · have k_99 : (z_92).toInt > (z_91).toInt := z_nle c_93
                                      refine lv_aload_n hx hb dX12_spans_249 rfl (lv_at hl 3 rfl) ?_
                                      refine va_get (D := (dC, dI)) (ci := 12) (v := .ref hla) (C := RX12) (T := TX12) (N := 70) hx hb hts hiX12 hown hK hP 0 rfl rfl 15 (by decide) w__fieldLink_RX12_44_ShellHeapModel_last_I_ (fun _ h9 => h9) rfl dX12_spans_250 ?_
                                      refine lv_iload_n hx hb dX12_spans_253 rfl (lv_at hl 1 rfl) ?_
                                      refine va_iald hx hb hK hP 9 8 rfl rfl (z_vpin (by omega) (by omega)) dX12_spans_254 ?_
                                      refine lv_topi (fun z_100 ez_100 => ?_)
                                      refine lv_goto (tgt := 264) hx hb dX12_spans_255 (by decide) ?_
                                      refine va_iast hx hb hK hP hD hS 9 8 rfl rfl (z_vpin (by omega) (by omega)) dX12_spans_264 (fun H_101 locs hP hD hS => ?_)
                                      obtain ⟨hP, hD⟩ := z_s_9 hP hD
                                      generalize (upd f_72 (i_70 : Int32).toNatClampNeg z_100) = f_102 at hP hD
                                      obtain ⟨z_103, ez_103⟩ : ∃ y : Int32, y = i_70 + 1 := ⟨_, rfl⟩
                                      have kz_103 : (z_103).toInt = (i_70).toInt + (1 : Int) := by rw [ez_103]; exact z_add (b := 1) rfl rfl (z_al hF_73.1 (by decide)) (z_ah hF_73.2 (by decide))
                                      refine lv_iinc (v := z_103) (lv' := [(3, .int z_103), (2, .int i_58), (1, .int i_23), (0, .ref h0)]) hx hb dX12_spans_265 hl (k := 0) rfl (by rw [ez_103]; rfl) (by decide) rfl (fun ls hl => ?_)
                                      refine lv_goto (tgt := 170) hx hb dX12_spans_268 (by decide) ?_
                                      exact ih_69 z_103 f_90 f_102 _ _ _ (show (13 - (z_103).toInt).toNat < n_68 by omega) (show ((0 : Int) ≤ (z_103).toInt ∧ (z_103).toInt ≤ (12 : Int)) by omega) hP hD hS (lv_sub hl [0, 1, 2, 3] rfl)
                                  · have k_104 : (z_84).toInt > (z_85).toInt := z_nle c_86
                                    refine lv_aload_n hx hb dX12_spans_213 rfl (lv_at hl 3 rfl) ?_
                                    refine va_get (D := (dC, dI)) (ci := 12) (v := .ref hfi) (C := RX12) (T := TX12) (N := 70) hx hb hts hiX12 hown hK hP 0 rfl rfl 14 (by decide) w__fieldLink_RX12_41_ShellHeapModel_first_I_ (fun _ h9 => h9) rfl dX12_spans_214 ?_
                                    refine lv_iload_n hx hb dX12_spans_217 rfl (lv_at hl 0 rfl) ?_
                                    refine va_iald hx hb hK hP 8 7 rfl rfl (z_vpin (by omega) (by omega)) dX12_spans_218 ?_
                                    refine lv_topi (fun z_105 ez_105 => ?_)
                                    refine lv_goto (tgt := 228) hx hb dX12_spans_219 (by decide) ?_
                                    refine va_iast hx hb hK hP hD hS 8 7 rfl rfl (z_vpin (by omega) (by omega)) dX12_spans_228 (fun H_106 locs hP hD hS => ?_)
                                    obtain ⟨hP, hD⟩ := z_s_8 hP hD
                                    generalize (upd f_71 (i_58 : Int32).toNatClampNeg z_105) = f_107 at hP hD
                                    refine lv_aload_n hx hb dX12_spans_229 rfl (lv_at hl 3 rfl) ?_
                                    refine va_get (D := (dC, dI)) (ci := 12) (v := .ref hla) (C := RX12) (T := TX12) (N := 70) hx hb hts hiX12 hown hK hP 0 rfl rfl 15 (by decide) w__fieldLink_RX12_44_ShellHeapModel_last_I_ (fun _ h9 => h9) rfl dX12_spans_230 ?_
                                    refine lv_iload_n hx hb dX12_spans_233 rfl (lv_at hl 0 rfl) ?_
                                    refine lv_aload_n hx hb dX12_spans_234 rfl (lv_at hl 3 rfl) ?_
                                    refine va_get (D := (dC, dI)) (ci := 12) (v := .ref hla) (C := RX12) (T := TX12) (N := 70) hx hb hts hiX12 hown hK hP 0 rfl rfl 15 (by decide) w__fieldLink_RX12_44_ShellHeapModel_last_I_ (fun _ h9 => h9) rfl dX12_spans_235 ?_
                                    refine lv_iload_n hx hb dX12_spans_238 rfl (lv_at hl 1 rfl) ?_
                                    refine va_iald hx hb hK hP 9 8 rfl rfl (z_vpin (by omega) (by omega)) dX12_spans_239 ?_
                                    refine lv_topi (fun z_108 ez_108 => ?_)
                                    refine lv_aload_n hx hb dX12_spans_240 rfl (lv_at hl 3 rfl) ?_
                                    refine va_get (D := (dC, dI)) (ci := 12) (v := .ref hla) (C := RX12) (T := TX12) (N := 70) hx hb hts hiX12 hown hK hP 0 rfl rfl 15 (by decide) w__fieldLink_RX12_44_ShellHeapModel_last_I_ (fun _ h9 => h9) rfl dX12_spans_241 ?_
                                    refine lv_iload_n hx hb dX12_spans_244 rfl (lv_at hl 0 rfl) ?_
                                    refine va_iald hx hb hK hP 9 8 rfl rfl (z_vpin (by omega) (by omega)) dX12_spans_245 ?_
                                    refine lv_topi (fun z_109 ez_109 => ?_)
                                    refine lv_icmp_ge (tgt := 258) hx hb dX12_spans_246 (by decide) (fun c_110 => ?_) (fun c_110 => ?_)
                                    · have k_111 : (z_109).toInt ≤ (z_108).toInt := z_le c_110
                                      refine lv_aload_n hx hb dX12_spans_258 rfl (lv_at hl 3 rfl) ?_
                                      refine va_get (D := (dC, dI)) (ci := 12) (v := .ref hla) (C := RX12) (T := TX12) (N := 70) hx hb hts hiX12 hown hK hP 0 rfl rfl 15 (by decide) w__fieldLink_RX12_44_ShellHeapModel_last_I_ (fun _ h9 => h9) rfl dX12_spans_259 ?_
                                      refine lv_iload_n hx hb dX12_spans_262 rfl (lv_at hl 0 rfl) ?_
                                      refine va_iald hx hb hK hP 9 8 rfl rfl (z_vpin (by omega) (by omega)) dX12_spans_263 ?_
                                      refine lv_topi (fun z_112 ez_112 => ?_)
                                      refine va_iast hx hb hK hP hD hS 9 8 rfl rfl (z_vpin (by omega) (by omega)) dX12_spans_264 (fun H_113 locs hP hD hS => ?_)
                                      obtain ⟨hP, hD⟩ := z_s_9 hP hD
                                      generalize (upd f_72 (i_70 : Int32).toNatClampNeg z_112) = f_114 at hP hD
                                      obtain ⟨z_115, ez_115⟩ : ∃ y : Int32, y = i_70 + 1 := ⟨_, rfl⟩
                                      have kz_115 : (z_115).toInt = (i_70).toInt + (1 : Int) := by rw [ez_115]; exact z_add (b := 1) rfl rfl (z_al hF_73.1 (by decide)) (z_ah hF_73.2 (by decide))
                                      refine lv_iinc (v := z_115) (lv' := [(3, .int z_115), (2, .int i_58), (1, .int i_23), (0, .ref h0)]) hx hb dX12_spans_265 hl (k := 0) rfl (by rw [ez_115]; rfl) (by decide) rfl (fun ls hl => ?_)
                                      refine lv_goto (tgt := 170) hx hb dX12_spans_268 (by decide) ?_
                                      exact ih_69 z_115 f_107 f_114 _ _ _ (show (13 - (z_115).toInt).toNat < n_68 by omega) (show ((0 : Int) ≤ (z_115).toInt ∧ (z_115).toInt ≤ (12 : Int)) by omega) hP hD hS (lv_sub hl [0, 1, 2, 3] rfl)
                                    · have k_116 : (z_109).toInt > (z_108).toInt := z_nle c_110
                                      refine lv_aload_n hx hb dX12_spans_249 rfl (lv_at hl 3 rfl) ?_
                                      refine va_get (D := (dC, dI)) (ci := 12) (v := .ref hla) (C := RX12) (T := TX12) (N := 70) hx hb hts hiX12 hown hK hP 0 rfl rfl 15 (by decide) w__fieldLink_RX12_44_ShellHeapModel_last_I_ (fun _ h9 => h9) rfl dX12_spans_250 ?_
                                      refine lv_iload_n hx hb dX12_spans_253 rfl (lv_at hl 1 rfl) ?_
                                      refine va_iald hx hb hK hP 9 8 rfl rfl (z_vpin (by omega) (by omega)) dX12_spans_254 ?_
                                      refine lv_topi (fun z_117 ez_117 => ?_)
                                      refine lv_goto (tgt := 264) hx hb dX12_spans_255 (by decide) ?_
                                      refine va_iast hx hb hK hP hD hS 9 8 rfl rfl (z_vpin (by omega) (by omega)) dX12_spans_264 (fun H_118 locs hP hD hS => ?_)
                                      obtain ⟨hP, hD⟩ := z_s_9 hP hD
                                      generalize (upd f_72 (i_70 : Int32).toNatClampNeg z_117) = f_119 at hP hD
                                      obtain ⟨z_120, ez_120⟩ : ∃ y : Int32, y = i_70 + 1 := ⟨_, rfl⟩
                                      have kz_120 : (z_120).toInt = (i_70).toInt + (1 : Int) := by rw [ez_120]; exact z_add (b := 1) rfl rfl (z_al hF_73.1 (by decide)) (z_ah hF_73.2 (by decide))
                                      refine lv_iinc (v := z_120) (lv' := [(3, .int z_120), (2, .int i_58), (1, .int i_23), (0, .ref h0)]) hx hb dX12_spans_265 hl (k := 0) rfl (by rw [ez_120]; rfl) (by decide) rfl (fun ls hl => ?_)
                                      refine lv_goto (tgt := 170) hx hb dX12_spans_268 (by decide) ?_
                                      exact ih_69 z_120 f_107 f_119 _ _ _ (show (13 - (z_120).toInt).toNat < n_68 by omega) (show ((0 : Int) ≤ (z_120).toInt ∧ (z_120).toInt ≤ (12 : Int)) by omega) hP hD hS (lv_sub hl [0, 1, 2, 3] rfl)
                                · have k_121 : (z_81).toInt = (0 : Int) := z_eq c_82
                                  obtain rfl : z_81 = 0 := z_eq' (show (z_81).toInt = (0 : Int) by omega)
                                  refine lv_goto (tgt := 265) hx hb dX12_spans_190 (by decide) ?_
                                  obtain ⟨z_123, ez_123⟩ : ∃ y : Int32, y = i_70 + 1 := ⟨_, rfl⟩
                                  have kz_123 : (z_123).toInt = (i_70).toInt + (1 : Int) := by rw [ez_123]; exact z_add (b := 1) rfl rfl (z_al hF_73.1 (by decide)) (z_ah hF_73.2 (by decide))
                                  refine lv_iinc (v := z_123) (lv' := [(3, .int z_123), (2, .int i_58), (1, .int i_23), (0, .ref h0)]) hx hb dX12_spans_265 hl (k := 0) rfl (by rw [ez_123]; rfl) (by decide) rfl (fun ls hl => ?_)
                                  refine lv_goto (tgt := 170) hx hb dX12_spans_268 (by decide) ?_
                                  exact ih_69 z_123 f_71 f_72 _ _ _ (show (13 - (z_123).toInt).toNat < n_68 by omega) (show ((0 : Int) ≤ (z_123).toInt ∧ (z_123).toInt ≤ (12 : Int)) by omega) hP hD hS (lv_sub hl [0, 1, 2, 3] rfl)
                          exact loop_67 _ 0 f_59 f_60 _ _ _ (Nat.lt_succ_self _) (show ((0 : Int) ≤ (0 : Int) ∧ (0 : Int) ≤ (12 : Int)) by omega) hP hD hS hl
                    exact loop_55 _ 0 f_24 f_25 _ _ _ (Nat.lt_succ_self _) (show ((0 : Int) ≤ (0 : Int) ∧ (0 : Int) ≤ (12 : Int)) by omega) hP hD hS hl
              exact loop_20 _ 0 f_15 f_16 _ _ _ (Nat.lt_succ_self _) (show ((0 : Int) ≤ (0 : Int) ∧ (0 : Int) ≤ (12 : Int)) by omega) hP hD hS hl
            · have k_124 : (mn).toInt > (i_14).toInt := z_nle c_18
              refine lv_aload_n hx hb dX12_spans_40 rfl (lv_at hl 1 rfl) ?_
              refine va_get (D := (dC, dI)) (ci := 12) (v := .ref hct) (C := RX12) (T := TX12) (N := 70) hx hb hts hiX12 hown hK hP 0 rfl rfl 9 (by decide) w__fieldLink_RX12_25_ShellHeapModel_counts_Z_ (fun _ h9 => h9) rfl dX12_spans_41 ?_
              refine lv_iload_n hx hb dX12_spans_44 rfl (lv_at hl 0 rfl) ?_
              refine va_zald hx hb hK hP 1 0 rfl rfl (z_vpin (by omega) (by omega)) dX12_spans_45 ?_
              refine lv_topi (fun z_125 ez_125 => ?_)
              refine lv_if_eq (tgt := 146) hx hb dX12_spans_46 (by decide) (fun c_126 => ?_) (fun c_126 => ?_)
              · have k_127 : (z_125).toInt = (0 : Int) := z_eq c_126
                obtain rfl : z_125 = 0 := z_eq' (show (z_125).toInt = (0 : Int) by omega)
                obtain ⟨z_129, ez_129⟩ : ∃ y : Int32, y = i_14 + 1 := ⟨_, rfl⟩
                have kz_129 : (z_129).toInt = (i_14).toInt + (1 : Int) := by rw [ez_129]; exact z_add (b := 1) rfl rfl (z_al hF_17.1 (by decide)) (z_ah hF_17.2 (by decide))
                refine lv_iinc (v := z_129) (lv' := [(1, .int z_129), (0, .ref h0)]) hx hb dX12_spans_146 hl (k := 0) rfl (by rw [ez_129]; rfl) (by decide) rfl (fun ls hl => ?_)
                refine lv_goto (tgt := 32) hx hb dX12_spans_149 (by decide) ?_
                exact ih_13 z_129 f_15 f_16 _ _ _ (show (81 - (z_129).toInt).toNat < n_12 by omega) (show ((0 : Int) ≤ (z_129).toInt ∧ (z_129).toInt ≤ (80 : Int)) by omega) hP hD hS (lv_sub hl [0, 1] rfl)
              · have k_130 : (z_125).toInt ≠ (0 : Int) := z_ne c_126
                refine lv_aload_n hx hb dX12_spans_49 rfl (lv_at hl 1 rfl) ?_
                refine va_get (D := (dC, dI)) (ci := 12) (v := .ref hs) (C := RX12) (T := TX12) (N := 70) hx hb hts hiX12 hown hK hP 0 rfl rfl 5 (by decide) w__fieldLink_RX12_13_ShellHeapModel_sort_I_ (fun _ h9 => h9) rfl dX12_spans_50 ?_
                refine lv_iload_n hx hb dX12_spans_53 rfl (lv_at hl 0 rfl) ?_
                refine va_iald hx hb hK hP 2 1 rfl rfl (z_vpin (by omega) (by omega)) dX12_spans_54 ?_
                refine lv_topi (fun z_131 ez_131 => ?_)
                refine lv_iconst (v := 3) hx hb dX12_spans_55 (by decide) ?_
                refine lv_icmp_eq (tgt := 62) hx hb dX12_spans_56 (by decide) (fun c_132 => ?_) (fun c_132 => ?_)
                · have k_133 : (z_131).toInt = (3 : Int) := z_eq c_132
                  obtain rfl : z_131 = 3 := z_eq' (show (z_131).toInt = (3 : Int) by omega)
                  refine lv_aload_n hx hb dX12_spans_62 rfl (lv_at hl 1 rfl) ?_
                  refine va_get (D := (dC, dI)) (ci := 12) (v := .ref hbd) (C := RX12) (T := TX12) (N := 70) hx hb hts hiX12 hown hK hP 0 rfl rfl 11 (by decide) w__fieldLink_RX12_32_ShellHeapModel_bedOf_I_ (fun _ h9 => h9) rfl dX12_spans_63 ?_
                  refine lv_aload_n hx hb dX12_spans_66 rfl (lv_at hl 1 rfl) ?_
                  refine va_get (D := (dC, dI)) (ci := 12) (v := .ref ha) (C := RX12) (T := TX12) (N := 70) hx hb hts hiX12 hown hK hP 0 rfl rfl 6 (by decide) w__fieldLink_RX12_16_ShellHeapModel_noteA_I_ (fun _ h9 => h9) rfl dX12_spans_67 ?_
                  refine lv_iload_n hx hb dX12_spans_70 rfl (lv_at hl 0 rfl) ?_
                  refine va_iald hx hb hK hP 3 2 rfl rfl (z_vpin (by omega) (by omega)) dX12_spans_71 ?_
                  refine lv_topi (fun z_135 ez_135 => ?_)
                  have kz_135 : ((0 : Int) ≤ (z_135).toInt ∧ (z_135).toInt ≤ (79 : Int)) := by rw [ez_135]; exact hI_ha _
                  have krz_135 : (z_135).toInt ≤ (11 : Int) := by rw [ez_135]; exact (hR _).2.1 (by rw [← ez_131]; omega)
                  refine va_iald hx hb hK hP 6 5 rfl rfl (z_vpin (by omega) (by omega)) dX12_spans_72 ?_
                  refine lv_topi (fun z_136 ez_136 => ?_)
                  have kz_136 : ((0 : Int) ≤ (z_136).toInt ∧ (z_136).toInt ≤ (11 : Int)) := by rw [ez_136]; exact hI_hbd _
                  refine lv_istore_n (lv' := [(2, .int z_136), (1, .int i_14), (0, .ref h0)]) hx hb dX12_spans_73 rfl hl (by decide) rfl (fun ls hl => ?_)
                  refine lv_aload_n hx hb dX12_spans_74 rfl (lv_at hl 2 rfl) ?_
                  refine va_get (D := (dC, dI)) (ci := 12) (v := .ref hfi) (C := RX12) (T := TX12) (N := 70) hx hb hts hiX12 hown hK hP 0 rfl rfl 14 (by decide) w__fieldLink_RX12_41_ShellHeapModel_first_I_ (fun _ h9 => h9) rfl dX12_spans_75 ?_
                  refine lv_iload_n hx hb dX12_spans_78 rfl (lv_at hl 0 rfl) ?_
                  refine lv_aload_n hx hb dX12_spans_79 rfl (lv_at hl 2 rfl) ?_
                  refine va_get (D := (dC, dI)) (ci := 12) (v := .ref hb9) (C := RX12) (T := TX12) (N := 70) hx hb hts hiX12 hown hK hP 0 rfl rfl 7 (by decide) w__fieldLink_RX12_19_ShellHeapModel_noteB_I_ (fun _ h9 => h9) rfl dX12_spans_80 ?_
                  refine lv_iload_n hx hb dX12_spans_83 rfl (lv_at hl 1 rfl) ?_
                  refine va_iald hx hb hK hP 4 3 rfl rfl (z_vpin (by omega) (by omega)) dX12_spans_84 ?_
                  refine lv_topi (fun z_137 ez_137 => ?_)
                  refine lv_aload_n hx hb dX12_spans_85 rfl (lv_at hl 2 rfl) ?_
                  refine va_get (D := (dC, dI)) (ci := 12) (v := .ref hfi) (C := RX12) (T := TX12) (N := 70) hx hb hts hiX12 hown hK hP 0 rfl rfl 14 (by decide) w__fieldLink_RX12_41_ShellHeapModel_first_I_ (fun _ h9 => h9) rfl dX12_spans_86 ?_
                  refine lv_iload_n hx hb dX12_spans_89 rfl (lv_at hl 0 rfl) ?_
                  refine va_iald hx hb hK hP 8 7 rfl rfl (z_vpinB kz_136 (by decide) (by decide)) dX12_spans_90 ?_
                  refine lv_topi (fun z_138 ez_138 => ?_)
                  refine lv_icmp_le (tgt := 103) hx hb dX12_spans_91 (by decide) (fun c_139 => ?_) (fun c_139 => ?_)
                  · have k_140 : (z_137).toInt ≤ (z_138).toInt := z_le c_139
                    refine lv_aload_n hx hb dX12_spans_103 rfl (lv_at hl 2 rfl) ?_
                    refine va_get (D := (dC, dI)) (ci := 12) (v := .ref hfi) (C := RX12) (T := TX12) (N := 70) hx hb hts hiX12 hown hK hP 0 rfl rfl 14 (by decide) w__fieldLink_RX12_41_ShellHeapModel_first_I_ (fun _ h9 => h9) rfl dX12_spans_104 ?_
                    refine lv_iload_n hx hb dX12_spans_107 rfl (lv_at hl 0 rfl) ?_
                    refine va_iald hx hb hK hP 8 7 rfl rfl (z_vpinB kz_136 (by decide) (by decide)) dX12_spans_108 ?_
                    refine lv_topi (fun z_141 ez_141 => ?_)
                    refine va_iast hx hb hK hP hD hS 8 7 rfl rfl (z_vpinB kz_136 (by decide) (by decide)) dX12_spans_109 (fun H_142 locs hP hD hS => ?_)
                    obtain ⟨hP, hD⟩ := z_s_8 hP hD
                    generalize (upd f_15 (z_136 : Int32).toNatClampNeg z_141) = f_143 at hP hD
                    refine lv_aload_n hx hb dX12_spans_110 rfl (lv_at hl 2 rfl) ?_
                    refine va_get (D := (dC, dI)) (ci := 12) (v := .ref hla) (C := RX12) (T := TX12) (N := 70) hx hb hts hiX12 hown hK hP 0 rfl rfl 15 (by decide) w__fieldLink_RX12_44_ShellHeapModel_last_I_ (fun _ h9 => h9) rfl dX12_spans_111 ?_
                    refine lv_iload_n hx hb dX12_spans_114 rfl (lv_at hl 0 rfl) ?_
                    refine lv_aload_n hx hb dX12_spans_115 rfl (lv_at hl 2 rfl) ?_
                    refine va_get (D := (dC, dI)) (ci := 12) (v := .ref hc9) (C := RX12) (T := TX12) (N := 70) hx hb hts hiX12 hown hK hP 0 rfl rfl 8 (by decide) w__fieldLink_RX12_22_ShellHeapModel_noteC_I_ (fun _ h9 => h9) rfl dX12_spans_116 ?_
                    refine lv_iload_n hx hb dX12_spans_119 rfl (lv_at hl 1 rfl) ?_
                    refine va_iald hx hb hK hP 5 4 rfl rfl (z_vpin (by omega) (by omega)) dX12_spans_120 ?_
                    refine lv_topi (fun z_144 ez_144 => ?_)
                    refine lv_aload_n hx hb dX12_spans_121 rfl (lv_at hl 2 rfl) ?_
                    refine va_get (D := (dC, dI)) (ci := 12) (v := .ref hla) (C := RX12) (T := TX12) (N := 70) hx hb hts hiX12 hown hK hP 0 rfl rfl 15 (by decide) w__fieldLink_RX12_44_ShellHeapModel_last_I_ (fun _ h9 => h9) rfl dX12_spans_122 ?_
                    refine lv_iload_n hx hb dX12_spans_125 rfl (lv_at hl 0 rfl) ?_
                    refine va_iald hx hb hK hP 9 8 rfl rfl (z_vpinB kz_136 (by decide) (by decide)) dX12_spans_126 ?_
                    refine lv_topi (fun z_145 ez_145 => ?_)
                    refine lv_icmp_ge (tgt := 139) hx hb dX12_spans_127 (by decide) (fun c_146 => ?_) (fun c_146 => ?_)
                    · have k_147 : (z_145).toInt ≤ (z_144).toInt := z_le c_146
                      refine lv_aload_n hx hb dX12_spans_139 rfl (lv_at hl 2 rfl) ?_
                      refine va_get (D := (dC, dI)) (ci := 12) (v := .ref hla) (C := RX12) (T := TX12) (N := 70) hx hb hts hiX12 hown hK hP 0 rfl rfl 15 (by decide) w__fieldLink_RX12_44_ShellHeapModel_last_I_ (fun _ h9 => h9) rfl dX12_spans_140 ?_
                      refine lv_iload_n hx hb dX12_spans_143 rfl (lv_at hl 0 rfl) ?_
                      refine va_iald hx hb hK hP 9 8 rfl rfl (z_vpinB kz_136 (by decide) (by decide)) dX12_spans_144 ?_
                      refine lv_topi (fun z_148 ez_148 => ?_)
                      refine va_iast hx hb hK hP hD hS 9 8 rfl rfl (z_vpinB kz_136 (by decide) (by decide)) dX12_spans_145 (fun H_149 locs hP hD hS => ?_)
                      obtain ⟨hP, hD⟩ := z_s_9 hP hD
                      generalize (upd f_16 (z_136 : Int32).toNatClampNeg z_148) = f_150 at hP hD
                      obtain ⟨z_151, ez_151⟩ : ∃ y : Int32, y = i_14 + 1 := ⟨_, rfl⟩
                      have kz_151 : (z_151).toInt = (i_14).toInt + (1 : Int) := by rw [ez_151]; exact z_add (b := 1) rfl rfl (z_al hF_17.1 (by decide)) (z_ah hF_17.2 (by decide))
                      refine lv_iinc (v := z_151) (lv' := [(1, .int z_151), (2, .int z_136), (0, .ref h0)]) hx hb dX12_spans_146 hl (k := 1) rfl (by rw [ez_151]; rfl) (by decide) rfl (fun ls hl => ?_)
                      refine lv_goto (tgt := 32) hx hb dX12_spans_149 (by decide) ?_
                      exact ih_13 z_151 f_143 f_150 _ _ _ (show (81 - (z_151).toInt).toNat < n_12 by omega) (show ((0 : Int) ≤ (z_151).toInt ∧ (z_151).toInt ≤ (80 : Int)) by omega) hP hD hS (lv_sub hl [0, 2] rfl)
                    · have k_152 : (z_145).toInt > (z_144).toInt := z_nle c_146
                      refine lv_aload_n hx hb dX12_spans_130 rfl (lv_at hl 2 rfl) ?_
                      refine va_get (D := (dC, dI)) (ci := 12) (v := .ref hc9) (C := RX12) (T := TX12) (N := 70) hx hb hts hiX12 hown hK hP 0 rfl rfl 8 (by decide) w__fieldLink_RX12_22_ShellHeapModel_noteC_I_ (fun _ h9 => h9) rfl dX12_spans_131 ?_
                      refine lv_iload_n hx hb dX12_spans_134 rfl (lv_at hl 1 rfl) ?_
                      refine va_iald hx hb hK hP 5 4 rfl rfl (z_vpin (by omega) (by omega)) dX12_spans_135 ?_
                      refine lv_topi (fun z_153 ez_153 => ?_)
                      refine lv_goto (tgt := 145) hx hb dX12_spans_136 (by decide) ?_
                      refine va_iast hx hb hK hP hD hS 9 8 rfl rfl (z_vpinB kz_136 (by decide) (by decide)) dX12_spans_145 (fun H_154 locs hP hD hS => ?_)
                      obtain ⟨hP, hD⟩ := z_s_9 hP hD
                      generalize (upd f_16 (z_136 : Int32).toNatClampNeg z_153) = f_155 at hP hD
                      obtain ⟨z_156, ez_156⟩ : ∃ y : Int32, y = i_14 + 1 := ⟨_, rfl⟩
                      have kz_156 : (z_156).toInt = (i_14).toInt + (1 : Int) := by rw [ez_156]; exact z_add (b := 1) rfl rfl (z_al hF_17.1 (by decide)) (z_ah hF_17.2 (by decide))
                      refine lv_iinc (v := z_156) (lv' := [(1, .int z_156), (2, .int z_136), (0, .ref h0)]) hx hb dX12_spans_146 hl (k := 1) rfl (by rw [ez_156]; rfl) (by decide) rfl (fun ls hl => ?_)
                      refine lv_goto (tgt := 32) hx hb dX12_spans_149 (by decide) ?_
                      exact ih_13 z_156 f_143 f_155 _ _ _ (show (81 - (z_156).toInt).toNat < n_12 by omega) (show ((0 : Int) ≤ (z_156).toInt ∧ (z_156).toInt ≤ (80 : Int)) by omega) hP hD hS (lv_sub hl [0, 2] rfl)
                  · have k_157 : (z_137).toInt > (z_138).toInt := z_nle c_139
                    refine lv_aload_n hx hb dX12_spans_94 rfl (lv_at hl 2 rfl) ?_
                    refine va_get (D := (dC, dI)) (ci := 12) (v := .ref hb9) (C := RX12) (T := TX12) (N := 70) hx hb hts hiX12 hown hK hP 0 rfl rfl 7 (by decide) w__fieldLink_RX12_19_ShellHeapModel_noteB_I_ (fun _ h9 => h9) rfl dX12_spans_95 ?_
                    refine lv_iload_n hx hb dX12_spans_98 rfl (lv_at hl 1 rfl) ?_
                    refine va_iald hx hb hK hP 4 3 rfl rfl (z_vpin (by omega) (by omega)) dX12_spans_99 ?_
                    refine lv_topi (fun z_158 ez_158 => ?_)
                    refine lv_goto (tgt := 109) hx hb dX12_spans_100 (by decide) ?_
                    refine va_iast hx hb hK hP hD hS 8 7 rfl rfl (z_vpinB kz_136 (by decide) (by decide)) dX12_spans_109 (fun H_159 locs hP hD hS => ?_)
                    obtain ⟨hP, hD⟩ := z_s_8 hP hD
                    generalize (upd f_15 (z_136 : Int32).toNatClampNeg z_158) = f_160 at hP hD
                    refine lv_aload_n hx hb dX12_spans_110 rfl (lv_at hl 2 rfl) ?_
                    refine va_get (D := (dC, dI)) (ci := 12) (v := .ref hla) (C := RX12) (T := TX12) (N := 70) hx hb hts hiX12 hown hK hP 0 rfl rfl 15 (by decide) w__fieldLink_RX12_44_ShellHeapModel_last_I_ (fun _ h9 => h9) rfl dX12_spans_111 ?_
                    refine lv_iload_n hx hb dX12_spans_114 rfl (lv_at hl 0 rfl) ?_
                    refine lv_aload_n hx hb dX12_spans_115 rfl (lv_at hl 2 rfl) ?_
                    refine va_get (D := (dC, dI)) (ci := 12) (v := .ref hc9) (C := RX12) (T := TX12) (N := 70) hx hb hts hiX12 hown hK hP 0 rfl rfl 8 (by decide) w__fieldLink_RX12_22_ShellHeapModel_noteC_I_ (fun _ h9 => h9) rfl dX12_spans_116 ?_
                    refine lv_iload_n hx hb dX12_spans_119 rfl (lv_at hl 1 rfl) ?_
                    refine va_iald hx hb hK hP 5 4 rfl rfl (z_vpin (by omega) (by omega)) dX12_spans_120 ?_
                    refine lv_topi (fun z_161 ez_161 => ?_)
                    refine lv_aload_n hx hb dX12_spans_121 rfl (lv_at hl 2 rfl) ?_
                    refine va_get (D := (dC, dI)) (ci := 12) (v := .ref hla) (C := RX12) (T := TX12) (N := 70) hx hb hts hiX12 hown hK hP 0 rfl rfl 15 (by decide) w__fieldLink_RX12_44_ShellHeapModel_last_I_ (fun _ h9 => h9) rfl dX12_spans_122 ?_
                    refine lv_iload_n hx hb dX12_spans_125 rfl (lv_at hl 0 rfl) ?_
                    refine va_iald hx hb hK hP 9 8 rfl rfl (z_vpinB kz_136 (by decide) (by decide)) dX12_spans_126 ?_
                    refine lv_topi (fun z_162 ez_162 => ?_)
                    refine lv_icmp_ge (tgt := 139) hx hb dX12_spans_127 (by decide) (fun c_163 => ?_) (fun c_163 => ?_)
                    · have k_164 : (z_162).toInt ≤ (z_161).toInt := z_le c_163
                      refine lv_aload_n hx hb dX12_spans_139 rfl (lv_at hl 2 rfl) ?_
                      refine va_get (D := (dC, dI)) (ci := 12) (v := .ref hla) (C := RX12) (T := TX12) (N := 70) hx hb hts hiX12 hown hK hP 0 rfl rfl 15 (by decide) w__fieldLink_RX12_44_ShellHeapModel_last_I_ (fun _ h9 => h9) rfl dX12_spans_140 ?_
                      refine lv_iload_n hx hb dX12_spans_143 rfl (lv_at hl 0 rfl) ?_
                      refine va_iald hx hb hK hP 9 8 rfl rfl (z_vpinB kz_136 (by decide) (by decide)) dX12_spans_144 ?_
                      refine lv_topi (fun z_165 ez_165 => ?_)
                      refine va_iast hx hb hK hP hD hS 9 8 rfl rfl (z_vpinB kz_136 (by decide) (by decide)) dX12_spans_145 (fun H_166 locs hP hD hS => ?_)
                      obtain ⟨hP, hD⟩ := z_s_9 hP hD
                      generalize (upd f_16 (z_136 : Int32).toNatClampNeg z_165) = f_167 at hP hD
                      obtain ⟨z_168, ez_168⟩ : ∃ y : Int32, y = i_14 + 1 := ⟨_, rfl⟩
                      have kz_168 : (z_168).toInt = (i_14).toInt + (1 : Int) := by rw [ez_168]; exact z_add (b := 1) rfl rfl (z_al hF_17.1 (by decide)) (z_ah hF_17.2 (by decide))
                      refine lv_iinc (v := z_168) (lv' := [(1, .int z_168), (2, .int z_136), (0, .ref h0)]) hx hb dX12_spans_146 hl (k := 1) rfl (by rw [ez_168]; rfl) (by decide) rfl (fun ls hl => ?_)
                      refine lv_goto (tgt := 32) hx hb dX12_spans_149 (by decide) ?_
                      exact ih_13 z_168 f_160 f_167 _ _ _ (show (81 - (z_168).toInt).toNat < n_12 by omega) (show ((0 : Int) ≤ (z_168).toInt ∧ (z_168).toInt ≤ (80 : Int)) by omega) hP hD hS (lv_sub hl [0, 2] rfl)
                    · have k_169 : (z_162).toInt > (z_161).toInt := z_nle c_163
                      refine lv_aload_n hx hb dX12_spans_130 rfl (lv_at hl 2 rfl) ?_
                      refine va_get (D := (dC, dI)) (ci := 12) (v := .ref hc9) (C := RX12) (T := TX12) (N := 70) hx hb hts hiX12 hown hK hP 0 rfl rfl 8 (by decide) w__fieldLink_RX12_22_ShellHeapModel_noteC_I_ (fun _ h9 => h9) rfl dX12_spans_131 ?_
                      refine lv_iload_n hx hb dX12_spans_134 rfl (lv_at hl 1 rfl) ?_
                      refine va_iald hx hb hK hP 5 4 rfl rfl (z_vpin (by omega) (by omega)) dX12_spans_135 ?_
                      refine lv_topi (fun z_170 ez_170 => ?_)
                      refine lv_goto (tgt := 145) hx hb dX12_spans_136 (by decide) ?_
                      refine va_iast hx hb hK hP hD hS 9 8 rfl rfl (z_vpinB kz_136 (by decide) (by decide)) dX12_spans_145 (fun H_171 locs hP hD hS => ?_)
                      obtain ⟨hP, hD⟩ := z_s_9 hP hD
                      generalize (upd f_16 (z_136 : Int32).toNatClampNeg z_170) = f_172 at hP hD
                      obtain ⟨z_173, ez_173⟩ : ∃ y : Int32, y = i_14 + 1 := ⟨_, rfl⟩
                      have kz_173 : (z_173).toInt = (i_14).toInt + (1 : Int) := by rw [ez_173]; exact z_add (b := 1) rfl rfl (z_al hF_17.1 (by decide)) (z_ah hF_17.2 (by decide))
                      refine lv_iinc (v := z_173) (lv' := [(1, .int z_173), (2, .int z_136), (0, .ref h0)]) hx hb dX12_spans_146 hl (k := 1) rfl (by rw [ez_173]; rfl) (by decide) rfl (fun ls hl => ?_)
                      refine lv_goto (tgt := 32) hx hb dX12_spans_149 (by decide) ?_
                      exact ih_13 z_173 f_160 f_172 _ _ _ (show (81 - (z_173).toInt).toNat < n_12 by omega) (show ((0 : Int) ≤ (z_173).toInt ∧ (z_173).toInt ≤ (80 : Int)) by omega) hP hD hS (lv_sub hl [0, 2] rfl)
                · have k_174 : (z_131).toInt ≠ (3 : Int) := z_ne c_132
                  refine lv_goto (tgt := 146) hx hb dX12_spans_59 (by decide) ?_
                  obtain ⟨z_175, ez_175⟩ : ∃ y : Int32, y = i_14 + 1 := ⟨_, rfl⟩
                  have kz_175 : (z_175).toInt = (i_14).toInt + (1 : Int) := by rw [ez_175]; exact z_add (b := 1) rfl rfl (z_al hF_17.1 (by decide)) (z_ah hF_17.2 (by decide))
                  refine lv_iinc (v := z_175) (lv' := [(1, .int z_175), (0, .ref h0)]) hx hb dX12_spans_146 hl (k := 0) rfl (by rw [ez_175]; rfl) (by decide) rfl (fun ls hl => ?_)
                  refine lv_goto (tgt := 32) hx hb dX12_spans_149 (by decide) ?_
                  exact ih_13 z_175 f_15 f_16 _ _ _ (show (81 - (z_175).toInt).toNat < n_12 by omega) (show ((0 : Int) ≤ (z_175).toInt ∧ (z_175).toInt ≤ (80 : Int)) by omega) hP hD hS (lv_sub hl [0, 1] rfl)
        exact loop_11 _ 0 f_5 f_6 _ _ _ (Nat.lt_succ_self _) (show ((0 : Int) ≤ (0 : Int) ∧ (0 : Int) ≤ (80 : Int)) by omega) hP hD hS hl
      · have k_176 : (12 : Int) > (i_4).toInt := z_nle c_8
        refine lv_aload_n hx hb dX12_spans_8 rfl (lv_at hl 1 rfl) ?_
        refine va_get (D := (dC, dI)) (ci := 12) (v := .ref hfi) (C := RX12) (T := TX12) (N := 70) hx hb hts hiX12 hown hK hP 0 rfl rfl 14 (by decide) w__fieldLink_RX12_41_ShellHeapModel_first_I_ (fun _ h9 => h9) rfl dX12_spans_9 ?_
        refine lv_iload_n hx hb dX12_spans_12 rfl (lv_at hl 0 rfl) ?_
        refine lv_iconst (v := 0) hx hb dX12_spans_13 (by decide) ?_
        refine va_iast hx hb hK hP hD hS 8 7 rfl rfl (z_vpin (by omega) (by omega)) dX12_spans_14 (fun H_177 locs hP hD hS => ?_)
        obtain ⟨hP, hD⟩ := z_s_8 hP hD
        generalize (upd f_5 (i_4 : Int32).toNatClampNeg 0) = f_178 at hP hD
        refine lv_aload_n hx hb dX12_spans_15 rfl (lv_at hl 1 rfl) ?_
        refine va_get (D := (dC, dI)) (ci := 12) (v := .ref hla) (C := RX12) (T := TX12) (N := 70) hx hb hts hiX12 hown hK hP 0 rfl rfl 15 (by decide) w__fieldLink_RX12_44_ShellHeapModel_last_I_ (fun _ h9 => h9) rfl dX12_spans_16 ?_
        refine lv_iload_n hx hb dX12_spans_19 rfl (lv_at hl 0 rfl) ?_
        refine lv_sipush (v := 9999) hx hb dX12_spans_20 (by decide) ?_
        refine va_iast hx hb hK hP hD hS 9 8 rfl rfl (z_vpin (by omega) (by omega)) dX12_spans_23 (fun H_179 locs hP hD hS => ?_)
        obtain ⟨hP, hD⟩ := z_s_9 hP hD
        generalize (upd f_6 (i_4 : Int32).toNatClampNeg 9999) = f_180 at hP hD
        obtain ⟨z_181, ez_181⟩ : ∃ y : Int32, y = i_4 + 1 := ⟨_, rfl⟩
        have kz_181 : (z_181).toInt = (i_4).toInt + (1 : Int) := by rw [ez_181]; exact z_add (b := 1) rfl rfl (z_al hF_7.1 (by decide)) (z_ah hF_7.2 (by decide))
        refine lv_iinc (v := z_181) (lv' := [(1, .int z_181), (0, .ref h0)]) hx hb dX12_spans_24 hl (k := 0) rfl (by rw [ez_181]; rfl) (by decide) rfl (fun ls hl => ?_)
        refine lv_goto (tgt := 2) hx hb dX12_spans_27 (by decide) ?_
        exact ih_3 z_181 f_178 f_180 _ _ _ (show (13 - (z_181).toInt).toNat < n_2 by omega) (show ((0 : Int) ≤ (z_181).toInt ∧ (z_181).toInt ≤ (12 : Int)) by omega) hP hD hS (lv_sub hl [0, 1] rfl)
  exact loop_1 _ 0 fhfi fhla _ _ _ (Nat.lt_succ_self _) (show ((0 : Int) ≤ (0 : Int) ∧ (0 : Int) ≤ (12 : Int)) by omega) hP hD hS hl
def u_s_X12_sum : List Cond := .code yX12_sum cX12_sum 7 (some .int) :: ([.fieldLink RX12 154 "ShellHeapModel" "notes" "I", .fieldLink RX12 25 "ShellHeapModel" "counts" "[Z", .fieldLink RX12 13 "ShellHeapModel" "sort" "[I", .fieldLink RX12 32 "ShellHeapModel" "bedOf" "[I", .fieldLink RX12 16 "ShellHeapModel" "noteA" "[I", .fieldLink RX12 29 "ShellHeapModel" "found" "[I"] ++ (wsX120 ++ []))
theorem gd_s_X12_sum : z_gd u_s_X12_sum := z_gdc (by decide +kernel) (z_gda gdX12 (z_gd0))
set_option maxHeartbeats 4000000 in
set_option maxRecDepth 100000 in
theorem s_X12_sum (l : Launch) (dC : Nat → ClassId) (dI : Nat → Nat → Nat) (sz : Nat) (h0 : Nat) (p1 : Int32) (p2 : Int32) (p3 : Int32) (p4 : Int32) (h0_0 : Value) (h0_1 : Value) (h0_2 : Value) (h0_3 : Value) (mn : Int32) (hs : Nat) (ha : Nat) (hb9 : Nat) (h0_8 : Value) (hct : Nat) (hfo : Nat) (hbd : Nat) (h0_12 : Value) (h0_13 : Value) (h0_14 : Value) (h0_15 : Value) (h0_16 : Value) (h0_17 : Value) (h0_18 : Value) (h0_19 : Value) (h0_20 : Value) (h0_21 : Value) (h0_22 : Value) (h0_23 : Value) (h0_24 : Value) (h0_25 : Value) (h0_26 : Value) (h0_27 : Value) (h0_28 : Value) (h0_29 : Value) (h0_30 : Value) (h0_31 : Value) (h0_32 : Value) (h0_33 : Value) (h0_34 : Value) (h0_35 : Value) (h0_36 : Value) (h0_37 : Value) (h0_38 : Value) (h0_39 : Value) (h0_40 : Value) (h0_41 : Value) (h0_42 : Value) (h0_43 : Value) (h0_44 : Value) (h0_45 : Value) (h0_46 : Value) (h0_47 : Value) (h0_48 : Value) (h0_49 : Value) (h0_50 : Value) (h0_51 : Value) (h0_52 : Value) (h0_53 : Value) (h0_54 : Value) (h0_55 : Value) (h0_56 : Value) (h0_57 : Value) (h0_58 : Value) (h0_59 : Value) (h0_60 : Value) (h0_61 : Value) (h0_62 : Value) (h0_63 : Value) (h0_64 : Value) (h0_65 : Value) (h0_66 : Value) (h0_67 : Value) (h0_68 : Value) (h0_69 : Value) (chct : ClassId) (fhct : Nat → Int32) (chs : ClassId) (fhs : Nat → Int32) (cha : ClassId) (fha : Nat → Int32) (chb9 : ClassId) (fhb9 : Nat → Int32) (chbd : ClassId) (fhbd : Nat → Int32) (chfo : ClassId) (fhfo : Nat → Int32) (hB_p2 : ((0 : Int) ≤ (p2).toInt ∧ (p2).toInt ≤ (5 : Int))) (hB_p3 : ((0 : Int) ≤ (p3).toInt ∧ (p3).toInt ≤ (3 : Int))) (hB_p4 : ((0 : Int) ≤ (p4).toInt ∧ (p4).toInt ≤ (5 : Int))) (hB_mn : ((0 : Int) ≤ (mn).toInt ∧ (mn).toInt ≤ (80 : Int))) (hI_ha : ∀ j : Nat, ((0 : Int) ≤ (fha j).toInt ∧ (fha j).toInt ≤ (79 : Int))) (hI_hbd : ∀ j : Nat, ((0 : Int) ≤ (fhbd j).toInt ∧ (fhbd j).toInt ≤ (11 : Int))) (hR : ∀ j : Nat, z_relm (fhs j) (fha j) (fhb9 j)) : Met l yX12_sum u_s_X12_sum ({ frames := 0, cells := 0, slots := 0, locals := 0 }) (va_Pc [.ref h0, .int p1, .int p2, .int p3, .int p4] (z_C (dC, dI) vwCl [(h0, .inr (12, [h0_0, h0_1, h0_2, h0_3, .int mn, .ref hs, .ref ha, .ref hb9, h0_8, .ref hct, .ref hfo, .ref hbd, h0_12, h0_13, h0_14, h0_15, h0_16, h0_17, h0_18, h0_19, h0_20, h0_21, h0_22, h0_23, h0_24, h0_25, h0_26, h0_27, h0_28, h0_29, h0_30, h0_31, h0_32, h0_33, h0_34, h0_35, h0_36, h0_37, h0_38, h0_39, h0_40, h0_41, h0_42, h0_43, h0_44, h0_45, h0_46, h0_47, h0_48, h0_49, h0_50, h0_51, h0_52, h0_53, h0_54, h0_55, h0_56, h0_57, h0_58, h0_59, h0_60, h0_61, h0_62, h0_63, h0_64, h0_65, h0_66, h0_67, h0_68, h0_69])), (hct, .inl (chct, 80, .inl fhct)), (hs, .inl (chs, 80, .inl fhs)), (ha, .inl (cha, 80, .inl fha)), (hb9, .inl (chb9, 80, .inl fhb9)), (hbd, .inl (chbd, 12, .inl fhbd)), (hfo, .inl (chfo, 11520, .inl fhfo))] [(chct, .boolean), (chs, .int), (cha, .int), (chb9, .int), (chbd, .int), (chfo, .int)] sz)) (va_Qi (fun (r : Int32) (_ : Unit) => True) (fun (_ : Unit) (_ : State) => True) (va_A [] sz)) 0 0 (va_A [] sz) := by
  refine Met.ofW (cc := cX12_sum) (maxL := 7) (ret := (some .int)) (by decide) rfl ?_
  intro p e s m args below meth c s₁ B hml hv
  obtain ⟨rfl, hsz, hP, hK, hD0⟩ := hv
  have hx := B.exec
  have hb := B.bytes
  have hr := B.returns
  have hts := atoms_spec (ws := u_s_X12_sum) B.pre
  have hown : s.vm.findClass RX12 = some m.cls := findClass_of_methodNamed B.named
  have hlocks := B.notSynchronized
  subst hsz
  have hD := hD0
  generalize hAe : va_A [] s.heap.size = A
  have hA : ∀ q : Nat, s.heap.size ≤ q → A q := fun q h => by rw [← hAe]; exact Or.inr h
  have hS : va_S A s.heap s.heap [] := va_S.rf
  have hP : va_P (dC, dI) vwCl [(h0, .inr (12, [h0_0, h0_1, h0_2, h0_3, .int mn, .ref hs, .ref ha, .ref hb9, h0_8, .ref hct, .ref hfo, .ref hbd, h0_12, h0_13, h0_14, h0_15, h0_16, h0_17, h0_18, h0_19, h0_20, h0_21, h0_22, h0_23, h0_24, h0_25, h0_26, h0_27, h0_28, h0_29, h0_30, h0_31, h0_32, h0_33, h0_34, h0_35, h0_36, h0_37, h0_38, h0_39, h0_40, h0_41, h0_42, h0_43, h0_44, h0_45, h0_46, h0_47, h0_48, h0_49, h0_50, h0_51, h0_52, h0_53, h0_54, h0_55, h0_56, h0_57, h0_58, h0_59, h0_60, h0_61, h0_62, h0_63, h0_64, h0_65, h0_66, h0_67, h0_68, h0_69])), (hct, .inl (chct, 80, .inl fhct)), (hs, .inl (chs, 80, .inl fhs)), (ha, .inl (cha, 80, .inl fha)), (hb9, .inl (chb9, 80, .inl fhb9)), (hbd, .inl (chbd, 12, .inl fhbd)), (hfo, .inl (chfo, 11520, .inl fhfo))] s.heap := hP
  have w__fieldLink_RX12_154_ShellHeapModel_notes_I_ := hts (.fieldLink RX12 154 "ShellHeapModel" "notes" "I") (z_mc (z_ml z_m0))
  have hiX12 := show ∀ w ∈ u_ws RX12 TX12 70, w ∈ u_s_X12_sum from fun w h => z_mc (z_mr (z_ml h))
  have w__fieldLink_RX12_25_ShellHeapModel_counts_Z_ := hts (.fieldLink RX12 25 "ShellHeapModel" "counts" "[Z") (z_mc (z_ml z_m1))
  have w__fieldLink_RX12_13_ShellHeapModel_sort_I_ := hts (.fieldLink RX12 13 "ShellHeapModel" "sort" "[I") (z_mc (z_ml z_m2))
  have w__fieldLink_RX12_32_ShellHeapModel_bedOf_I_ := hts (.fieldLink RX12 32 "ShellHeapModel" "bedOf" "[I") (z_mc (z_ml z_m3))
  have w__fieldLink_RX12_16_ShellHeapModel_noteA_I_ := hts (.fieldLink RX12 16 "ShellHeapModel" "noteA" "[I") (z_mc (z_ml z_m4))
  have w__fieldLink_RX12_29_ShellHeapModel_found_I_ := hts (.fieldLink RX12 29 "ShellHeapModel" "found" "[I") (z_mc (z_ml z_m5))
  have krr_p1 := z_rng p1
  have hl := lv_entry ([.ref h0, .int p1, .int p2, .int p3, .int p4]) (n := 7) (Nat.le_of_ble_eq_true rfl)
  rw [lg_entry_eq]
  generalize (lg_sl ([.ref h0, .int p1, .int p2, .int p3, .int p4]) ++ List.replicate (7 - (lg_sl ([.ref h0, .int p1, .int p2, .int p3, .int p4])).length) Slot.unset).toArray = ls at hl ⊢
  have hl : lv_has ls 7 [(0, .ref h0), (1, .int p1), (2, .int p2), (3, .int p3), (4, .int p4)] := hl
  refine z_nameQ (fun QQ hQQ => ?_)
  refine lv_iconst (v := 0) hx hb dX12_sum_0 (by decide) ?_
  refine lv_istore (lv' := [(5, .int 0), (0, .ref h0), (1, .int p1), (2, .int p2), (3, .int p3), (4, .int p4)]) hx hb dX12_sum_1 hl (by decide) rfl (fun ls hl => ?_)
  refine lv_iconst (v := 0) hx hb dX12_sum_3 (by decide) ?_
  refine lv_istore (lv' := [(6, .int 0), (5, .int 0), (0, .ref h0), (1, .int p1), (2, .int p2), (3, .int p3), (4, .int p4)]) hx hb dX12_sum_4 hl (by decide) rfl (fun ls hl => ?_)
  have loop_1 : ∀ (n_2 : Nat) (i_4 : Int32) (n_5 : Int32) (H : Heap) (locs : List Loc) (ls : Array Slot), (81 - (i_4).toInt).toNat < n_2 → (((0 : Int) ≤ (i_4).toInt ∧ (i_4).toInt ≤ (80 : Int))) → va_P (dC, dI) vwCl [(h0, .inr (12, [h0_0, h0_1, h0_2, h0_3, .int mn, .ref hs, .ref ha, .ref hb9, h0_8, .ref hct, .ref hfo, .ref hbd, h0_12, h0_13, h0_14, h0_15, h0_16, h0_17, h0_18, h0_19, h0_20, h0_21, h0_22, h0_23, h0_24, h0_25, h0_26, h0_27, h0_28, h0_29, h0_30, h0_31, h0_32, h0_33, h0_34, h0_35, h0_36, h0_37, h0_38, h0_39, h0_40, h0_41, h0_42, h0_43, h0_44, h0_45, h0_46, h0_47, h0_48, h0_49, h0_50, h0_51, h0_52, h0_53, h0_54, h0_55, h0_56, h0_57, h0_58, h0_59, h0_60, h0_61, h0_62, h0_63, h0_64, h0_65, h0_66, h0_67, h0_68, h0_69])), (hct, .inl (chct, 80, .inl fhct)), (hs, .inl (chs, 80, .inl fhs)), (ha, .inl (cha, 80, .inl fha)), (hb9, .inl (chb9, 80, .inl fhb9)), (hbd, .inl (chbd, 12, .inl fhbd)), (hfo, .inl (chfo, 11520, .inl fhfo))] H → va_D (fun _ => True) [(h0, .inr (12, [h0_0, h0_1, h0_2, h0_3, .int mn, .ref hs, .ref ha, .ref hb9, h0_8, .ref hct, .ref hfo, .ref hbd, h0_12, h0_13, h0_14, h0_15, h0_16, h0_17, h0_18, h0_19, h0_20, h0_21, h0_22, h0_23, h0_24, h0_25, h0_26, h0_27, h0_28, h0_29, h0_30, h0_31, h0_32, h0_33, h0_34, h0_35, h0_36, h0_37, h0_38, h0_39, h0_40, h0_41, h0_42, h0_43, h0_44, h0_45, h0_46, h0_47, h0_48, h0_49, h0_50, h0_51, h0_52, h0_53, h0_54, h0_55, h0_56, h0_57, h0_58, h0_59, h0_60, h0_61, h0_62, h0_63, h0_64, h0_65, h0_66, h0_67, h0_68, h0_69])), (hct, .inl (chct, 80, .inl fhct)), (hs, .inl (chs, 80, .inl fhs)), (ha, .inl (cha, 80, .inl fha)), (hb9, .inl (chb9, 80, .inl fhb9)), (hbd, .inl (chbd, 12, .inl fhbd)), (hfo, .inl (chfo, 11520, .inl fhfo))] → va_S A s.heap H locs → lv_has ls 7 [(6, .int i_4), (5, .int n_5), (0, .ref h0), (1, .int p1), (2, .int p2), (3, .int p3), (4, .int p4)] → W p l e ({ frames := 0, cells := 0, slots := 0, locals := 0 } : Room) s m ([.ref h0, .int p1, .int p2, .int p3, .int p4] : List Value).toArray below meth c H locs 0 0 QQ (F0 m 6 ls []) := by
    intro n_2
    induction n_2 with
    | zero => intro i_4 n_5 H locs ls hm; exact absurd hm (Nat.not_lt_zero _)
    | succ n_2 ih_3 =>
      intro i_4 n_5 H locs ls hm hF_6 hP hD hS hl
      refine lv_iload hx hb dX12_sum_6 (lv_at hl 0 rfl) ?_
      refine lv_aload_n hx hb dX12_sum_8 rfl (lv_at hl 2 rfl) ?_
      refine va_get (D := (dC, dI)) (ci := 12) (v := .int mn) (C := RX12) (T := TX12) (N := 70) hx hb hts hiX12 hown hK hP 0 rfl rfl 4 (by decide) w__fieldLink_RX12_154_ShellHeapModel_notes_I_ (fun _ h9 => h9) rfl dX12_sum_9 ?_
      refine lv_icmp_ge (tgt := 91) hx hb dX12_sum_12 (by decide) (fun c_7 => ?_) (fun c_7 => ?_)
      · have k_8 : (mn).toInt ≤ (i_4).toInt := z_le c_7
        refine lv_iload hx hb dX12_sum_91 (lv_at hl 1 rfl) ?_
        refine z_backQ hQQ ?_
        refine W.widen (k := 0) (n := 0) (Nat.le_of_ble_eq_true rfl) (Nat.le_of_ble_eq_true rfl) ?_
        exact W.iret (v := n_5) hx hb hr (fun t ht hW => ⟨⟨n_5, (), rfl, trivial, trivial⟩, hS.F ht⟩) hS.2.2 dX12_sum_93
      · have k_9 : (mn).toInt > (i_4).toInt := z_nle c_7
        refine lv_iload hx hb dX12_sum_15 (lv_at hl 1 rfl) ?_
        refine lv_aload_n hx hb dX12_sum_17 rfl (lv_at hl 2 rfl) ?_
        refine va_get (D := (dC, dI)) (ci := 12) (v := .ref hct) (C := RX12) (T := TX12) (N := 70) hx hb hts hiX12 hown hK hP 0 rfl rfl 9 (by decide) w__fieldLink_RX12_25_ShellHeapModel_counts_Z_ (fun _ h9 => h9) rfl dX12_sum_18 ?_
        refine lv_iload hx hb dX12_sum_21 (lv_at hl 0 rfl) ?_
        refine va_zald hx hb hK hP 1 0 rfl rfl (z_vpin (by omega) (by omega)) dX12_sum_23 ?_
        refine lv_topi (fun z_10 ez_10 => ?_)
        refine lv_if_eq (tgt := 81) hx hb dX12_sum_24 (by decide) (fun c_11 => ?_) (fun c_11 => ?_)
        · have k_12 : (z_10).toInt = (0 : Int) := z_eq c_11
          obtain rfl : z_10 = 0 := z_eq' (show (z_10).toInt = (0 : Int) by omega)
          refine lv_iconst (v := 0) hx hb dX12_sum_81 (by decide) ?_
          refine lv_iadd hx hb dX12_sum_82 ?_
          refine lv_topi (fun z_14 ez_14 => ?_)
          have kr_z_14_n_5 := z_rng n_5
          have kz_14 : (z_14).toInt = (n_5).toInt + (0 : Int) := by rw [ez_14]; exact z_add (a := (n_5).toInt) (b := (0 : Int)) rfl rfl (by omega) (by omega)
          refine lv_istore (lv' := [(5, .int z_14), (6, .int i_4), (0, .ref h0), (1, .int p1), (2, .int p2), (3, .int p3), (4, .int p4)]) hx hb dX12_sum_83 hl (by decide) rfl (fun ls hl => ?_)
          obtain ⟨z_15, ez_15⟩ : ∃ y : Int32, y = i_4 + 1 := ⟨_, rfl⟩
          have kz_15 : (z_15).toInt = (i_4).toInt + (1 : Int) := by rw [ez_15]; exact z_add (b := 1) rfl rfl (z_al hF_6.1 (by decide)) (z_ah hF_6.2 (by decide))
          refine lv_iinc (v := z_15) (lv' := [(6, .int z_15), (5, .int z_14), (0, .ref h0), (1, .int p1), (2, .int p2), (3, .int p3), (4, .int p4)]) hx hb dX12_sum_85 hl (k := 1) rfl (by rw [ez_15]; rfl) (by decide) rfl (fun ls hl => ?_)
          refine lv_goto (tgt := 6) hx hb dX12_sum_88 (by decide) ?_
          exact ih_3 z_15 z_14 _ _ _ (show (81 - (z_15).toInt).toNat < n_2 by omega) (show ((0 : Int) ≤ (z_15).toInt ∧ (z_15).toInt ≤ (80 : Int)) by omega) hP hD hS (lv_sub hl [0, 1, 2, 3, 4, 5, 6] rfl)
        · have k_16 : (z_10).toInt ≠ (0 : Int) := z_ne c_11
          refine lv_aload_n hx hb dX12_sum_27 rfl (lv_at hl 2 rfl) ?_
          refine va_get (D := (dC, dI)) (ci := 12) (v := .ref hs) (C := RX12) (T := TX12) (N := 70) hx hb hts hiX12 hown hK hP 0 rfl rfl 5 (by decide) w__fieldLink_RX12_13_ShellHeapModel_sort_I_ (fun _ h9 => h9) rfl dX12_sum_28 ?_
          refine lv_iload hx hb dX12_sum_31 (lv_at hl 0 rfl) ?_
          refine va_iald hx hb hK hP 2 1 rfl rfl (z_vpin (by omega) (by omega)) dX12_sum_33 ?_
          refine lv_topi (fun z_17 ez_17 => ?_)
          refine lv_iconst (v := 4) hx hb dX12_sum_34 (by decide) ?_
          refine lv_icmp_ne (tgt := 81) hx hb dX12_sum_35 (by decide) (fun c_18 => ?_) (fun c_18 => ?_)
          · have k_19 : (z_17).toInt ≠ (4 : Int) := z_ne c_18
            refine lv_iconst (v := 0) hx hb dX12_sum_81 (by decide) ?_
            refine lv_iadd hx hb dX12_sum_82 ?_
            refine lv_topi (fun z_20 ez_20 => ?_)
            have kr_z_20_n_5 := z_rng n_5
            have kz_20 : (z_20).toInt = (n_5).toInt + (0 : Int) := by rw [ez_20]; exact z_add (a := (n_5).toInt) (b := (0 : Int)) rfl rfl (by omega) (by omega)
            refine lv_istore (lv' := [(5, .int z_20), (6, .int i_4), (0, .ref h0), (1, .int p1), (2, .int p2), (3, .int p3), (4, .int p4)]) hx hb dX12_sum_83 hl (by decide) rfl (fun ls hl => ?_)
            obtain ⟨z_21, ez_21⟩ : ∃ y : Int32, y = i_4 + 1 := ⟨_, rfl⟩
            have kz_21 : (z_21).toInt = (i_4).toInt + (1 : Int) := by rw [ez_21]; exact z_add (b := 1) rfl rfl (z_al hF_6.1 (by decide)) (z_ah hF_6.2 (by decide))
            refine lv_iinc (v := z_21) (lv' := [(6, .int z_21), (5, .int z_20), (0, .ref h0), (1, .int p1), (2, .int p2), (3, .int p3), (4, .int p4)]) hx hb dX12_sum_85 hl (k := 1) rfl (by rw [ez_21]; rfl) (by decide) rfl (fun ls hl => ?_)
            refine lv_goto (tgt := 6) hx hb dX12_sum_88 (by decide) ?_
            exact ih_3 z_21 z_20 _ _ _ (show (81 - (z_21).toInt).toNat < n_2 by omega) (show ((0 : Int) ≤ (z_21).toInt ∧ (z_21).toInt ≤ (80 : Int)) by omega) hP hD hS (lv_sub hl [0, 1, 2, 3, 4, 5, 6] rfl)
          · have k_22 : (z_17).toInt = (4 : Int) := z_eq c_18
            obtain rfl : z_17 = 4 := z_eq' (show (z_17).toInt = (4 : Int) by omega)
            refine lv_aload_n hx hb dX12_sum_38 rfl (lv_at hl 2 rfl) ?_
            refine va_get (D := (dC, dI)) (ci := 12) (v := .ref hbd) (C := RX12) (T := TX12) (N := 70) hx hb hts hiX12 hown hK hP 0 rfl rfl 11 (by decide) w__fieldLink_RX12_32_ShellHeapModel_bedOf_I_ (fun _ h9 => h9) rfl dX12_sum_39 ?_
            refine lv_aload_n hx hb dX12_sum_42 rfl (lv_at hl 2 rfl) ?_
            refine va_get (D := (dC, dI)) (ci := 12) (v := .ref ha) (C := RX12) (T := TX12) (N := 70) hx hb hts hiX12 hown hK hP 0 rfl rfl 6 (by decide) w__fieldLink_RX12_16_ShellHeapModel_noteA_I_ (fun _ h9 => h9) rfl dX12_sum_43 ?_
            refine lv_iload hx hb dX12_sum_46 (lv_at hl 0 rfl) ?_
            refine va_iald hx hb hK hP 3 2 rfl rfl (z_vpin (by omega) (by omega)) dX12_sum_48 ?_
            refine lv_topi (fun z_24 ez_24 => ?_)
            have kz_24 : ((0 : Int) ≤ (z_24).toInt ∧ (z_24).toInt ≤ (79 : Int)) := by rw [ez_24]; exact hI_ha _
            have krz_24 : (z_24).toInt ≤ (11 : Int) := by rw [ez_24]; exact (hR _).2.1 (by rw [← ez_17]; omega)
            refine va_iald hx hb hK hP 5 4 rfl rfl (z_vpin (by omega) (by omega)) dX12_sum_49 ?_
            refine lv_topi (fun z_25 ez_25 => ?_)
            have kz_25 : ((0 : Int) ≤ (z_25).toInt ∧ (z_25).toInt ≤ (11 : Int)) := by rw [ez_25]; exact hI_hbd _
            refine lv_iload_n hx hb dX12_sum_50 rfl (lv_at hl 3 rfl) ?_
            refine lv_icmp_ne (tgt := 81) hx hb dX12_sum_51 (by decide) (fun c_26 => ?_) (fun c_26 => ?_)
            · have k_27 : (z_25).toInt ≠ (p1).toInt := z_ne c_26
              refine lv_iconst (v := 0) hx hb dX12_sum_81 (by decide) ?_
              refine lv_iadd hx hb dX12_sum_82 ?_
              refine lv_topi (fun z_28 ez_28 => ?_)
              have kr_z_28_n_5 := z_rng n_5
              have kz_28 : (z_28).toInt = (n_5).toInt + (0 : Int) := by rw [ez_28]; exact z_add (a := (n_5).toInt) (b := (0 : Int)) rfl rfl (by omega) (by omega)
              refine lv_istore (lv' := [(5, .int z_28), (6, .int i_4), (0, .ref h0), (1, .int p1), (2, .int p2), (3, .int p3), (4, .int p4)]) hx hb dX12_sum_83 hl (by decide) rfl (fun ls hl => ?_)
              obtain ⟨z_29, ez_29⟩ : ∃ y : Int32, y = i_4 + 1 := ⟨_, rfl⟩
              have kz_29 : (z_29).toInt = (i_4).toInt + (1 : Int) := by rw [ez_29]; exact z_add (b := 1) rfl rfl (z_al hF_6.1 (by decide)) (z_ah hF_6.2 (by decide))
              refine lv_iinc (v := z_29) (lv' := [(6, .int z_29), (5, .int z_28), (0, .ref h0), (1, .int p1), (2, .int p2), (3, .int p3), (4, .int p4)]) hx hb dX12_sum_85 hl (k := 1) rfl (by rw [ez_29]; rfl) (by decide) rfl (fun ls hl => ?_)
              refine lv_goto (tgt := 6) hx hb dX12_sum_88 (by decide) ?_
              exact ih_3 z_29 z_28 _ _ _ (show (81 - (z_29).toInt).toNat < n_2 by omega) (show ((0 : Int) ≤ (z_29).toInt ∧ (z_29).toInt ≤ (80 : Int)) by omega) hP hD hS (lv_sub hl [0, 1, 2, 3, 4, 5, 6] rfl)
            · have k_30 : (z_25).toInt = (p1).toInt := z_eq c_26
              refine lv_aload_n hx hb dX12_sum_54 rfl (lv_at hl 2 rfl) ?_
              refine va_get (D := (dC, dI)) (ci := 12) (v := .ref hfo) (C := RX12) (T := TX12) (N := 70) hx hb hts hiX12 hown hK hP 0 rfl rfl 10 (by decide) w__fieldLink_RX12_29_ShellHeapModel_found_I_ (fun _ h9 => h9) rfl dX12_sum_55 ?_
              refine lv_sipush (v := 144) hx hb dX12_sum_58 (by decide) ?_
              refine lv_iload hx hb dX12_sum_61 (lv_at hl 0 rfl) ?_
              refine lv_imul hx hb dX12_sum_63 ?_
              refine lv_topi (fun z_31 ez_31 => ?_)
              have kz_31 : (z_31).toInt = (144 : Int) * (i_4).toInt := by rw [ez_31]; exact z_mul (a := (144 : Int)) (b := (i_4).toInt) rfl rfl (by omega) (by omega)
              refine lv_bipush (v := 24) hx hb dX12_sum_64 (by decide) ?_
              refine lv_iload_n hx hb dX12_sum_66 rfl (lv_at hl 4 rfl) ?_
              refine lv_imul hx hb dX12_sum_67 ?_
              refine lv_topi (fun z_32 ez_32 => ?_)
              have kz_32 : (z_32).toInt = (24 : Int) * (p2).toInt := by rw [ez_32]; exact z_mul (a := (24 : Int)) (b := (p2).toInt) rfl rfl (by omega) (by omega)
              refine lv_iadd hx hb dX12_sum_68 ?_
              refine lv_topi (fun z_33 ez_33 => ?_)
              have kz_33 : (z_33).toInt = (z_31).toInt + (z_32).toInt := by rw [ez_33]; exact z_add (a := (z_31).toInt) (b := (z_32).toInt) rfl rfl (by omega) (by omega)
              refine lv_bipush (v := 6) hx hb dX12_sum_69 (by decide) ?_
              refine lv_iload_n hx hb dX12_sum_71 rfl (lv_at hl 5 rfl) ?_
              refine lv_imul hx hb dX12_sum_72 ?_
              refine lv_topi (fun z_34 ez_34 => ?_)
              have kz_34 : (z_34).toInt = (6 : Int) * (p3).toInt := by rw [ez_34]; exact z_mul (a := (6 : Int)) (b := (p3).toInt) rfl rfl (by omega) (by omega)
              refine lv_iadd hx hb dX12_sum_73 ?_
              refine lv_topi (fun z_35 ez_35 => ?_)
              have kz_35 : (z_35).toInt = (z_33).toInt + (z_34).toInt := by rw [ez_35]; exact z_add (a := (z_33).toInt) (b := (z_34).toInt) rfl rfl (by omega) (by omega)
              refine lv_iload hx hb dX12_sum_74 (lv_at hl 6 rfl) ?_
              refine lv_iadd hx hb dX12_sum_76 ?_
              refine lv_topi (fun z_36 ez_36 => ?_)
              have kz_36 : (z_36).toInt = (z_35).toInt + (p4).toInt := by rw [ez_36]; exact z_add (a := (z_35).toInt) (b := (p4).toInt) rfl rfl (by omega) (by omega)
              refine va_iald hx hb hK hP 6 5 rfl rfl (z_vpin (by omega) (by omega)) dX12_sum_77 ?_
              refine lv_topi (fun z_37 ez_37 => ?_)
              refine lv_goto (tgt := 82) hx hb dX12_sum_78 (by decide) ?_
              refine lv_iadd hx hb dX12_sum_82 ?_
              refine lv_topi (fun z_38 ez_38 => ?_)
              refine lv_istore (lv' := [(5, .int z_38), (6, .int i_4), (0, .ref h0), (1, .int p1), (2, .int p2), (3, .int p3), (4, .int p4)]) hx hb dX12_sum_83 hl (by decide) rfl (fun ls hl => ?_)
              obtain ⟨z_39, ez_39⟩ : ∃ y : Int32, y = i_4 + 1 := ⟨_, rfl⟩
              have kz_39 : (z_39).toInt = (i_4).toInt + (1 : Int) := by rw [ez_39]; exact z_add (b := 1) rfl rfl (z_al hF_6.1 (by decide)) (z_ah hF_6.2 (by decide))
              refine lv_iinc (v := z_39) (lv' := [(6, .int z_39), (5, .int z_38), (0, .ref h0), (1, .int p1), (2, .int p2), (3, .int p3), (4, .int p4)]) hx hb dX12_sum_85 hl (k := 1) rfl (by rw [ez_39]; rfl) (by decide) rfl (fun ls hl => ?_)
              refine lv_goto (tgt := 6) hx hb dX12_sum_88 (by decide) ?_
              exact ih_3 z_39 z_38 _ _ _ (show (81 - (z_39).toInt).toNat < n_2 by omega) (show ((0 : Int) ≤ (z_39).toInt ∧ (z_39).toInt ≤ (80 : Int)) by omega) hP hD hS (lv_sub hl [0, 1, 2, 3, 4, 5, 6] rfl)
  exact loop_1 _ 0 0 _ _ _ (Nat.lt_succ_self _) (show ((0 : Int) ≤ (0 : Int) ∧ (0 : Int) ≤ (80 : Int)) by omega) hP hD hS hl
def u_s_X12_hinges : List Cond := .code yX12_hinges cX12_hinges 6 (some .int) :: ([.methodLink RX12 257 yX12_sum, .instanceMethod yX12_sum, .selects RX12 yX12_sum yX12_sum, .initialized RX12, .fieldLink RX12 66 "ShellHeapModel" "valves" "[I"] ++ (wsX120 ++ (u_s_X12_sum ++ [])))
theorem gd_s_X12_hinges : z_gd u_s_X12_hinges := z_gdc (by decide +kernel) (z_gda gdX12 (z_gda gd_s_X12_sum (z_gd0)))
set_option maxRecDepth 20000 in
theorem gw_s_X12_hinges_s_X12_sum_257 : GoodIn u_s_X12_hinges (wsV RX12 257 RX12 yX12_sum u_s_X12_sum) := z_gV (z_gr _ [1, 2, 3, 4] rfl (by decide +kernel)) (fun w h => ⟨z_mc (z_mr (z_mr (z_ml h))), gd_s_X12_sum w h⟩)
set_option maxHeartbeats 4000000 in
set_option maxRecDepth 100000 in
theorem s_X12_hinges (l : Launch) (dC : Nat → ClassId) (dI : Nat → Nat → Nat) (sz : Nat) (h0 : Nat) (p1 : Int32) (p2 : Int32) (p3 : Int32) (h0_0 : Value) (h0_1 : Value) (h0_2 : Value) (h0_3 : Value) (mn : Int32) (hs : Nat) (ha : Nat) (hb9 : Nat) (h0_8 : Value) (hct : Nat) (hfo : Nat) (hbd : Nat) (h0_12 : Value) (h0_13 : Value) (h0_14 : Value) (h0_15 : Value) (h0_16 : Value) (h0_17 : Value) (h0_18 : Value) (h0_19 : Value) (h0_20 : Value) (h0_21 : Value) (h0_22 : Value) (h0_23 : Value) (h0_24 : Value) (hv : Nat) (h0_26 : Value) (h0_27 : Value) (h0_28 : Value) (h0_29 : Value) (h0_30 : Value) (h0_31 : Value) (h0_32 : Value) (h0_33 : Value) (h0_34 : Value) (h0_35 : Value) (h0_36 : Value) (h0_37 : Value) (h0_38 : Value) (h0_39 : Value) (h0_40 : Value) (h0_41 : Value) (h0_42 : Value) (h0_43 : Value) (h0_44 : Value) (h0_45 : Value) (h0_46 : Value) (h0_47 : Value) (h0_48 : Value) (h0_49 : Value) (h0_50 : Value) (h0_51 : Value) (h0_52 : Value) (h0_53 : Value) (h0_54 : Value) (h0_55 : Value) (h0_56 : Value) (h0_57 : Value) (h0_58 : Value) (h0_59 : Value) (h0_60 : Value) (h0_61 : Value) (h0_62 : Value) (h0_63 : Value) (h0_64 : Value) (h0_65 : Value) (h0_66 : Value) (h0_67 : Value) (h0_68 : Value) (h0_69 : Value) (chct : ClassId) (fhct : Nat → Int32) (chs : ClassId) (fhs : Nat → Int32) (cha : ClassId) (fha : Nat → Int32) (chb9 : ClassId) (fhb9 : Nat → Int32) (chbd : ClassId) (fhbd : Nat → Int32) (chfo : ClassId) (fhfo : Nat → Int32) (chv : ClassId) (fhv : Nat → Int32) (hB_p2 : ((0 : Int) ≤ (p2).toInt ∧ (p2).toInt ≤ (5 : Int))) (hB_p3 : ((0 : Int) ≤ (p3).toInt ∧ (p3).toInt ≤ (3 : Int))) (hB_mn : ((0 : Int) ≤ (mn).toInt ∧ (mn).toInt ≤ (80 : Int))) (hI_ha : ∀ j : Nat, ((0 : Int) ≤ (fha j).toInt ∧ (fha j).toInt ≤ (79 : Int))) (hI_hbd : ∀ j : Nat, ((0 : Int) ≤ (fhbd j).toInt ∧ (fhbd j).toInt ≤ (11 : Int))) (hR : ∀ j : Nat, z_relm (fhs j) (fha j) (fhb9 j)) : Met l yX12_hinges u_s_X12_hinges ({ frames := 1, cells := 0, slots := 0, locals := 26 }) (va_Pc [.ref h0, .int p1, .int p2, .int p3] (z_C (dC, dI) vwCl [(h0, .inr (12, [h0_0, h0_1, h0_2, h0_3, .int mn, .ref hs, .ref ha, .ref hb9, h0_8, .ref hct, .ref hfo, .ref hbd, h0_12, h0_13, h0_14, h0_15, h0_16, h0_17, h0_18, h0_19, h0_20, h0_21, h0_22, h0_23, h0_24, .ref hv, h0_26, h0_27, h0_28, h0_29, h0_30, h0_31, h0_32, h0_33, h0_34, h0_35, h0_36, h0_37, h0_38, h0_39, h0_40, h0_41, h0_42, h0_43, h0_44, h0_45, h0_46, h0_47, h0_48, h0_49, h0_50, h0_51, h0_52, h0_53, h0_54, h0_55, h0_56, h0_57, h0_58, h0_59, h0_60, h0_61, h0_62, h0_63, h0_64, h0_65, h0_66, h0_67, h0_68, h0_69])), (hct, .inl (chct, 80, .inl fhct)), (hs, .inl (chs, 80, .inl fhs)), (ha, .inl (cha, 80, .inl fha)), (hb9, .inl (chb9, 80, .inl fhb9)), (hbd, .inl (chbd, 12, .inl fhbd)), (hfo, .inl (chfo, 11520, .inl fhfo)), (hv, .inl (chv, 6, .inl fhv))] [(chct, .boolean), (chs, .int), (cha, .int), (chb9, .int), (chbd, .int), (chfo, .int), (chv, .int)] sz)) (va_Qi (fun (r : Int32) (_ : Unit) => True) (fun (_ : Unit) (_ : State) => True) (va_A [] sz)) 0 0 (va_A [] sz) := by
  refine Met.ofW (cc := cX12_hinges) (maxL := 6) (ret := (some .int)) (by decide) rfl ?_
  intro p e s m args below meth c s₁ B hml hv
  obtain ⟨rfl, hsz, hP, hK, hD0⟩ := hv
  have hx := B.exec
  have hb := B.bytes
  have hr := B.returns
  have hts := atoms_spec (ws := u_s_X12_hinges) B.pre
  have hown : s.vm.findClass RX12 = some m.cls := findClass_of_methodNamed B.named
  have hlocks := B.notSynchronized
  subst hsz
  have hD := hD0
  generalize hAe : va_A [] s.heap.size = A
  have hA : ∀ q : Nat, s.heap.size ≤ q → A q := fun q h => by rw [← hAe]; exact Or.inr h
  have hS : va_S A s.heap s.heap [] := va_S.rf
  have hP : va_P (dC, dI) vwCl [(h0, .inr (12, [h0_0, h0_1, h0_2, h0_3, .int mn, .ref hs, .ref ha, .ref hb9, h0_8, .ref hct, .ref hfo, .ref hbd, h0_12, h0_13, h0_14, h0_15, h0_16, h0_17, h0_18, h0_19, h0_20, h0_21, h0_22, h0_23, h0_24, .ref hv, h0_26, h0_27, h0_28, h0_29, h0_30, h0_31, h0_32, h0_33, h0_34, h0_35, h0_36, h0_37, h0_38, h0_39, h0_40, h0_41, h0_42, h0_43, h0_44, h0_45, h0_46, h0_47, h0_48, h0_49, h0_50, h0_51, h0_52, h0_53, h0_54, h0_55, h0_56, h0_57, h0_58, h0_59, h0_60, h0_61, h0_62, h0_63, h0_64, h0_65, h0_66, h0_67, h0_68, h0_69])), (hct, .inl (chct, 80, .inl fhct)), (hs, .inl (chs, 80, .inl fhs)), (ha, .inl (cha, 80, .inl fha)), (hb9, .inl (chb9, 80, .inl fhb9)), (hbd, .inl (chbd, 12, .inl fhbd)), (hfo, .inl (chfo, 11520, .inl fhfo)), (hv, .inl (chv, 6, .inl fhv))] s.heap := hP
  have w__fieldLink_RX12_66_ShellHeapModel_valves_I_ := hts (.fieldLink RX12 66 "ShellHeapModel" "valves" "[I") (z_mc (z_ml z_m4))
  have hiX12 := show ∀ w ∈ u_ws RX12 TX12 70, w ∈ u_s_X12_hinges from fun w h => z_mc (z_mr (z_ml h))
  have krr_p1 := z_rng p1
  have hl := lv_entry ([.ref h0, .int p1, .int p2, .int p3]) (n := 6) (Nat.le_of_ble_eq_true rfl)
  rw [lg_entry_eq]
  generalize (lg_sl ([.ref h0, .int p1, .int p2, .int p3]) ++ List.replicate (6 - (lg_sl ([.ref h0, .int p1, .int p2, .int p3])).length) Slot.unset).toArray = ls at hl ⊢
  have hl : lv_has ls 6 [(0, .ref h0), (1, .int p1), (2, .int p2), (3, .int p3)] := hl
  refine lv_aload_n hx hb dX12_hinges_0 rfl (lv_at hl 0 rfl) ?_
  refine lv_iload_n hx hb dX12_hinges_1 rfl (lv_at hl 1 rfl) ?_
  refine lv_iload_n hx hb dX12_hinges_2 rfl (lv_at hl 2 rfl) ?_
  refine lv_iload_n hx hb dX12_hinges_3 rfl (lv_at hl 3 rfl) ?_
  refine lv_iconst (v := 0) hx hb dX12_hinges_4 (by decide) ?_
  obtain ⟨hPc, hDc⟩ := z_sub2 (ws' := [(h0, .inr (12, [h0_0, h0_1, h0_2, h0_3, .int mn, .ref hs, .ref ha, .ref hb9, h0_8, .ref hct, .ref hfo, .ref hbd, h0_12, h0_13, h0_14, h0_15, h0_16, h0_17, h0_18, h0_19, h0_20, h0_21, h0_22, h0_23, h0_24, .ref hv, h0_26, h0_27, h0_28, h0_29, h0_30, h0_31, h0_32, h0_33, h0_34, h0_35, h0_36, h0_37, h0_38, h0_39, h0_40, h0_41, h0_42, h0_43, h0_44, h0_45, h0_46, h0_47, h0_48, h0_49, h0_50, h0_51, h0_52, h0_53, h0_54, h0_55, h0_56, h0_57, h0_58, h0_59, h0_60, h0_61, h0_62, h0_63, h0_64, h0_65, h0_66, h0_67, h0_68, h0_69])), (hct, .inl (chct, 80, .inl fhct)), (hs, .inl (chs, 80, .inl fhs)), (ha, .inl (cha, 80, .inl fha)), (hb9, .inl (chb9, 80, .inl fhb9)), (hbd, .inl (chbd, 12, .inl fhbd)), (hfo, .inl (chfo, 11520, .inl fhfo))]) hP hD [0, 1, 2, 3, 4, 5, 6] (by decide) rfl
  have hKc := hK.sub (tys' := [(chct, .boolean), (chs, .int), (cha, .int), (chb9, .int), (chbd, .int), (chfo, .int)]) [0, 1, 2, 3, 4, 5] rfl
  have hFc := va_free (ws := []) (wc := []) (z_D0 _) hS hA [] rfl
  refine va_calli (va_runV (As := [.int p1, .int p2, .int p3, .int 0]) (rest := []) ⟨hx, hb, hml, hown, hts⟩ (s_X12_sum l dC dI s.heap.size h0 p1 p2 p3 0 h0_0 h0_1 h0_2 h0_3 mn hs ha hb9 h0_8 hct hfo hbd h0_12 h0_13 h0_14 h0_15 h0_16 h0_17 h0_18 h0_19 h0_20 h0_21 h0_22 h0_23 h0_24 (.ref hv) h0_26 h0_27 h0_28 h0_29 h0_30 h0_31 h0_32 h0_33 h0_34 h0_35 h0_36 h0_37 h0_38 h0_39 h0_40 h0_41 h0_42 h0_43 h0_44 h0_45 h0_46 h0_47 h0_48 h0_49 h0_50 h0_51 h0_52 h0_53 h0_54 h0_55 h0_56 h0_57 h0_58 h0_59 h0_60 h0_61 h0_62 h0_63 h0_64 h0_65 h0_66 h0_67 h0_68 h0_69 chct fhct chs fhs cha fha chb9 fhb9 chbd fhbd chfo fhfo hB_p2 hB_p3 (by decide) hB_mn hI_ha hI_hbd hR) (cwV 4 hts gw_s_X12_hinges_s_X12_sum_257 rfl rfl rfl (by decide +kernel) ⟨Nat.le_of_ble_eq_true rfl, Nat.le_of_ble_eq_true rfl⟩) ⟨z_blind, va_recv hKc hPc (ci := 12) (q0 := 0) rfl rfl, z_pre hPc hKc hDc⟩ rfl rfl hl.1 rfl (lv_room (Nat.le_of_ble_eq_true rfl)) dX12_hinges_5 ⟨Nat.le_of_ble_eq_true rfl, Nat.le_of_ble_eq_true rfl⟩) hS (fun q _ h => hFc q h) hFc (fun r_2 u t H_1 locs ht hvm hw_3 hB hz1 hk1 hS => ?_)
  replace hP := z_pure hP hk1
  clear hPc hDc hKc
  refine lv_istore (lv' := [(4, .int r_2), (0, .ref h0), (1, .int p1), (2, .int p2), (3, .int p3)]) hx hb dX12_hinges_8 hl (by decide) rfl (fun ls hl => ?_)
  refine lv_aload_n hx hb dX12_hinges_10 rfl (lv_at hl 1 rfl) ?_
  refine lv_iload_n hx hb dX12_hinges_11 rfl (lv_at hl 2 rfl) ?_
  refine lv_iload_n hx hb dX12_hinges_12 rfl (lv_at hl 3 rfl) ?_
  refine lv_iload_n hx hb dX12_hinges_13 rfl (lv_at hl 4 rfl) ?_
  refine lv_iconst (v := 1) hx hb dX12_hinges_14 (by decide) ?_
  obtain ⟨hPc, hDc⟩ := z_sub2 (ws' := [(h0, .inr (12, [h0_0, h0_1, h0_2, h0_3, .int mn, .ref hs, .ref ha, .ref hb9, h0_8, .ref hct, .ref hfo, .ref hbd, h0_12, h0_13, h0_14, h0_15, h0_16, h0_17, h0_18, h0_19, h0_20, h0_21, h0_22, h0_23, h0_24, .ref hv, h0_26, h0_27, h0_28, h0_29, h0_30, h0_31, h0_32, h0_33, h0_34, h0_35, h0_36, h0_37, h0_38, h0_39, h0_40, h0_41, h0_42, h0_43, h0_44, h0_45, h0_46, h0_47, h0_48, h0_49, h0_50, h0_51, h0_52, h0_53, h0_54, h0_55, h0_56, h0_57, h0_58, h0_59, h0_60, h0_61, h0_62, h0_63, h0_64, h0_65, h0_66, h0_67, h0_68, h0_69])), (hct, .inl (chct, 80, .inl fhct)), (hs, .inl (chs, 80, .inl fhs)), (ha, .inl (cha, 80, .inl fha)), (hb9, .inl (chb9, 80, .inl fhb9)), (hbd, .inl (chbd, 12, .inl fhbd)), (hfo, .inl (chfo, 11520, .inl fhfo))]) hP hD [0, 1, 2, 3, 4, 5, 6] (by decide) rfl
  have hKc := hK.sub (tys' := [(chct, .boolean), (chs, .int), (cha, .int), (chb9, .int), (chbd, .int), (chfo, .int)]) [0, 1, 2, 3, 4, 5] rfl
  have hFc := va_free (ws := []) (wc := []) (z_D0 _) hS hA [] rfl
  refine va_calli (va_runV (As := [.int p1, .int p2, .int p3, .int 1]) (rest := []) ⟨hx, hb, hml, hown, hts⟩ (s_X12_sum l dC dI H_1.size h0 p1 p2 p3 1 h0_0 h0_1 h0_2 h0_3 mn hs ha hb9 h0_8 hct hfo hbd h0_12 h0_13 h0_14 h0_15 h0_16 h0_17 h0_18 h0_19 h0_20 h0_21 h0_22 h0_23 h0_24 (.ref hv) h0_26 h0_27 h0_28 h0_29 h0_30 h0_31 h0_32 h0_33 h0_34 h0_35 h0_36 h0_37 h0_38 h0_39 h0_40 h0_41 h0_42 h0_43 h0_44 h0_45 h0_46 h0_47 h0_48 h0_49 h0_50 h0_51 h0_52 h0_53 h0_54 h0_55 h0_56 h0_57 h0_58 h0_59 h0_60 h0_61 h0_62 h0_63 h0_64 h0_65 h0_66 h0_67 h0_68 h0_69 chct fhct chs fhs cha fha chb9 fhb9 chbd fhbd chfo fhfo hB_p2 hB_p3 (by decide) hB_mn hI_ha hI_hbd hR) (cwV 4 hts gw_s_X12_hinges_s_X12_sum_257 rfl rfl rfl (by decide +kernel) ⟨Nat.le_of_ble_eq_true rfl, Nat.le_of_ble_eq_true rfl⟩) ⟨z_blind, va_recv hKc hPc (ci := 12) (q0 := 0) rfl rfl, z_pre hPc hKc hDc⟩ rfl rfl hl.1 rfl (lv_room (Nat.le_of_ble_eq_true rfl)) dX12_hinges_15 ⟨Nat.le_of_ble_eq_true rfl, Nat.le_of_ble_eq_true rfl⟩) hS (fun q _ h => hFc q h) hFc (fun r_5 u t H_4 locs ht hvm hw_6 hB hz1 hk1 hS => ?_)
  replace hP := z_pure hP hk1
  clear hPc hDc hKc
  refine lv_istore (lv' := [(5, .int r_5), (4, .int r_2), (0, .ref h0), (1, .int p1), (2, .int p2), (3, .int p3)]) hx hb dX12_hinges_18 hl (by decide) rfl (fun ls hl => ?_)
  refine lv_aload_n hx hb dX12_hinges_20 rfl (lv_at hl 2 rfl) ?_
  refine lv_iload_n hx hb dX12_hinges_21 rfl (lv_at hl 3 rfl) ?_
  refine lv_iload_n hx hb dX12_hinges_22 rfl (lv_at hl 4 rfl) ?_
  refine lv_iload_n hx hb dX12_hinges_23 rfl (lv_at hl 5 rfl) ?_
  refine lv_iconst (v := 2) hx hb dX12_hinges_24 (by decide) ?_
  obtain ⟨hPc, hDc⟩ := z_sub2 (ws' := [(h0, .inr (12, [h0_0, h0_1, h0_2, h0_3, .int mn, .ref hs, .ref ha, .ref hb9, h0_8, .ref hct, .ref hfo, .ref hbd, h0_12, h0_13, h0_14, h0_15, h0_16, h0_17, h0_18, h0_19, h0_20, h0_21, h0_22, h0_23, h0_24, .ref hv, h0_26, h0_27, h0_28, h0_29, h0_30, h0_31, h0_32, h0_33, h0_34, h0_35, h0_36, h0_37, h0_38, h0_39, h0_40, h0_41, h0_42, h0_43, h0_44, h0_45, h0_46, h0_47, h0_48, h0_49, h0_50, h0_51, h0_52, h0_53, h0_54, h0_55, h0_56, h0_57, h0_58, h0_59, h0_60, h0_61, h0_62, h0_63, h0_64, h0_65, h0_66, h0_67, h0_68, h0_69])), (hct, .inl (chct, 80, .inl fhct)), (hs, .inl (chs, 80, .inl fhs)), (ha, .inl (cha, 80, .inl fha)), (hb9, .inl (chb9, 80, .inl fhb9)), (hbd, .inl (chbd, 12, .inl fhbd)), (hfo, .inl (chfo, 11520, .inl fhfo))]) hP hD [0, 1, 2, 3, 4, 5, 6] (by decide) rfl
  have hKc := hK.sub (tys' := [(chct, .boolean), (chs, .int), (cha, .int), (chb9, .int), (chbd, .int), (chfo, .int)]) [0, 1, 2, 3, 4, 5] rfl
  have hFc := va_free (ws := []) (wc := []) (z_D0 _) hS hA [] rfl
  refine va_calli (va_runV (As := [.int p1, .int p2, .int p3, .int 2]) (rest := []) ⟨hx, hb, hml, hown, hts⟩ (s_X12_sum l dC dI H_4.size h0 p1 p2 p3 2 h0_0 h0_1 h0_2 h0_3 mn hs ha hb9 h0_8 hct hfo hbd h0_12 h0_13 h0_14 h0_15 h0_16 h0_17 h0_18 h0_19 h0_20 h0_21 h0_22 h0_23 h0_24 (.ref hv) h0_26 h0_27 h0_28 h0_29 h0_30 h0_31 h0_32 h0_33 h0_34 h0_35 h0_36 h0_37 h0_38 h0_39 h0_40 h0_41 h0_42 h0_43 h0_44 h0_45 h0_46 h0_47 h0_48 h0_49 h0_50 h0_51 h0_52 h0_53 h0_54 h0_55 h0_56 h0_57 h0_58 h0_59 h0_60 h0_61 h0_62 h0_63 h0_64 h0_65 h0_66 h0_67 h0_68 h0_69 chct fhct chs fhs cha fha chb9 fhb9 chbd fhbd chfo fhfo hB_p2 hB_p3 (by decide) hB_mn hI_ha hI_hbd hR) (cwV 4 hts gw_s_X12_hinges_s_X12_sum_257 rfl rfl rfl (by decide +kernel) ⟨Nat.le_of_ble_eq_true rfl, Nat.le_of_ble_eq_true rfl⟩) ⟨z_blind, va_recv hKc hPc (ci := 12) (q0 := 0) rfl rfl, z_pre hPc hKc hDc⟩ rfl rfl hl.1 rfl (lv_room (Nat.le_of_ble_eq_true rfl)) dX12_hinges_25 ⟨Nat.le_of_ble_eq_true rfl, Nat.le_of_ble_eq_true rfl⟩) hS (fun q _ h => hFc q h) hFc (fun r_8 u t H_7 locs ht hvm hw_9 hB hz1 hk1 hS => ?_)
  replace hP := z_pure hP hk1
  clear hPc hDc hKc
  refine lv_aload_n hx hb dX12_hinges_28 rfl (lv_at hl 2 rfl) ?_
  refine va_get (D := (dC, dI)) (ci := 12) (v := .ref hv) (C := RX12) (T := TX12) (N := 70) hx hb hts hiX12 hown hK hP 0 rfl rfl 25 (by decide) w__fieldLink_RX12_66_ShellHeapModel_valves_I_ (fun _ h9 => h9) rfl dX12_hinges_29 ?_
  refine lv_iload_n hx hb dX12_hinges_32 rfl (lv_at hl 4 rfl) ?_
  refine va_iald hx hb hK hP 7 6 rfl rfl (z_vpinB hB_p2 (by decide) (by decide)) dX12_hinges_33 ?_
  refine lv_topi (fun z_10 ez_10 => ?_)
  refine lv_iconst (v := 1) hx hb dX12_hinges_34 (by decide) ?_
  refine lv_icmp_ne (tgt := 46) hx hb dX12_hinges_35 (by decide) (fun c_11 => ?_) (fun c_11 => ?_)
  · have k_12 : (z_10).toInt ≠ (1 : Int) := z_ne c_11
    refine lv_iload hx hb dX12_hinges_46 (lv_at hl 1 rfl) ?_
    refine lv_iload hx hb dX12_hinges_48 (lv_at hl 0 rfl) ?_
    refine lv_icmp_le (tgt := 58) hx hb dX12_hinges_50 (by decide) (fun c_13 => ?_) (fun c_13 => ?_)
    · have k_14 : (r_2).toInt ≤ (r_5).toInt := z_le c_13
      refine lv_iload hx hb dX12_hinges_58 (lv_at hl 0 rfl) ?_
      refine lv_iadd hx hb dX12_hinges_60 ?_
      refine lv_topi (fun z_15 ez_15 => ?_)
      refine W.widen (k := 0) (n := 0) (Nat.le_of_ble_eq_true rfl) (Nat.le_of_ble_eq_true rfl) ?_
      exact W.iret (v := z_15) hx hb hr (fun t ht hW => ⟨⟨z_15, (), rfl, trivial, trivial⟩, hS.F ht⟩) hS.2.2 dX12_hinges_61
    · have k_16 : (r_2).toInt > (r_5).toInt := z_nle c_13
      refine lv_iload hx hb dX12_hinges_53 (lv_at hl 1 rfl) ?_
      refine lv_goto (tgt := 60) hx hb dX12_hinges_55 (by decide) ?_
      refine lv_iadd hx hb dX12_hinges_60 ?_
      refine lv_topi (fun z_17 ez_17 => ?_)
      refine W.widen (k := 0) (n := 0) (Nat.le_of_ble_eq_true rfl) (Nat.le_of_ble_eq_true rfl) ?_
      exact W.iret (v := z_17) hx hb hr (fun t ht hW => ⟨⟨z_17, (), rfl, trivial, trivial⟩, hS.F ht⟩) hS.2.2 dX12_hinges_61
  · have k_18 : (z_10).toInt = (1 : Int) := z_eq c_11
    obtain rfl : z_10 = 1 := z_eq' (show (z_10).toInt = (1 : Int) by omega)
    refine lv_iload hx hb dX12_hinges_38 (lv_at hl 1 rfl) ?_
    refine lv_iload hx hb dX12_hinges_40 (lv_at hl 0 rfl) ?_
    refine lv_iadd hx hb dX12_hinges_42 ?_
    refine lv_topi (fun z_20 ez_20 => ?_)
    refine lv_goto (tgt := 60) hx hb dX12_hinges_43 (by decide) ?_
    refine lv_iadd hx hb dX12_hinges_60 ?_
    refine lv_topi (fun z_21 ez_21 => ?_)
    refine W.widen (k := 0) (n := 0) (Nat.le_of_ble_eq_true rfl) (Nat.le_of_ble_eq_true rfl) ?_
    exact W.iret (v := z_21) hx hb hr (fun t ht hW => ⟨⟨z_21, (), rfl, trivial, trivial⟩, hS.F ht⟩) hS.2.2 dX12_hinges_61
def u_s_X12_least : List Cond := .code yX12_least cX12_least 6 (some .long) :: ([.methodLink RX12 261 yX12_hinges, .instanceMethod yX12_hinges, .selects RX12 yX12_hinges yX12_hinges, .initialized RX12] ++ (u_s_X12_hinges ++ []))
theorem gd_s_X12_least : z_gd u_s_X12_least := z_gdc (by decide +kernel) (z_gda gd_s_X12_hinges (z_gd0))
set_option maxRecDepth 20000 in
theorem gw_s_X12_least_s_X12_hinges_261 : GoodIn u_s_X12_least (wsV RX12 261 RX12 yX12_hinges u_s_X12_hinges) := z_gV (z_gr _ [1, 2, 3, 4] rfl (by decide +kernel)) (fun w h => ⟨z_mc (z_mr (z_ml h)), gd_s_X12_hinges w h⟩)
set_option maxHeartbeats 4000000 in
set_option maxRecDepth 100000 in
theorem s_X12_least (l : Launch) (dC : Nat → ClassId) (dI : Nat → Nat → Nat) (sz : Nat) (h0 : Nat) (p1 : Int32) (p2 : Int32) (h0_0 : Value) (h0_1 : Value) (h0_2 : Value) (h0_3 : Value) (mn : Int32) (hs : Nat) (ha : Nat) (hb9 : Nat) (h0_8 : Value) (hct : Nat) (hfo : Nat) (hbd : Nat) (h0_12 : Value) (h0_13 : Value) (h0_14 : Value) (h0_15 : Value) (h0_16 : Value) (h0_17 : Value) (h0_18 : Value) (h0_19 : Value) (h0_20 : Value) (h0_21 : Value) (h0_22 : Value) (h0_23 : Value) (h0_24 : Value) (hv : Nat) (h0_26 : Value) (h0_27 : Value) (h0_28 : Value) (h0_29 : Value) (h0_30 : Value) (h0_31 : Value) (h0_32 : Value) (h0_33 : Value) (h0_34 : Value) (h0_35 : Value) (h0_36 : Value) (h0_37 : Value) (h0_38 : Value) (h0_39 : Value) (h0_40 : Value) (h0_41 : Value) (h0_42 : Value) (h0_43 : Value) (h0_44 : Value) (h0_45 : Value) (h0_46 : Value) (h0_47 : Value) (h0_48 : Value) (h0_49 : Value) (h0_50 : Value) (h0_51 : Value) (h0_52 : Value) (h0_53 : Value) (h0_54 : Value) (h0_55 : Value) (h0_56 : Value) (h0_57 : Value) (h0_58 : Value) (h0_59 : Value) (h0_60 : Value) (h0_61 : Value) (h0_62 : Value) (h0_63 : Value) (h0_64 : Value) (h0_65 : Value) (h0_66 : Value) (h0_67 : Value) (h0_68 : Value) (h0_69 : Value) (chct : ClassId) (fhct : Nat → Int32) (chs : ClassId) (fhs : Nat → Int32) (cha : ClassId) (fha : Nat → Int32) (chb9 : ClassId) (fhb9 : Nat → Int32) (chbd : ClassId) (fhbd : Nat → Int32) (chfo : ClassId) (fhfo : Nat → Int32) (chv : ClassId) (fhv : Nat → Int32) (hB_p2 : ((0 : Int) ≤ (p2).toInt ∧ (p2).toInt ≤ (5 : Int))) (hB_mn : ((0 : Int) ≤ (mn).toInt ∧ (mn).toInt ≤ (80 : Int))) (hI_ha : ∀ j : Nat, ((0 : Int) ≤ (fha j).toInt ∧ (fha j).toInt ≤ (79 : Int))) (hI_hbd : ∀ j : Nat, ((0 : Int) ≤ (fhbd j).toInt ∧ (fhbd j).toInt ≤ (11 : Int))) (hR : ∀ j : Nat, z_relm (fhs j) (fha j) (fhb9 j)) : Met l yX12_least u_s_X12_least ({ frames := 2, cells := 0, slots := 0, locals := 51 }) (va_Pc [.ref h0, .int p1, .int p2] (z_C (dC, dI) vwCl [(h0, .inr (12, [h0_0, h0_1, h0_2, h0_3, .int mn, .ref hs, .ref ha, .ref hb9, h0_8, .ref hct, .ref hfo, .ref hbd, h0_12, h0_13, h0_14, h0_15, h0_16, h0_17, h0_18, h0_19, h0_20, h0_21, h0_22, h0_23, h0_24, .ref hv, h0_26, h0_27, h0_28, h0_29, h0_30, h0_31, h0_32, h0_33, h0_34, h0_35, h0_36, h0_37, h0_38, h0_39, h0_40, h0_41, h0_42, h0_43, h0_44, h0_45, h0_46, h0_47, h0_48, h0_49, h0_50, h0_51, h0_52, h0_53, h0_54, h0_55, h0_56, h0_57, h0_58, h0_59, h0_60, h0_61, h0_62, h0_63, h0_64, h0_65, h0_66, h0_67, h0_68, h0_69])), (hct, .inl (chct, 80, .inl fhct)), (hs, .inl (chs, 80, .inl fhs)), (ha, .inl (cha, 80, .inl fha)), (hb9, .inl (chb9, 80, .inl fhb9)), (hbd, .inl (chbd, 12, .inl fhbd)), (hfo, .inl (chfo, 11520, .inl fhfo)), (hv, .inl (chv, 6, .inl fhv))] [(chct, .boolean), (chs, .int), (cha, .int), (chb9, .int), (chbd, .int), (chfo, .int), (chv, .int)] sz)) (va_Ql (fun (r : Int64) (_ : Unit) => True) (fun (_ : Unit) (_ : State) => True) (va_A [] sz)) 0 0 (va_A [] sz) := by
  refine Met.ofW (cc := cX12_least) (maxL := 6) (ret := (some .long)) (by decide) rfl ?_
  intro p e s m args below meth c s₁ B hml hv
  obtain ⟨rfl, hsz, hP, hK, hD0⟩ := hv
  have hx := B.exec
  have hb := B.bytes
  have hr := B.returns
  have hts := atoms_spec (ws := u_s_X12_least) B.pre
  have hown : s.vm.findClass RX12 = some m.cls := findClass_of_methodNamed B.named
  have hlocks := B.notSynchronized
  subst hsz
  have hD := hD0
  generalize hAe : va_A [] s.heap.size = A
  have hA : ∀ q : Nat, s.heap.size ≤ q → A q := fun q h => by rw [← hAe]; exact Or.inr h
  have hS : va_S A s.heap s.heap [] := va_S.rf
  have hP : va_P (dC, dI) vwCl [(h0, .inr (12, [h0_0, h0_1, h0_2, h0_3, .int mn, .ref hs, .ref ha, .ref hb9, h0_8, .ref hct, .ref hfo, .ref hbd, h0_12, h0_13, h0_14, h0_15, h0_16, h0_17, h0_18, h0_19, h0_20, h0_21, h0_22, h0_23, h0_24, .ref hv, h0_26, h0_27, h0_28, h0_29, h0_30, h0_31, h0_32, h0_33, h0_34, h0_35, h0_36, h0_37, h0_38, h0_39, h0_40, h0_41, h0_42, h0_43, h0_44, h0_45, h0_46, h0_47, h0_48, h0_49, h0_50, h0_51, h0_52, h0_53, h0_54, h0_55, h0_56, h0_57, h0_58, h0_59, h0_60, h0_61, h0_62, h0_63, h0_64, h0_65, h0_66, h0_67, h0_68, h0_69])), (hct, .inl (chct, 80, .inl fhct)), (hs, .inl (chs, 80, .inl fhs)), (ha, .inl (cha, 80, .inl fha)), (hb9, .inl (chb9, 80, .inl fhb9)), (hbd, .inl (chbd, 12, .inl fhbd)), (hfo, .inl (chfo, 11520, .inl fhfo)), (hv, .inl (chv, 6, .inl fhv))] s.heap := hP
  have krr_p1 := z_rng p1
  have hl := lv_entry ([.ref h0, .int p1, .int p2]) (n := 6) (Nat.le_of_ble_eq_true rfl)
  rw [lg_entry_eq]
  generalize (lg_sl ([.ref h0, .int p1, .int p2]) ++ List.replicate (6 - (lg_sl ([.ref h0, .int p1, .int p2])).length) Slot.unset).toArray = ls at hl ⊢
  have hl : lv_has ls 6 [(0, .ref h0), (1, .int p1), (2, .int p2)] := hl
  refine z_nameQ (fun QQ hQQ => ?_)
  refine lv_lconst (v := 0) hx hb dX12_least_0 (by decide) ?_
  refine lv_lstore_n (lv' := [(3, .long 0), (0, .ref h0), (1, .int p1), (2, .int p2)]) hx hb dX12_least_1 rfl hl (by decide) rfl (fun ls hl => ?_)
  refine lv_iconst (v := 0) hx hb dX12_least_2 (by decide) ?_
  refine lv_istore (lv' := [(5, .int 0), (3, .long 0), (0, .ref h0), (1, .int p1), (2, .int p2)]) hx hb dX12_least_3 hl (by decide) rfl (fun ls hl => ?_)
  have loop_1 : ∀ (n_2 : Nat) (i_4 : Int32) (n_5 : Int64) (H : Heap) (locs : List Loc) (ls : Array Slot), (5 - (i_4).toInt).toNat < n_2 → (((0 : Int) ≤ (i_4).toInt ∧ (i_4).toInt ≤ (4 : Int))) → va_P (dC, dI) vwCl [(h0, .inr (12, [h0_0, h0_1, h0_2, h0_3, .int mn, .ref hs, .ref ha, .ref hb9, h0_8, .ref hct, .ref hfo, .ref hbd, h0_12, h0_13, h0_14, h0_15, h0_16, h0_17, h0_18, h0_19, h0_20, h0_21, h0_22, h0_23, h0_24, .ref hv, h0_26, h0_27, h0_28, h0_29, h0_30, h0_31, h0_32, h0_33, h0_34, h0_35, h0_36, h0_37, h0_38, h0_39, h0_40, h0_41, h0_42, h0_43, h0_44, h0_45, h0_46, h0_47, h0_48, h0_49, h0_50, h0_51, h0_52, h0_53, h0_54, h0_55, h0_56, h0_57, h0_58, h0_59, h0_60, h0_61, h0_62, h0_63, h0_64, h0_65, h0_66, h0_67, h0_68, h0_69])), (hct, .inl (chct, 80, .inl fhct)), (hs, .inl (chs, 80, .inl fhs)), (ha, .inl (cha, 80, .inl fha)), (hb9, .inl (chb9, 80, .inl fhb9)), (hbd, .inl (chbd, 12, .inl fhbd)), (hfo, .inl (chfo, 11520, .inl fhfo)), (hv, .inl (chv, 6, .inl fhv))] H → va_D (fun _ => True) [(h0, .inr (12, [h0_0, h0_1, h0_2, h0_3, .int mn, .ref hs, .ref ha, .ref hb9, h0_8, .ref hct, .ref hfo, .ref hbd, h0_12, h0_13, h0_14, h0_15, h0_16, h0_17, h0_18, h0_19, h0_20, h0_21, h0_22, h0_23, h0_24, .ref hv, h0_26, h0_27, h0_28, h0_29, h0_30, h0_31, h0_32, h0_33, h0_34, h0_35, h0_36, h0_37, h0_38, h0_39, h0_40, h0_41, h0_42, h0_43, h0_44, h0_45, h0_46, h0_47, h0_48, h0_49, h0_50, h0_51, h0_52, h0_53, h0_54, h0_55, h0_56, h0_57, h0_58, h0_59, h0_60, h0_61, h0_62, h0_63, h0_64, h0_65, h0_66, h0_67, h0_68, h0_69])), (hct, .inl (chct, 80, .inl fhct)), (hs, .inl (chs, 80, .inl fhs)), (ha, .inl (cha, 80, .inl fha)), (hb9, .inl (chb9, 80, .inl fhb9)), (hbd, .inl (chbd, 12, .inl fhbd)), (hfo, .inl (chfo, 11520, .inl fhfo)), (hv, .inl (chv, 6, .inl fhv))] → va_S A s.heap H locs → lv_has ls 6 [(5, .int i_4), (3, .long n_5), (0, .ref h0), (1, .int p1), (2, .int p2)] → W p l e ({ frames := 2, cells := 0, slots := 0, locals := 51 } : Room) s m ([.ref h0, .int p1, .int p2] : List Value).toArray below meth c H locs 0 0 QQ (F0 m 5 ls []) := by
    intro n_2
    induction n_2 with
    | zero => intro i_4 n_5 H locs ls hm; exact absurd hm (Nat.not_lt_zero _)
    | succ n_2 ih_3 =>
      intro i_4 n_5 H locs ls hm hF_6 hP hD hS hl
      refine lv_iload hx hb dX12_least_5 (lv_at hl 0 rfl) ?_
      refine lv_iconst (v := 4) hx hb dX12_least_7 (by decide) ?_
      refine lv_icmp_ge (tgt := 29) hx hb dX12_least_8 (by decide) (fun c_7 => ?_) (fun c_7 => ?_)
      · have k_8 : (4 : Int) ≤ (i_4).toInt := z_le c_7
        obtain rfl : i_4 = 4 := z_eq' (show (i_4).toInt = (4 : Int) by omega)
        refine lv_lload_n hx hb dX12_least_29 rfl (lv_at hl 1 rfl) ?_
        refine z_backQ hQQ ?_
        refine W.widen (k := 0) (n := 0) (Nat.le_of_ble_eq_true rfl) (Nat.le_of_ble_eq_true rfl) ?_
        exact W.lret (v := n_5) hx hb hr (fun t ht hW => ⟨⟨n_5, (), rfl, trivial, trivial⟩, hS.F ht⟩) hS.2.2 dX12_least_30
      · have k_10 : (4 : Int) > (i_4).toInt := z_nle c_7
        refine lv_lload_n hx hb dX12_least_11 rfl (lv_at hl 1 rfl) ?_
        refine lv_aload_n hx hb dX12_least_12 rfl (lv_at hl 2 rfl) ?_
        refine lv_iload_n hx hb dX12_least_13 rfl (lv_at hl 3 rfl) ?_
        refine lv_iload_n hx hb dX12_least_14 rfl (lv_at hl 4 rfl) ?_
        refine lv_iload hx hb dX12_least_15 (lv_at hl 0 rfl) ?_
        have hPc := hP
        have hDc := hD
        have hKc := hK
        have hFc := va_free (ws := []) (wc := []) (z_D0 _) hS hA [] rfl
        refine va_calli (va_runV (As := [.int p1, .int p2, .int i_4]) (rest := [.long n_5]) ⟨hx, hb, hml, hown, hts⟩ (s_X12_hinges l dC dI H.size h0 p1 p2 i_4 h0_0 h0_1 h0_2 h0_3 mn hs ha hb9 h0_8 hct hfo hbd h0_12 h0_13 h0_14 h0_15 h0_16 h0_17 h0_18 h0_19 h0_20 h0_21 h0_22 h0_23 h0_24 hv h0_26 h0_27 h0_28 h0_29 h0_30 h0_31 h0_32 h0_33 h0_34 h0_35 h0_36 h0_37 h0_38 h0_39 h0_40 h0_41 h0_42 h0_43 h0_44 h0_45 h0_46 h0_47 h0_48 h0_49 h0_50 h0_51 h0_52 h0_53 h0_54 h0_55 h0_56 h0_57 h0_58 h0_59 h0_60 h0_61 h0_62 h0_63 h0_64 h0_65 h0_66 h0_67 h0_68 h0_69 chct fhct chs fhs cha fha chb9 fhb9 chbd fhbd chfo fhfo chv fhv hB_p2 (by first | omega | decide) hB_mn hI_ha hI_hbd hR) (cwV 3 hts gw_s_X12_least_s_X12_hinges_261 rfl rfl rfl (by decide +kernel) ⟨Nat.le_of_ble_eq_true rfl, Nat.le_of_ble_eq_true rfl⟩) ⟨z_blind, va_recv hKc hPc (ci := 12) (q0 := 0) rfl rfl, z_pre hPc hKc hDc⟩ rfl rfl hl.1 rfl (lv_room (Nat.le_of_ble_eq_true rfl)) dX12_least_17 ⟨Nat.le_of_ble_eq_true rfl, Nat.le_of_ble_eq_true rfl⟩) hS (fun q _ h => hFc q h) hFc (fun r_12 u t H_11 locs ht hvm hw_13 hB hz1 hk1 hS => ?_)
        replace hP := z_pure hP hk1
        clear hPc hDc hKc
        refine lv_i2l hx hb dX12_least_20 rfl ?_
        refine lv_topl (fun z_14 ez_14 => ?_)
        have kz_14 : (z_14).toInt = (r_12).toInt := by rw [ez_14]; exact z_i2l _
        refine lv_ladd hx hb dX12_least_21 ?_
        refine lv_topl (fun z_15 ez_15 => ?_)
        refine lv_lstore_n (lv' := [(3, .long z_15), (5, .int i_4), (0, .ref h0), (1, .int p1), (2, .int p2)]) hx hb dX12_least_22 rfl hl (by decide) rfl (fun ls hl => ?_)
        obtain ⟨z_16, ez_16⟩ : ∃ y : Int32, y = i_4 + 1 := ⟨_, rfl⟩
        have kz_16 : (z_16).toInt = (i_4).toInt + (1 : Int) := by rw [ez_16]; exact z_add (b := 1) rfl rfl (z_al hF_6.1 (by decide)) (z_ah hF_6.2 (by decide))
        refine lv_iinc (v := z_16) (lv' := [(5, .int z_16), (3, .long z_15), (0, .ref h0), (1, .int p1), (2, .int p2)]) hx hb dX12_least_23 hl (k := 1) rfl (by rw [ez_16]; rfl) (by decide) rfl (fun ls hl => ?_)
        refine lv_goto (tgt := 5) hx hb dX12_least_26 (by decide) ?_
        exact ih_3 z_16 z_15 _ _ _ (show (5 - (z_16).toInt).toNat < n_2 by omega) (show ((0 : Int) ≤ (z_16).toInt ∧ (z_16).toInt ≤ (4 : Int)) by omega) hP hD hS (lv_sub hl [0, 1, 2, 3, 4] rfl)
  exact loop_1 _ 0 0 _ _ _ (Nat.lt_succ_self _) (show ((0 : Int) ≤ (0 : Int) ∧ (0 : Int) ≤ (4 : Int)) by omega) hP hD hS hl
def u_s_X12_righted : List Cond := .code yX12_righted cX12_righted 6 (some .long) :: ([.constantLong RX12 266 (720720), .methodLink RX12 261 yX12_hinges, .instanceMethod yX12_hinges, .selects RX12 yX12_hinges yX12_hinges, .initialized RX12, .constantLong RX12 264 (16), .fieldLink RX12 69 "ShellHeapModel" "keptOf" "[I"] ++ (wsX120 ++ (u_s_X12_hinges ++ [])))
theorem gd_s_X12_righted : z_gd u_s_X12_righted := z_gdc (by decide +kernel) (z_gda gdX12 (z_gda gd_s_X12_hinges (z_gd0)))
set_option maxRecDepth 20000 in
theorem gw_s_X12_righted_s_X12_hinges_261 : GoodIn u_s_X12_righted (wsV RX12 261 RX12 yX12_hinges u_s_X12_hinges) := z_gV (z_gr _ [2, 3, 4, 5] rfl (by decide +kernel)) (fun w h => ⟨z_mc (z_mr (z_mr (z_ml h))), gd_s_X12_hinges w h⟩)
set_option maxHeartbeats 4000000 in
set_option maxRecDepth 100000 in
theorem s_X12_righted (l : Launch) (dC : Nat → ClassId) (dI : Nat → Nat → Nat) (sz : Nat) (h0 : Nat) (p1 : Int32) (p2 : Int32) (h0_0 : Value) (h0_1 : Value) (h0_2 : Value) (h0_3 : Value) (mn : Int32) (hs : Nat) (ha : Nat) (hb9 : Nat) (h0_8 : Value) (hct : Nat) (hfo : Nat) (hbd : Nat) (h0_12 : Value) (h0_13 : Value) (h0_14 : Value) (h0_15 : Value) (h0_16 : Value) (h0_17 : Value) (h0_18 : Value) (h0_19 : Value) (h0_20 : Value) (h0_21 : Value) (h0_22 : Value) (h0_23 : Value) (h0_24 : Value) (hv : Nat) (hkp : Nat) (h0_27 : Value) (h0_28 : Value) (h0_29 : Value) (h0_30 : Value) (h0_31 : Value) (h0_32 : Value) (h0_33 : Value) (h0_34 : Value) (h0_35 : Value) (h0_36 : Value) (h0_37 : Value) (h0_38 : Value) (h0_39 : Value) (h0_40 : Value) (h0_41 : Value) (h0_42 : Value) (h0_43 : Value) (h0_44 : Value) (h0_45 : Value) (h0_46 : Value) (h0_47 : Value) (h0_48 : Value) (h0_49 : Value) (h0_50 : Value) (h0_51 : Value) (h0_52 : Value) (h0_53 : Value) (h0_54 : Value) (h0_55 : Value) (h0_56 : Value) (h0_57 : Value) (h0_58 : Value) (h0_59 : Value) (h0_60 : Value) (h0_61 : Value) (h0_62 : Value) (h0_63 : Value) (h0_64 : Value) (h0_65 : Value) (h0_66 : Value) (h0_67 : Value) (h0_68 : Value) (h0_69 : Value) (chct : ClassId) (fhct : Nat → Int32) (chs : ClassId) (fhs : Nat → Int32) (cha : ClassId) (fha : Nat → Int32) (chb9 : ClassId) (fhb9 : Nat → Int32) (chbd : ClassId) (fhbd : Nat → Int32) (chfo : ClassId) (fhfo : Nat → Int32) (chv : ClassId) (fhv : Nat → Int32) (chkp : ClassId) (fhkp : Nat → Int32) (hB_p2 : ((0 : Int) ≤ (p2).toInt ∧ (p2).toInt ≤ (5 : Int))) (hB_mn : ((0 : Int) ≤ (mn).toInt ∧ (mn).toInt ≤ (80 : Int))) (hI_ha : ∀ j : Nat, ((0 : Int) ≤ (fha j).toInt ∧ (fha j).toInt ≤ (79 : Int))) (hI_hbd : ∀ j : Nat, ((0 : Int) ≤ (fhbd j).toInt ∧ (fhbd j).toInt ≤ (11 : Int))) (hI_hkp : ∀ j : Nat, ((1 : Int) ≤ (fhkp j).toInt ∧ (fhkp j).toInt ≤ (16 : Int))) (hR : ∀ j : Nat, z_relm (fhs j) (fha j) (fhb9 j)) : Met l yX12_righted u_s_X12_righted ({ frames := 2, cells := 0, slots := 0, locals := 51 }) (va_Pc [.ref h0, .int p1, .int p2] (z_C (dC, dI) vwCl [(h0, .inr (12, [h0_0, h0_1, h0_2, h0_3, .int mn, .ref hs, .ref ha, .ref hb9, h0_8, .ref hct, .ref hfo, .ref hbd, h0_12, h0_13, h0_14, h0_15, h0_16, h0_17, h0_18, h0_19, h0_20, h0_21, h0_22, h0_23, h0_24, .ref hv, .ref hkp, h0_27, h0_28, h0_29, h0_30, h0_31, h0_32, h0_33, h0_34, h0_35, h0_36, h0_37, h0_38, h0_39, h0_40, h0_41, h0_42, h0_43, h0_44, h0_45, h0_46, h0_47, h0_48, h0_49, h0_50, h0_51, h0_52, h0_53, h0_54, h0_55, h0_56, h0_57, h0_58, h0_59, h0_60, h0_61, h0_62, h0_63, h0_64, h0_65, h0_66, h0_67, h0_68, h0_69])), (hct, .inl (chct, 80, .inl fhct)), (hs, .inl (chs, 80, .inl fhs)), (ha, .inl (cha, 80, .inl fha)), (hb9, .inl (chb9, 80, .inl fhb9)), (hbd, .inl (chbd, 12, .inl fhbd)), (hfo, .inl (chfo, 11520, .inl fhfo)), (hv, .inl (chv, 6, .inl fhv)), (hkp, .inl (chkp, 24, .inl fhkp))] [(chct, .boolean), (chs, .int), (cha, .int), (chb9, .int), (chbd, .int), (chfo, .int), (chv, .int), (chkp, .int)] sz)) (va_Ql (fun (r : Int64) (_ : Unit) => True) (fun (_ : Unit) (_ : State) => True) (va_A [] sz)) 0 0 (va_A [] sz) := by
  refine Met.ofW (cc := cX12_righted) (maxL := 6) (ret := (some .long)) (by decide) rfl ?_
  intro p e s m args below meth c s₁ B hml hv
  obtain ⟨rfl, hsz, hP, hK, hD0⟩ := hv
  have hx := B.exec
  have hb := B.bytes
  have hr := B.returns
  have hts := atoms_spec (ws := u_s_X12_righted) B.pre
  have hown : s.vm.findClass RX12 = some m.cls := findClass_of_methodNamed B.named
  have hlocks := B.notSynchronized
  subst hsz
  have hD := hD0
  generalize hAe : va_A [] s.heap.size = A
  have hA : ∀ q : Nat, s.heap.size ≤ q → A q := fun q h => by rw [← hAe]; exact Or.inr h
  have hS : va_S A s.heap s.heap [] := va_S.rf
  have hP : va_P (dC, dI) vwCl [(h0, .inr (12, [h0_0, h0_1, h0_2, h0_3, .int mn, .ref hs, .ref ha, .ref hb9, h0_8, .ref hct, .ref hfo, .ref hbd, h0_12, h0_13, h0_14, h0_15, h0_16, h0_17, h0_18, h0_19, h0_20, h0_21, h0_22, h0_23, h0_24, .ref hv, .ref hkp, h0_27, h0_28, h0_29, h0_30, h0_31, h0_32, h0_33, h0_34, h0_35, h0_36, h0_37, h0_38, h0_39, h0_40, h0_41, h0_42, h0_43, h0_44, h0_45, h0_46, h0_47, h0_48, h0_49, h0_50, h0_51, h0_52, h0_53, h0_54, h0_55, h0_56, h0_57, h0_58, h0_59, h0_60, h0_61, h0_62, h0_63, h0_64, h0_65, h0_66, h0_67, h0_68, h0_69])), (hct, .inl (chct, 80, .inl fhct)), (hs, .inl (chs, 80, .inl fhs)), (ha, .inl (cha, 80, .inl fha)), (hb9, .inl (chb9, 80, .inl fhb9)), (hbd, .inl (chbd, 12, .inl fhbd)), (hfo, .inl (chfo, 11520, .inl fhfo)), (hv, .inl (chv, 6, .inl fhv)), (hkp, .inl (chkp, 24, .inl fhkp))] s.heap := hP
  have w__constantLong_RX12_266_720720_ := hts (.constantLong RX12 266 (720720)) (z_mc (z_ml z_m0))
  have w__constantLong_RX12_264_16_ := hts (.constantLong RX12 264 (16)) (z_mc (z_ml z_m5))
  have w__fieldLink_RX12_69_ShellHeapModel_keptOf_I_ := hts (.fieldLink RX12 69 "ShellHeapModel" "keptOf" "[I") (z_mc (z_ml z_m6))
  have hiX12 := show ∀ w ∈ u_ws RX12 TX12 70, w ∈ u_s_X12_righted from fun w h => z_mc (z_mr (z_ml h))
  have krr_p1 := z_rng p1
  have hl := lv_entry ([.ref h0, .int p1, .int p2]) (n := 6) (Nat.le_of_ble_eq_true rfl)
  rw [lg_entry_eq]
  generalize (lg_sl ([.ref h0, .int p1, .int p2]) ++ List.replicate (6 - (lg_sl ([.ref h0, .int p1, .int p2])).length) Slot.unset).toArray = ls at hl ⊢
  have hl : lv_has ls 6 [(0, .ref h0), (1, .int p1), (2, .int p2)] := hl
  refine z_nameQ (fun QQ hQQ => ?_)
  refine lv_lconst (v := 0) hx hb dX12_righted_0 (by decide) ?_
  refine lv_lstore_n (lv' := [(3, .long 0), (0, .ref h0), (1, .int p1), (2, .int p2)]) hx hb dX12_righted_1 rfl hl (by decide) rfl (fun ls hl => ?_)
  refine lv_iconst (v := 0) hx hb dX12_righted_2 (by decide) ?_
  refine lv_istore (lv' := [(5, .int 0), (3, .long 0), (0, .ref h0), (1, .int p1), (2, .int p2)]) hx hb dX12_righted_3 hl (by decide) rfl (fun ls hl => ?_)
  have loop_1 : ∀ (n_2 : Nat) (i_4 : Int32) (n_5 : Int64) (H : Heap) (locs : List Loc) (ls : Array Slot), (5 - (i_4).toInt).toNat < n_2 → (((0 : Int) ≤ (i_4).toInt ∧ (i_4).toInt ≤ (4 : Int))) → va_P (dC, dI) vwCl [(h0, .inr (12, [h0_0, h0_1, h0_2, h0_3, .int mn, .ref hs, .ref ha, .ref hb9, h0_8, .ref hct, .ref hfo, .ref hbd, h0_12, h0_13, h0_14, h0_15, h0_16, h0_17, h0_18, h0_19, h0_20, h0_21, h0_22, h0_23, h0_24, .ref hv, .ref hkp, h0_27, h0_28, h0_29, h0_30, h0_31, h0_32, h0_33, h0_34, h0_35, h0_36, h0_37, h0_38, h0_39, h0_40, h0_41, h0_42, h0_43, h0_44, h0_45, h0_46, h0_47, h0_48, h0_49, h0_50, h0_51, h0_52, h0_53, h0_54, h0_55, h0_56, h0_57, h0_58, h0_59, h0_60, h0_61, h0_62, h0_63, h0_64, h0_65, h0_66, h0_67, h0_68, h0_69])), (hct, .inl (chct, 80, .inl fhct)), (hs, .inl (chs, 80, .inl fhs)), (ha, .inl (cha, 80, .inl fha)), (hb9, .inl (chb9, 80, .inl fhb9)), (hbd, .inl (chbd, 12, .inl fhbd)), (hfo, .inl (chfo, 11520, .inl fhfo)), (hv, .inl (chv, 6, .inl fhv)), (hkp, .inl (chkp, 24, .inl fhkp))] H → va_D (fun _ => True) [(h0, .inr (12, [h0_0, h0_1, h0_2, h0_3, .int mn, .ref hs, .ref ha, .ref hb9, h0_8, .ref hct, .ref hfo, .ref hbd, h0_12, h0_13, h0_14, h0_15, h0_16, h0_17, h0_18, h0_19, h0_20, h0_21, h0_22, h0_23, h0_24, .ref hv, .ref hkp, h0_27, h0_28, h0_29, h0_30, h0_31, h0_32, h0_33, h0_34, h0_35, h0_36, h0_37, h0_38, h0_39, h0_40, h0_41, h0_42, h0_43, h0_44, h0_45, h0_46, h0_47, h0_48, h0_49, h0_50, h0_51, h0_52, h0_53, h0_54, h0_55, h0_56, h0_57, h0_58, h0_59, h0_60, h0_61, h0_62, h0_63, h0_64, h0_65, h0_66, h0_67, h0_68, h0_69])), (hct, .inl (chct, 80, .inl fhct)), (hs, .inl (chs, 80, .inl fhs)), (ha, .inl (cha, 80, .inl fha)), (hb9, .inl (chb9, 80, .inl fhb9)), (hbd, .inl (chbd, 12, .inl fhbd)), (hfo, .inl (chfo, 11520, .inl fhfo)), (hv, .inl (chv, 6, .inl fhv)), (hkp, .inl (chkp, 24, .inl fhkp))] → va_S A s.heap H locs → lv_has ls 6 [(5, .int i_4), (3, .long n_5), (0, .ref h0), (1, .int p1), (2, .int p2)] → W p l e ({ frames := 2, cells := 0, slots := 0, locals := 51 } : Room) s m ([.ref h0, .int p1, .int p2] : List Value).toArray below meth c H locs 0 0 QQ (F0 m 5 ls []) := by
    intro n_2
    induction n_2 with
    | zero => intro i_4 n_5 H locs ls hm; exact absurd hm (Nat.not_lt_zero _)
    | succ n_2 ih_3 =>
      intro i_4 n_5 H locs ls hm hF_6 hP hD hS hl
      refine lv_iload hx hb dX12_righted_5 (lv_at hl 0 rfl) ?_
      refine lv_iconst (v := 4) hx hb dX12_righted_7 (by decide) ?_
      refine lv_icmp_ge (tgt := 50) hx hb dX12_righted_8 (by decide) (fun c_7 => ?_) (fun c_7 => ?_)
      · have k_8 : (4 : Int) ≤ (i_4).toInt := z_le c_7
        obtain rfl : i_4 = 4 := z_eq' (show (i_4).toInt = (4 : Int) by omega)
        refine lv_lload_n hx hb dX12_righted_50 rfl (lv_at hl 1 rfl) ?_
        refine lv_ldc2 (v := 720720) hx hb hown w__constantLong_RX12_266_720720_ dX12_righted_51 ?_
        refine lv_ldiv hx hb dX12_righted_54 (by decide) ?_
        refine lv_topl (fun z_10 ez_10 => ?_)
        refine z_backQ hQQ ?_
        refine W.widen (k := 0) (n := 0) (Nat.le_of_ble_eq_true rfl) (Nat.le_of_ble_eq_true rfl) ?_
        exact W.lret (v := z_10) hx hb hr (fun t ht hW => ⟨⟨z_10, (), rfl, trivial, trivial⟩, hS.F ht⟩) hS.2.2 dX12_righted_55
      · have k_11 : (4 : Int) > (i_4).toInt := z_nle c_7
        refine lv_lload_n hx hb dX12_righted_11 rfl (lv_at hl 1 rfl) ?_
        refine lv_aload_n hx hb dX12_righted_12 rfl (lv_at hl 2 rfl) ?_
        refine lv_iload_n hx hb dX12_righted_13 rfl (lv_at hl 3 rfl) ?_
        refine lv_iload_n hx hb dX12_righted_14 rfl (lv_at hl 4 rfl) ?_
        refine lv_iload hx hb dX12_righted_15 (lv_at hl 0 rfl) ?_
        obtain ⟨hPc, hDc⟩ := z_sub2 (ws' := [(h0, .inr (12, [h0_0, h0_1, h0_2, h0_3, .int mn, .ref hs, .ref ha, .ref hb9, h0_8, .ref hct, .ref hfo, .ref hbd, h0_12, h0_13, h0_14, h0_15, h0_16, h0_17, h0_18, h0_19, h0_20, h0_21, h0_22, h0_23, h0_24, .ref hv, .ref hkp, h0_27, h0_28, h0_29, h0_30, h0_31, h0_32, h0_33, h0_34, h0_35, h0_36, h0_37, h0_38, h0_39, h0_40, h0_41, h0_42, h0_43, h0_44, h0_45, h0_46, h0_47, h0_48, h0_49, h0_50, h0_51, h0_52, h0_53, h0_54, h0_55, h0_56, h0_57, h0_58, h0_59, h0_60, h0_61, h0_62, h0_63, h0_64, h0_65, h0_66, h0_67, h0_68, h0_69])), (hct, .inl (chct, 80, .inl fhct)), (hs, .inl (chs, 80, .inl fhs)), (ha, .inl (cha, 80, .inl fha)), (hb9, .inl (chb9, 80, .inl fhb9)), (hbd, .inl (chbd, 12, .inl fhbd)), (hfo, .inl (chfo, 11520, .inl fhfo)), (hv, .inl (chv, 6, .inl fhv))]) hP hD [0, 1, 2, 3, 4, 5, 6, 7] (by decide) rfl
        have hKc := hK.sub (tys' := [(chct, .boolean), (chs, .int), (cha, .int), (chb9, .int), (chbd, .int), (chfo, .int), (chv, .int)]) [0, 1, 2, 3, 4, 5, 6] rfl
        have hFc := va_free (ws := []) (wc := []) (z_D0 _) hS hA [] rfl
        refine va_calli (va_runV (As := [.int p1, .int p2, .int i_4]) (rest := [.long n_5]) ⟨hx, hb, hml, hown, hts⟩ (s_X12_hinges l dC dI H.size h0 p1 p2 i_4 h0_0 h0_1 h0_2 h0_3 mn hs ha hb9 h0_8 hct hfo hbd h0_12 h0_13 h0_14 h0_15 h0_16 h0_17 h0_18 h0_19 h0_20 h0_21 h0_22 h0_23 h0_24 hv (.ref hkp) h0_27 h0_28 h0_29 h0_30 h0_31 h0_32 h0_33 h0_34 h0_35 h0_36 h0_37 h0_38 h0_39 h0_40 h0_41 h0_42 h0_43 h0_44 h0_45 h0_46 h0_47 h0_48 h0_49 h0_50 h0_51 h0_52 h0_53 h0_54 h0_55 h0_56 h0_57 h0_58 h0_59 h0_60 h0_61 h0_62 h0_63 h0_64 h0_65 h0_66 h0_67 h0_68 h0_69 chct fhct chs fhs cha fha chb9 fhb9 chbd fhbd chfo fhfo chv fhv hB_p2 (by first | omega | decide) hB_mn hI_ha hI_hbd hR) (cwV 3 hts gw_s_X12_righted_s_X12_hinges_261 rfl rfl rfl (by decide +kernel) ⟨Nat.le_of_ble_eq_true rfl, Nat.le_of_ble_eq_true rfl⟩) ⟨z_blind, va_recv hKc hPc (ci := 12) (q0 := 0) rfl rfl, z_pre hPc hKc hDc⟩ rfl rfl hl.1 rfl (lv_room (Nat.le_of_ble_eq_true rfl)) dX12_righted_17 ⟨Nat.le_of_ble_eq_true rfl, Nat.le_of_ble_eq_true rfl⟩) hS (fun q _ h => hFc q h) hFc (fun r_13 u t H_12 locs ht hvm hw_14 hB hz1 hk1 hS => ?_)
        replace hP := z_pure hP hk1
        clear hPc hDc hKc
        refine lv_i2l hx hb dX12_righted_20 rfl ?_
        refine lv_topl (fun z_15 ez_15 => ?_)
        have kz_15 : (z_15).toInt = (r_13).toInt := by rw [ez_15]; exact z_i2l _
        refine lv_ldc2 (v := 16) hx hb hown w__constantLong_RX12_264_16_ dX12_righted_21 ?_
        refine lv_lmul hx hb dX12_righted_24 ?_
        refine lv_topl (fun z_16 ez_16 => ?_)
        refine lv_ldc2 (v := 720720) hx hb hown w__constantLong_RX12_266_720720_ dX12_righted_25 ?_
        refine lv_aload_n hx hb dX12_righted_28 rfl (lv_at hl 2 rfl) ?_
        refine va_get (D := (dC, dI)) (ci := 12) (v := .ref hkp) (C := RX12) (T := TX12) (N := 70) hx hb hts hiX12 hown hK hP 0 rfl rfl 26 (by decide) w__fieldLink_RX12_69_ShellHeapModel_keptOf_I_ (fun _ h9 => h9) rfl dX12_righted_29 ?_
        refine lv_iconst (v := 4) hx hb dX12_righted_32 (by decide) ?_
        refine lv_iload_n hx hb dX12_righted_33 rfl (lv_at hl 4 rfl) ?_
        refine lv_imul hx hb dX12_righted_34 ?_
        refine lv_topi (fun z_17 ez_17 => ?_)
        have kz_17 : (z_17).toInt = (4 : Int) * (p2).toInt := by rw [ez_17]; exact z_mul (a := (4 : Int)) (b := (p2).toInt) rfl rfl (by omega) (by omega)
        refine lv_iload hx hb dX12_righted_35 (lv_at hl 0 rfl) ?_
        refine lv_iadd hx hb dX12_righted_37 ?_
        refine lv_topi (fun z_18 ez_18 => ?_)
        have kz_18 : (z_18).toInt = (z_17).toInt + (i_4).toInt := by rw [ez_18]; exact z_add (a := (z_17).toInt) (b := (i_4).toInt) rfl rfl (by omega) (by omega)
        refine va_iald hx hb hK hP 8 7 rfl rfl (z_vpin (by omega) (by omega)) dX12_righted_38 ?_
        refine lv_topi (fun z_19 ez_19 => ?_)
        have kz_19 : ((1 : Int) ≤ (z_19).toInt ∧ (z_19).toInt ≤ (16 : Int)) := by rw [ez_19]; exact hI_hkp _
        refine lv_i2l hx hb dX12_righted_39 rfl ?_
        refine lv_topl (fun z_20 ez_20 => ?_)
        have kz_20 : (z_20).toInt = (z_19).toInt := by rw [ez_20]; exact z_i2l _
        refine lv_ldiv hx hb dX12_righted_40 (fun q => absurd (show (z_20).toInt = (0 : Int) from congrArg Int64.toInt q) (by omega)) ?_
        refine lv_topl (fun z_21 ez_21 => ?_)
        refine lv_lmul hx hb dX12_righted_41 ?_
        refine lv_topl (fun z_22 ez_22 => ?_)
        refine lv_ladd hx hb dX12_righted_42 ?_
        refine lv_topl (fun z_23 ez_23 => ?_)
        refine lv_lstore_n (lv' := [(3, .long z_23), (5, .int i_4), (0, .ref h0), (1, .int p1), (2, .int p2)]) hx hb dX12_righted_43 rfl hl (by decide) rfl (fun ls hl => ?_)
        obtain ⟨z_24, ez_24⟩ : ∃ y : Int32, y = i_4 + 1 := ⟨_, rfl⟩
        have kz_24 : (z_24).toInt = (i_4).toInt + (1 : Int) := by rw [ez_24]; exact z_add (b := 1) rfl rfl (z_al hF_6.1 (by decide)) (z_ah hF_6.2 (by decide))
        refine lv_iinc (v := z_24) (lv' := [(5, .int z_24), (3, .long z_23), (0, .ref h0), (1, .int p1), (2, .int p2)]) hx hb dX12_righted_44 hl (k := 1) rfl (by rw [ez_24]; rfl) (by decide) rfl (fun ls hl => ?_)
        refine lv_goto (tgt := 5) hx hb dX12_righted_47 (by decide) ?_
        exact ih_3 z_24 z_23 _ _ _ (show (5 - (z_24).toInt).toNat < n_2 by omega) (show ((0 : Int) ≤ (z_24).toInt ∧ (z_24).toInt ≤ (4 : Int)) by omega) hP hD hS (lv_sub hl [0, 1, 2, 3, 4] rfl)
  exact loop_1 _ 0 0 _ _ _ (Nat.lt_succ_self _) (show ((0 : Int) ≤ (0 : Int) ∧ (0 : Int) ≤ (4 : Int)) by omega) hP hD hS hl
def u_s_X12_food : List Cond := .code yX12_food cX12_food 5 (some .long) :: ([.fieldLink RX12 192 "ShellHeapModel" "kinds" "I", .methodLink RX12 268 yX12_righted, .instanceMethod yX12_righted, .selects RX12 yX12_righted yX12_righted, .initialized RX12, .fieldLink RX12 63 "ShellHeapModel" "meat" "[I"] ++ (wsX120 ++ (u_s_X12_righted ++ [])))
theorem gd_s_X12_food : z_gd u_s_X12_food := z_gdc (by decide +kernel) (z_gda gdX12 (z_gda gd_s_X12_righted (z_gd0)))
set_option maxRecDepth 20000 in
theorem gw_s_X12_food_s_X12_righted_268 : GoodIn u_s_X12_food (wsV RX12 268 RX12 yX12_righted u_s_X12_righted) := z_gV (z_gr _ [2, 3, 4, 5] rfl (by decide +kernel)) (fun w h => ⟨z_mc (z_mr (z_mr (z_ml h))), gd_s_X12_righted w h⟩)
set_option maxHeartbeats 4000000 in
set_option maxRecDepth 100000 in
theorem s_X12_food (l : Launch) (dC : Nat → ClassId) (dI : Nat → Nat → Nat) (sz : Nat) (h0 : Nat) (p1 : Int32) (h0_0 : Value) (h0_1 : Value) (h0_2 : Value) (h0_3 : Value) (mn : Int32) (hs : Nat) (ha : Nat) (hb9 : Nat) (h0_8 : Value) (hct : Nat) (hfo : Nat) (hbd : Nat) (h0_12 : Value) (h0_13 : Value) (h0_14 : Value) (h0_15 : Value) (h0_16 : Value) (h0_17 : Value) (h0_18 : Value) (h0_19 : Value) (h0_20 : Value) (h0_21 : Value) (h0_22 : Value) (mk : Int32) (hme : Nat) (hv : Nat) (hkp : Nat) (h0_27 : Value) (h0_28 : Value) (h0_29 : Value) (h0_30 : Value) (h0_31 : Value) (h0_32 : Value) (h0_33 : Value) (h0_34 : Value) (h0_35 : Value) (h0_36 : Value) (h0_37 : Value) (h0_38 : Value) (h0_39 : Value) (h0_40 : Value) (h0_41 : Value) (h0_42 : Value) (h0_43 : Value) (h0_44 : Value) (h0_45 : Value) (h0_46 : Value) (h0_47 : Value) (h0_48 : Value) (h0_49 : Value) (h0_50 : Value) (h0_51 : Value) (h0_52 : Value) (h0_53 : Value) (h0_54 : Value) (h0_55 : Value) (h0_56 : Value) (h0_57 : Value) (h0_58 : Value) (h0_59 : Value) (h0_60 : Value) (h0_61 : Value) (h0_62 : Value) (h0_63 : Value) (h0_64 : Value) (h0_65 : Value) (h0_66 : Value) (h0_67 : Value) (h0_68 : Value) (h0_69 : Value) (chct : ClassId) (fhct : Nat → Int32) (chs : ClassId) (fhs : Nat → Int32) (cha : ClassId) (fha : Nat → Int32) (chb9 : ClassId) (fhb9 : Nat → Int32) (chbd : ClassId) (fhbd : Nat → Int32) (chfo : ClassId) (fhfo : Nat → Int32) (chv : ClassId) (fhv : Nat → Int32) (chkp : ClassId) (fhkp : Nat → Int32) (chme : ClassId) (fhme : Nat → Int32) (hB_mn : ((0 : Int) ≤ (mn).toInt ∧ (mn).toInt ≤ (80 : Int))) (hB_mk : ((0 : Int) ≤ (mk).toInt ∧ (mk).toInt ≤ (6 : Int))) (hI_ha : ∀ j : Nat, ((0 : Int) ≤ (fha j).toInt ∧ (fha j).toInt ≤ (79 : Int))) (hI_hbd : ∀ j : Nat, ((0 : Int) ≤ (fhbd j).toInt ∧ (fhbd j).toInt ≤ (11 : Int))) (hI_hkp : ∀ j : Nat, ((1 : Int) ≤ (fhkp j).toInt ∧ (fhkp j).toInt ≤ (16 : Int))) (hR : ∀ j : Nat, z_relm (fhs j) (fha j) (fhb9 j)) : Met l yX12_food u_s_X12_food ({ frames := 3, cells := 0, slots := 0, locals := 76 }) (va_Pc [.ref h0, .int p1] (z_C (dC, dI) vwCl [(h0, .inr (12, [h0_0, h0_1, h0_2, h0_3, .int mn, .ref hs, .ref ha, .ref hb9, h0_8, .ref hct, .ref hfo, .ref hbd, h0_12, h0_13, h0_14, h0_15, h0_16, h0_17, h0_18, h0_19, h0_20, h0_21, h0_22, .int mk, .ref hme, .ref hv, .ref hkp, h0_27, h0_28, h0_29, h0_30, h0_31, h0_32, h0_33, h0_34, h0_35, h0_36, h0_37, h0_38, h0_39, h0_40, h0_41, h0_42, h0_43, h0_44, h0_45, h0_46, h0_47, h0_48, h0_49, h0_50, h0_51, h0_52, h0_53, h0_54, h0_55, h0_56, h0_57, h0_58, h0_59, h0_60, h0_61, h0_62, h0_63, h0_64, h0_65, h0_66, h0_67, h0_68, h0_69])), (hct, .inl (chct, 80, .inl fhct)), (hs, .inl (chs, 80, .inl fhs)), (ha, .inl (cha, 80, .inl fha)), (hb9, .inl (chb9, 80, .inl fhb9)), (hbd, .inl (chbd, 12, .inl fhbd)), (hfo, .inl (chfo, 11520, .inl fhfo)), (hv, .inl (chv, 6, .inl fhv)), (hkp, .inl (chkp, 24, .inl fhkp)), (hme, .inl (chme, 6, .inl fhme))] [(chct, .boolean), (chs, .int), (cha, .int), (chb9, .int), (chbd, .int), (chfo, .int), (chv, .int), (chkp, .int), (chme, .int)] sz)) (va_Ql (fun (r : Int64) (_ : Unit) => True) (fun (_ : Unit) (_ : State) => True) (va_A [] sz)) 0 0 (va_A [] sz) := by
  refine Met.ofW (cc := cX12_food) (maxL := 5) (ret := (some .long)) (by decide) rfl ?_
  intro p e s m args below meth c s₁ B hml hv
  obtain ⟨rfl, hsz, hP, hK, hD0⟩ := hv
  have hx := B.exec
  have hb := B.bytes
  have hr := B.returns
  have hts := atoms_spec (ws := u_s_X12_food) B.pre
  have hown : s.vm.findClass RX12 = some m.cls := findClass_of_methodNamed B.named
  have hlocks := B.notSynchronized
  subst hsz
  have hD := hD0
  generalize hAe : va_A [] s.heap.size = A
  have hA : ∀ q : Nat, s.heap.size ≤ q → A q := fun q h => by rw [← hAe]; exact Or.inr h
  have hS : va_S A s.heap s.heap [] := va_S.rf
  have hP : va_P (dC, dI) vwCl [(h0, .inr (12, [h0_0, h0_1, h0_2, h0_3, .int mn, .ref hs, .ref ha, .ref hb9, h0_8, .ref hct, .ref hfo, .ref hbd, h0_12, h0_13, h0_14, h0_15, h0_16, h0_17, h0_18, h0_19, h0_20, h0_21, h0_22, .int mk, .ref hme, .ref hv, .ref hkp, h0_27, h0_28, h0_29, h0_30, h0_31, h0_32, h0_33, h0_34, h0_35, h0_36, h0_37, h0_38, h0_39, h0_40, h0_41, h0_42, h0_43, h0_44, h0_45, h0_46, h0_47, h0_48, h0_49, h0_50, h0_51, h0_52, h0_53, h0_54, h0_55, h0_56, h0_57, h0_58, h0_59, h0_60, h0_61, h0_62, h0_63, h0_64, h0_65, h0_66, h0_67, h0_68, h0_69])), (hct, .inl (chct, 80, .inl fhct)), (hs, .inl (chs, 80, .inl fhs)), (ha, .inl (cha, 80, .inl fha)), (hb9, .inl (chb9, 80, .inl fhb9)), (hbd, .inl (chbd, 12, .inl fhbd)), (hfo, .inl (chfo, 11520, .inl fhfo)), (hv, .inl (chv, 6, .inl fhv)), (hkp, .inl (chkp, 24, .inl fhkp)), (hme, .inl (chme, 6, .inl fhme))] s.heap := hP
  have w__fieldLink_RX12_192_ShellHeapModel_kinds_I_ := hts (.fieldLink RX12 192 "ShellHeapModel" "kinds" "I") (z_mc (z_ml z_m0))
  have hiX12 := show ∀ w ∈ u_ws RX12 TX12 70, w ∈ u_s_X12_food from fun w h => z_mc (z_mr (z_ml h))
  have w__fieldLink_RX12_63_ShellHeapModel_meat_I_ := hts (.fieldLink RX12 63 "ShellHeapModel" "meat" "[I") (z_mc (z_ml z_m5))
  have krr_p1 := z_rng p1
  have hl := lv_entry ([.ref h0, .int p1]) (n := 5) (Nat.le_of_ble_eq_true rfl)
  rw [lg_entry_eq]
  generalize (lg_sl ([.ref h0, .int p1]) ++ List.replicate (5 - (lg_sl ([.ref h0, .int p1])).length) Slot.unset).toArray = ls at hl ⊢
  have hl : lv_has ls 5 [(0, .ref h0), (1, .int p1)] := hl
  refine z_nameQ (fun QQ hQQ => ?_)
  refine lv_lconst (v := 0) hx hb dX12_food_0 (by decide) ?_
  refine lv_lstore_n (lv' := [(2, .long 0), (0, .ref h0), (1, .int p1)]) hx hb dX12_food_1 rfl hl (by decide) rfl (fun ls hl => ?_)
  refine lv_iconst (v := 0) hx hb dX12_food_2 (by decide) ?_
  refine lv_istore (lv' := [(4, .int 0), (2, .long 0), (0, .ref h0), (1, .int p1)]) hx hb dX12_food_3 hl (by decide) rfl (fun ls hl => ?_)
  have loop_1 : ∀ (n_2 : Nat) (i_4 : Int32) (n_5 : Int64) (H : Heap) (locs : List Loc) (ls : Array Slot), (7 - (i_4).toInt).toNat < n_2 → (((0 : Int) ≤ (i_4).toInt ∧ (i_4).toInt ≤ (6 : Int))) → va_P (dC, dI) vwCl [(h0, .inr (12, [h0_0, h0_1, h0_2, h0_3, .int mn, .ref hs, .ref ha, .ref hb9, h0_8, .ref hct, .ref hfo, .ref hbd, h0_12, h0_13, h0_14, h0_15, h0_16, h0_17, h0_18, h0_19, h0_20, h0_21, h0_22, .int mk, .ref hme, .ref hv, .ref hkp, h0_27, h0_28, h0_29, h0_30, h0_31, h0_32, h0_33, h0_34, h0_35, h0_36, h0_37, h0_38, h0_39, h0_40, h0_41, h0_42, h0_43, h0_44, h0_45, h0_46, h0_47, h0_48, h0_49, h0_50, h0_51, h0_52, h0_53, h0_54, h0_55, h0_56, h0_57, h0_58, h0_59, h0_60, h0_61, h0_62, h0_63, h0_64, h0_65, h0_66, h0_67, h0_68, h0_69])), (hct, .inl (chct, 80, .inl fhct)), (hs, .inl (chs, 80, .inl fhs)), (ha, .inl (cha, 80, .inl fha)), (hb9, .inl (chb9, 80, .inl fhb9)), (hbd, .inl (chbd, 12, .inl fhbd)), (hfo, .inl (chfo, 11520, .inl fhfo)), (hv, .inl (chv, 6, .inl fhv)), (hkp, .inl (chkp, 24, .inl fhkp)), (hme, .inl (chme, 6, .inl fhme))] H → va_D (fun _ => True) [(h0, .inr (12, [h0_0, h0_1, h0_2, h0_3, .int mn, .ref hs, .ref ha, .ref hb9, h0_8, .ref hct, .ref hfo, .ref hbd, h0_12, h0_13, h0_14, h0_15, h0_16, h0_17, h0_18, h0_19, h0_20, h0_21, h0_22, .int mk, .ref hme, .ref hv, .ref hkp, h0_27, h0_28, h0_29, h0_30, h0_31, h0_32, h0_33, h0_34, h0_35, h0_36, h0_37, h0_38, h0_39, h0_40, h0_41, h0_42, h0_43, h0_44, h0_45, h0_46, h0_47, h0_48, h0_49, h0_50, h0_51, h0_52, h0_53, h0_54, h0_55, h0_56, h0_57, h0_58, h0_59, h0_60, h0_61, h0_62, h0_63, h0_64, h0_65, h0_66, h0_67, h0_68, h0_69])), (hct, .inl (chct, 80, .inl fhct)), (hs, .inl (chs, 80, .inl fhs)), (ha, .inl (cha, 80, .inl fha)), (hb9, .inl (chb9, 80, .inl fhb9)), (hbd, .inl (chbd, 12, .inl fhbd)), (hfo, .inl (chfo, 11520, .inl fhfo)), (hv, .inl (chv, 6, .inl fhv)), (hkp, .inl (chkp, 24, .inl fhkp)), (hme, .inl (chme, 6, .inl fhme))] → va_S A s.heap H locs → lv_has ls 5 [(4, .int i_4), (2, .long n_5), (0, .ref h0), (1, .int p1)] → W p l e ({ frames := 3, cells := 0, slots := 0, locals := 76 } : Room) s m ([.ref h0, .int p1] : List Value).toArray below meth c H locs 0 0 QQ (F0 m 5 ls []) := by
    intro n_2
    induction n_2 with
    | zero => intro i_4 n_5 H locs ls hm; exact absurd hm (Nat.not_lt_zero _)
    | succ n_2 ih_3 =>
      intro i_4 n_5 H locs ls hm hF_6 hP hD hS hl
      refine lv_iload hx hb dX12_food_5 (lv_at hl 0 rfl) ?_
      refine lv_aload_n hx hb dX12_food_7 rfl (lv_at hl 2 rfl) ?_
      refine va_get (D := (dC, dI)) (ci := 12) (v := .int mk) (C := RX12) (T := TX12) (N := 70) hx hb hts hiX12 hown hK hP 0 rfl rfl 23 (by decide) w__fieldLink_RX12_192_ShellHeapModel_kinds_I_ (fun _ h9 => h9) rfl dX12_food_8 ?_
      refine lv_icmp_ge (tgt := 39) hx hb dX12_food_11 (by decide) (fun c_7 => ?_) (fun c_7 => ?_)
      · have k_8 : (mk).toInt ≤ (i_4).toInt := z_le c_7
        refine lv_lload_n hx hb dX12_food_39 rfl (lv_at hl 1 rfl) ?_
        refine z_backQ hQQ ?_
        refine W.widen (k := 0) (n := 0) (Nat.le_of_ble_eq_true rfl) (Nat.le_of_ble_eq_true rfl) ?_
        exact W.lret (v := n_5) hx hb hr (fun t ht hW => ⟨⟨n_5, (), rfl, trivial, trivial⟩, hS.F ht⟩) hS.2.2 dX12_food_40
      · have k_9 : (mk).toInt > (i_4).toInt := z_nle c_7
        refine lv_lload_n hx hb dX12_food_14 rfl (lv_at hl 1 rfl) ?_
        refine lv_aload_n hx hb dX12_food_15 rfl (lv_at hl 2 rfl) ?_
        refine lv_iload_n hx hb dX12_food_16 rfl (lv_at hl 3 rfl) ?_
        refine lv_iload hx hb dX12_food_17 (lv_at hl 0 rfl) ?_
        obtain ⟨hPc, hDc⟩ := z_sub2 (ws' := [(h0, .inr (12, [h0_0, h0_1, h0_2, h0_3, .int mn, .ref hs, .ref ha, .ref hb9, h0_8, .ref hct, .ref hfo, .ref hbd, h0_12, h0_13, h0_14, h0_15, h0_16, h0_17, h0_18, h0_19, h0_20, h0_21, h0_22, .int mk, .ref hme, .ref hv, .ref hkp, h0_27, h0_28, h0_29, h0_30, h0_31, h0_32, h0_33, h0_34, h0_35, h0_36, h0_37, h0_38, h0_39, h0_40, h0_41, h0_42, h0_43, h0_44, h0_45, h0_46, h0_47, h0_48, h0_49, h0_50, h0_51, h0_52, h0_53, h0_54, h0_55, h0_56, h0_57, h0_58, h0_59, h0_60, h0_61, h0_62, h0_63, h0_64, h0_65, h0_66, h0_67, h0_68, h0_69])), (hct, .inl (chct, 80, .inl fhct)), (hs, .inl (chs, 80, .inl fhs)), (ha, .inl (cha, 80, .inl fha)), (hb9, .inl (chb9, 80, .inl fhb9)), (hbd, .inl (chbd, 12, .inl fhbd)), (hfo, .inl (chfo, 11520, .inl fhfo)), (hv, .inl (chv, 6, .inl fhv)), (hkp, .inl (chkp, 24, .inl fhkp))]) hP hD [0, 1, 2, 3, 4, 5, 6, 7, 8] (by decide) rfl
        have hKc := hK.sub (tys' := [(chct, .boolean), (chs, .int), (cha, .int), (chb9, .int), (chbd, .int), (chfo, .int), (chv, .int), (chkp, .int)]) [0, 1, 2, 3, 4, 5, 6, 7] rfl
        have hFc := va_free (ws := []) (wc := []) (z_D0 _) hS hA [] rfl
        refine va_calll (va_runV (As := [.int p1, .int i_4]) (rest := [.long n_5]) ⟨hx, hb, hml, hown, hts⟩ (s_X12_righted l dC dI H.size h0 p1 i_4 h0_0 h0_1 h0_2 h0_3 mn hs ha hb9 h0_8 hct hfo hbd h0_12 h0_13 h0_14 h0_15 h0_16 h0_17 h0_18 h0_19 h0_20 h0_21 h0_22 (.int mk) (.ref hme) hv hkp h0_27 h0_28 h0_29 h0_30 h0_31 h0_32 h0_33 h0_34 h0_35 h0_36 h0_37 h0_38 h0_39 h0_40 h0_41 h0_42 h0_43 h0_44 h0_45 h0_46 h0_47 h0_48 h0_49 h0_50 h0_51 h0_52 h0_53 h0_54 h0_55 h0_56 h0_57 h0_58 h0_59 h0_60 h0_61 h0_62 h0_63 h0_64 h0_65 h0_66 h0_67 h0_68 h0_69 chct fhct chs fhs cha fha chb9 fhb9 chbd fhbd chfo fhfo chv fhv chkp fhkp (by first | omega | decide) hB_mn hI_ha hI_hbd hI_hkp hR) (cwV 2 hts gw_s_X12_food_s_X12_righted_268 rfl rfl rfl (by decide +kernel) ⟨Nat.le_of_ble_eq_true rfl, Nat.le_of_ble_eq_true rfl⟩) ⟨z_blind, va_recv hKc hPc (ci := 12) (q0 := 0) rfl rfl, z_pre hPc hKc hDc⟩ rfl rfl hl.1 rfl (lv_room (Nat.le_of_ble_eq_true rfl)) dX12_food_19 ⟨Nat.le_of_ble_eq_true rfl, Nat.le_of_ble_eq_true rfl⟩) hS (fun q _ h => hFc q h) hFc (fun r_11 u t H_10 locs ht hvm hw_12 hB hz1 hk1 hS => ?_)
        replace hP := z_pure hP hk1
        clear hPc hDc hKc
        refine lv_aload_n hx hb dX12_food_22 rfl (lv_at hl 2 rfl) ?_
        refine va_get (D := (dC, dI)) (ci := 12) (v := .ref hme) (C := RX12) (T := TX12) (N := 70) hx hb hts hiX12 hown hK hP 0 rfl rfl 24 (by decide) w__fieldLink_RX12_63_ShellHeapModel_meat_I_ (fun _ h9 => h9) rfl dX12_food_23 ?_
        refine lv_iload hx hb dX12_food_26 (lv_at hl 0 rfl) ?_
        refine va_iald hx hb hK hP 9 8 rfl rfl (z_vpin (by omega) (by omega)) dX12_food_28 ?_
        refine lv_topi (fun z_13 ez_13 => ?_)
        refine lv_i2l hx hb dX12_food_29 rfl ?_
        refine lv_topl (fun z_14 ez_14 => ?_)
        have kz_14 : (z_14).toInt = (z_13).toInt := by rw [ez_14]; exact z_i2l _
        refine lv_lmul hx hb dX12_food_30 ?_
        refine lv_topl (fun z_15 ez_15 => ?_)
        refine lv_ladd hx hb dX12_food_31 ?_
        refine lv_topl (fun z_16 ez_16 => ?_)
        refine lv_lstore_n (lv' := [(2, .long z_16), (4, .int i_4), (0, .ref h0), (1, .int p1)]) hx hb dX12_food_32 rfl hl (by decide) rfl (fun ls hl => ?_)
        obtain ⟨z_17, ez_17⟩ : ∃ y : Int32, y = i_4 + 1 := ⟨_, rfl⟩
        have kz_17 : (z_17).toInt = (i_4).toInt + (1 : Int) := by rw [ez_17]; exact z_add (b := 1) rfl rfl (z_al hF_6.1 (by decide)) (z_ah hF_6.2 (by decide))
        refine lv_iinc (v := z_17) (lv' := [(4, .int z_17), (2, .long z_16), (0, .ref h0), (1, .int p1)]) hx hb dX12_food_33 hl (k := 1) rfl (by rw [ez_17]; rfl) (by decide) rfl (fun ls hl => ?_)
        refine lv_goto (tgt := 5) hx hb dX12_food_36 (by decide) ?_
        exact ih_3 z_17 z_16 _ _ _ (show (7 - (z_17).toInt).toNat < n_2 by omega) (show ((0 : Int) ≤ (z_17).toInt ∧ (z_17).toInt ≤ (6 : Int)) by omega) hP hD hS (lv_sub hl [0, 1, 2, 3] rfl)
  exact loop_1 _ 0 0 _ _ _ (Nat.lt_succ_self _) (show ((0 : Int) ≤ (0 : Int) ∧ (0 : Int) ≤ (6 : Int)) by omega) hP hD hS hl
def u_s_X12_lost : List Cond := .code yX12_lost cX12_lost 7 (some .int) :: ([.fieldLink RX12 192 "ShellHeapModel" "kinds" "I", .constantLong RX12 272 (1000), .methodLink RX12 257 yX12_sum, .instanceMethod yX12_sum, .selects RX12 yX12_sum yX12_sum, .initialized RX12] ++ (wsX120 ++ (u_s_X12_sum ++ [])))
theorem gd_s_X12_lost : z_gd u_s_X12_lost := z_gdc (by decide +kernel) (z_gda gdX12 (z_gda gd_s_X12_sum (z_gd0)))
set_option maxRecDepth 20000 in
theorem gw_s_X12_lost_s_X12_sum_257 : GoodIn u_s_X12_lost (wsV RX12 257 RX12 yX12_sum u_s_X12_sum) := z_gV (z_gr _ [3, 4, 5, 6] rfl (by decide +kernel)) (fun w h => ⟨z_mc (z_mr (z_mr (z_ml h))), gd_s_X12_sum w h⟩)
set_option maxHeartbeats 4000000 in
set_option maxRecDepth 100000 in
theorem s_X12_lost (l : Launch) (dC : Nat → ClassId) (dI : Nat → Nat → Nat) (sz : Nat) (h0 : Nat) (p1 : Int32) (h0_0 : Value) (h0_1 : Value) (h0_2 : Value) (h0_3 : Value) (mn : Int32) (hs : Nat) (ha : Nat) (hb9 : Nat) (h0_8 : Value) (hct : Nat) (hfo : Nat) (hbd : Nat) (h0_12 : Value) (h0_13 : Value) (h0_14 : Value) (h0_15 : Value) (h0_16 : Value) (h0_17 : Value) (h0_18 : Value) (h0_19 : Value) (h0_20 : Value) (h0_21 : Value) (h0_22 : Value) (mk : Int32) (h0_24 : Value) (h0_25 : Value) (h0_26 : Value) (h0_27 : Value) (h0_28 : Value) (h0_29 : Value) (h0_30 : Value) (h0_31 : Value) (h0_32 : Value) (h0_33 : Value) (h0_34 : Value) (h0_35 : Value) (h0_36 : Value) (h0_37 : Value) (h0_38 : Value) (h0_39 : Value) (h0_40 : Value) (h0_41 : Value) (h0_42 : Value) (h0_43 : Value) (h0_44 : Value) (h0_45 : Value) (h0_46 : Value) (h0_47 : Value) (h0_48 : Value) (h0_49 : Value) (h0_50 : Value) (h0_51 : Value) (h0_52 : Value) (h0_53 : Value) (h0_54 : Value) (h0_55 : Value) (h0_56 : Value) (h0_57 : Value) (h0_58 : Value) (h0_59 : Value) (h0_60 : Value) (h0_61 : Value) (h0_62 : Value) (h0_63 : Value) (h0_64 : Value) (h0_65 : Value) (h0_66 : Value) (h0_67 : Value) (h0_68 : Value) (h0_69 : Value) (chct : ClassId) (fhct : Nat → Int32) (chs : ClassId) (fhs : Nat → Int32) (cha : ClassId) (fha : Nat → Int32) (chb9 : ClassId) (fhb9 : Nat → Int32) (chbd : ClassId) (fhbd : Nat → Int32) (chfo : ClassId) (fhfo : Nat → Int32) (hB_mn : ((0 : Int) ≤ (mn).toInt ∧ (mn).toInt ≤ (80 : Int))) (hB_mk : ((0 : Int) ≤ (mk).toInt ∧ (mk).toInt ≤ (6 : Int))) (hI_ha : ∀ j : Nat, ((0 : Int) ≤ (fha j).toInt ∧ (fha j).toInt ≤ (79 : Int))) (hI_hbd : ∀ j : Nat, ((0 : Int) ≤ (fhbd j).toInt ∧ (fhbd j).toInt ≤ (11 : Int))) (hR : ∀ j : Nat, z_relm (fhs j) (fha j) (fhb9 j)) : Met l yX12_lost u_s_X12_lost ({ frames := 1, cells := 0, slots := 0, locals := 26 }) (va_Pc [.ref h0, .int p1] (z_C (dC, dI) vwCl [(h0, .inr (12, [h0_0, h0_1, h0_2, h0_3, .int mn, .ref hs, .ref ha, .ref hb9, h0_8, .ref hct, .ref hfo, .ref hbd, h0_12, h0_13, h0_14, h0_15, h0_16, h0_17, h0_18, h0_19, h0_20, h0_21, h0_22, .int mk, h0_24, h0_25, h0_26, h0_27, h0_28, h0_29, h0_30, h0_31, h0_32, h0_33, h0_34, h0_35, h0_36, h0_37, h0_38, h0_39, h0_40, h0_41, h0_42, h0_43, h0_44, h0_45, h0_46, h0_47, h0_48, h0_49, h0_50, h0_51, h0_52, h0_53, h0_54, h0_55, h0_56, h0_57, h0_58, h0_59, h0_60, h0_61, h0_62, h0_63, h0_64, h0_65, h0_66, h0_67, h0_68, h0_69])), (hct, .inl (chct, 80, .inl fhct)), (hs, .inl (chs, 80, .inl fhs)), (ha, .inl (cha, 80, .inl fha)), (hb9, .inl (chb9, 80, .inl fhb9)), (hbd, .inl (chbd, 12, .inl fhbd)), (hfo, .inl (chfo, 11520, .inl fhfo))] [(chct, .boolean), (chs, .int), (cha, .int), (chb9, .int), (chbd, .int), (chfo, .int)] sz)) (va_Qi (fun (r : Int32) (_ : Unit) => True) (fun (_ : Unit) (_ : State) => True) (va_A [] sz)) 0 0 (va_A [] sz) := by
  refine Met.ofW (cc := cX12_lost) (maxL := 7) (ret := (some .int)) (by decide) rfl ?_
  intro p e s m args below meth c s₁ B hml hv
  obtain ⟨rfl, hsz, hP, hK, hD0⟩ := hv
  have hx := B.exec
  have hb := B.bytes
  have hr := B.returns
  have hts := atoms_spec (ws := u_s_X12_lost) B.pre
  have hown : s.vm.findClass RX12 = some m.cls := findClass_of_methodNamed B.named
  have hlocks := B.notSynchronized
  subst hsz
  have hD := hD0
  generalize hAe : va_A [] s.heap.size = A
  have hA : ∀ q : Nat, s.heap.size ≤ q → A q := fun q h => by rw [← hAe]; exact Or.inr h
  have hS : va_S A s.heap s.heap [] := va_S.rf
  have hP : va_P (dC, dI) vwCl [(h0, .inr (12, [h0_0, h0_1, h0_2, h0_3, .int mn, .ref hs, .ref ha, .ref hb9, h0_8, .ref hct, .ref hfo, .ref hbd, h0_12, h0_13, h0_14, h0_15, h0_16, h0_17, h0_18, h0_19, h0_20, h0_21, h0_22, .int mk, h0_24, h0_25, h0_26, h0_27, h0_28, h0_29, h0_30, h0_31, h0_32, h0_33, h0_34, h0_35, h0_36, h0_37, h0_38, h0_39, h0_40, h0_41, h0_42, h0_43, h0_44, h0_45, h0_46, h0_47, h0_48, h0_49, h0_50, h0_51, h0_52, h0_53, h0_54, h0_55, h0_56, h0_57, h0_58, h0_59, h0_60, h0_61, h0_62, h0_63, h0_64, h0_65, h0_66, h0_67, h0_68, h0_69])), (hct, .inl (chct, 80, .inl fhct)), (hs, .inl (chs, 80, .inl fhs)), (ha, .inl (cha, 80, .inl fha)), (hb9, .inl (chb9, 80, .inl fhb9)), (hbd, .inl (chbd, 12, .inl fhbd)), (hfo, .inl (chfo, 11520, .inl fhfo))] s.heap := hP
  have w__fieldLink_RX12_192_ShellHeapModel_kinds_I_ := hts (.fieldLink RX12 192 "ShellHeapModel" "kinds" "I") (z_mc (z_ml z_m0))
  have hiX12 := show ∀ w ∈ u_ws RX12 TX12 70, w ∈ u_s_X12_lost from fun w h => z_mc (z_mr (z_ml h))
  have w__constantLong_RX12_272_1000_ := hts (.constantLong RX12 272 (1000)) (z_mc (z_ml z_m1))
  have krr_p1 := z_rng p1
  have hl := lv_entry ([.ref h0, .int p1]) (n := 7) (Nat.le_of_ble_eq_true rfl)
  rw [lg_entry_eq]
  generalize (lg_sl ([.ref h0, .int p1]) ++ List.replicate (7 - (lg_sl ([.ref h0, .int p1])).length) Slot.unset).toArray = ls at hl ⊢
  have hl : lv_has ls 7 [(0, .ref h0), (1, .int p1)] := hl
  refine z_nameQ (fun QQ hQQ => ?_)
  refine lv_iconst (v := 0) hx hb dX12_lost_0 (by decide) ?_
  refine lv_istore_n (lv' := [(2, .int 0), (0, .ref h0), (1, .int p1)]) hx hb dX12_lost_1 rfl hl (by decide) rfl (fun ls hl => ?_)
  refine lv_iconst (v := 0) hx hb dX12_lost_2 (by decide) ?_
  refine lv_istore_n (lv' := [(3, .int 0), (2, .int 0), (0, .ref h0), (1, .int p1)]) hx hb dX12_lost_3 rfl hl (by decide) rfl (fun ls hl => ?_)
  refine lv_iconst (v := 0) hx hb dX12_lost_4 (by decide) ?_
  refine lv_istore (lv' := [(4, .int 0), (3, .int 0), (2, .int 0), (0, .ref h0), (1, .int p1)]) hx hb dX12_lost_5 hl (by decide) rfl (fun ls hl => ?_)
  have loop_1 : ∀ (n_2 : Nat) (i_4 : Int32) (n_5 : Int32) (q_6 : Int32) (H : Heap) (locs : List Loc) (ls : Array Slot), (7 - (i_4).toInt).toNat < n_2 → (((0 : Int) ≤ (i_4).toInt ∧ (i_4).toInt ≤ (6 : Int))) → va_P (dC, dI) vwCl [(h0, .inr (12, [h0_0, h0_1, h0_2, h0_3, .int mn, .ref hs, .ref ha, .ref hb9, h0_8, .ref hct, .ref hfo, .ref hbd, h0_12, h0_13, h0_14, h0_15, h0_16, h0_17, h0_18, h0_19, h0_20, h0_21, h0_22, .int mk, h0_24, h0_25, h0_26, h0_27, h0_28, h0_29, h0_30, h0_31, h0_32, h0_33, h0_34, h0_35, h0_36, h0_37, h0_38, h0_39, h0_40, h0_41, h0_42, h0_43, h0_44, h0_45, h0_46, h0_47, h0_48, h0_49, h0_50, h0_51, h0_52, h0_53, h0_54, h0_55, h0_56, h0_57, h0_58, h0_59, h0_60, h0_61, h0_62, h0_63, h0_64, h0_65, h0_66, h0_67, h0_68, h0_69])), (hct, .inl (chct, 80, .inl fhct)), (hs, .inl (chs, 80, .inl fhs)), (ha, .inl (cha, 80, .inl fha)), (hb9, .inl (chb9, 80, .inl fhb9)), (hbd, .inl (chbd, 12, .inl fhbd)), (hfo, .inl (chfo, 11520, .inl fhfo))] H → va_D (fun _ => True) [(h0, .inr (12, [h0_0, h0_1, h0_2, h0_3, .int mn, .ref hs, .ref ha, .ref hb9, h0_8, .ref hct, .ref hfo, .ref hbd, h0_12, h0_13, h0_14, h0_15, h0_16, h0_17, h0_18, h0_19, h0_20, h0_21, h0_22, .int mk, h0_24, h0_25, h0_26, h0_27, h0_28, h0_29, h0_30, h0_31, h0_32, h0_33, h0_34, h0_35, h0_36, h0_37, h0_38, h0_39, h0_40, h0_41, h0_42, h0_43, h0_44, h0_45, h0_46, h0_47, h0_48, h0_49, h0_50, h0_51, h0_52, h0_53, h0_54, h0_55, h0_56, h0_57, h0_58, h0_59, h0_60, h0_61, h0_62, h0_63, h0_64, h0_65, h0_66, h0_67, h0_68, h0_69])), (hct, .inl (chct, 80, .inl fhct)), (hs, .inl (chs, 80, .inl fhs)), (ha, .inl (cha, 80, .inl fha)), (hb9, .inl (chb9, 80, .inl fhb9)), (hbd, .inl (chbd, 12, .inl fhbd)), (hfo, .inl (chfo, 11520, .inl fhfo))] → va_S A s.heap H locs → lv_has ls 7 [(4, .int i_4), (3, .int q_6), (2, .int n_5), (0, .ref h0), (1, .int p1)] → W p l e ({ frames := 1, cells := 0, slots := 0, locals := 26 } : Room) s m ([.ref h0, .int p1] : List Value).toArray below meth c H locs 0 0 QQ (F0 m 7 ls []) := by
    intro n_2
    induction n_2 with
    | zero => intro i_4 n_5 q_6 H locs ls hm; exact absurd hm (Nat.not_lt_zero _)
    | succ n_2 ih_3 =>
      intro i_4 n_5 q_6 H locs ls hm hF_7 hP hD hS hl
      refine lv_iload hx hb dX12_lost_7 (lv_at hl 0 rfl) ?_
      refine lv_aload_n hx hb dX12_lost_9 rfl (lv_at hl 3 rfl) ?_
      refine va_get (D := (dC, dI)) (ci := 12) (v := .int mk) (C := RX12) (T := TX12) (N := 70) hx hb hts hiX12 hown hK hP 0 rfl rfl 23 (by decide) w__fieldLink_RX12_192_ShellHeapModel_kinds_I_ (fun _ h9 => h9) rfl dX12_lost_10 ?_
      refine lv_icmp_ge (tgt := 80) hx hb dX12_lost_13 (by decide) (fun c_8 => ?_) (fun c_8 => ?_)
      · have k_9 : (mk).toInt ≤ (i_4).toInt := z_le c_8
        refine lv_iload_n hx hb dX12_lost_80 rfl (lv_at hl 2 rfl) ?_
        refine lv_if_ne (tgt := 88) hx hb dX12_lost_81 (by decide) (fun c_10 => ?_) (fun c_10 => ?_)
        · have k_11 : (n_5).toInt ≠ (0 : Int) := z_ne c_10
          refine lv_ldc2 (v := 1000) hx hb hown w__constantLong_RX12_272_1000_ dX12_lost_88 ?_
          refine lv_iload_n hx hb dX12_lost_91 rfl (lv_at hl 1 rfl) ?_
          refine lv_i2l hx hb dX12_lost_92 rfl ?_
          refine lv_topl (fun z_12 ez_12 => ?_)
          have kz_12 : (z_12).toInt = (q_6).toInt := by rw [ez_12]; exact z_i2l _
          refine lv_lmul hx hb dX12_lost_93 ?_
          refine lv_topl (fun z_13 ez_13 => ?_)
          refine lv_iload_n hx hb dX12_lost_94 rfl (lv_at hl 2 rfl) ?_
          refine lv_i2l hx hb dX12_lost_95 rfl ?_
          refine lv_topl (fun z_14 ez_14 => ?_)
          have kz_14 : (z_14).toInt = (n_5).toInt := by rw [ez_14]; exact z_i2l _
          refine lv_ldiv hx hb dX12_lost_96 (fun q => absurd (show (z_14).toInt = (0 : Int) from congrArg Int64.toInt q) (by omega)) ?_
          refine lv_topl (fun z_15 ez_15 => ?_)
          refine lv_l2i hx hb dX12_lost_97 rfl ?_
          refine lv_topi (fun z_16 ez_16 => ?_)
          refine z_backQ hQQ ?_
          refine W.widen (k := 0) (n := 0) (Nat.le_of_ble_eq_true rfl) (Nat.le_of_ble_eq_true rfl) ?_
          exact W.iret (v := z_16) hx hb hr (fun t ht hW => ⟨⟨z_16, (), rfl, trivial, trivial⟩, hS.F ht⟩) hS.2.2 dX12_lost_98
        · have k_17 : (n_5).toInt = (0 : Int) := z_eq c_10
          obtain rfl : n_5 = 0 := z_eq' (show (n_5).toInt = (0 : Int) by omega)
          refine lv_iconst (v := 0) hx hb dX12_lost_84 (by decide) ?_
          refine lv_goto (tgt := 98) hx hb dX12_lost_85 (by decide) ?_
          refine z_backQ hQQ ?_
          refine W.widen (k := 0) (n := 0) (Nat.le_of_ble_eq_true rfl) (Nat.le_of_ble_eq_true rfl) ?_
          exact W.iret (v := 0) hx hb hr (fun t ht hW => ⟨⟨0, (), rfl, trivial, trivial⟩, hS.F ht⟩) hS.2.2 dX12_lost_98
      · have k_19 : (mk).toInt > (i_4).toInt := z_nle c_8
        refine lv_iconst (v := 0) hx hb dX12_lost_16 (by decide) ?_
        refine lv_istore (lv' := [(5, .int 0), (4, .int i_4), (3, .int q_6), (2, .int n_5), (0, .ref h0), (1, .int p1)]) hx hb dX12_lost_17 hl (by decide) rfl (fun ls hl => ?_)
        have loop_20 : ∀ (n_21 : Nat) (i_23 : Int32) (n_24 : Int32) (q_25 : Int32) (H : Heap) (locs : List Loc) (ls : Array Slot), (5 - (i_23).toInt).toNat < n_21 → (((0 : Int) ≤ (i_23).toInt ∧ (i_23).toInt ≤ (4 : Int))) → va_P (dC, dI) vwCl [(h0, .inr (12, [h0_0, h0_1, h0_2, h0_3, .int mn, .ref hs, .ref ha, .ref hb9, h0_8, .ref hct, .ref hfo, .ref hbd, h0_12, h0_13, h0_14, h0_15, h0_16, h0_17, h0_18, h0_19, h0_20, h0_21, h0_22, .int mk, h0_24, h0_25, h0_26, h0_27, h0_28, h0_29, h0_30, h0_31, h0_32, h0_33, h0_34, h0_35, h0_36, h0_37, h0_38, h0_39, h0_40, h0_41, h0_42, h0_43, h0_44, h0_45, h0_46, h0_47, h0_48, h0_49, h0_50, h0_51, h0_52, h0_53, h0_54, h0_55, h0_56, h0_57, h0_58, h0_59, h0_60, h0_61, h0_62, h0_63, h0_64, h0_65, h0_66, h0_67, h0_68, h0_69])), (hct, .inl (chct, 80, .inl fhct)), (hs, .inl (chs, 80, .inl fhs)), (ha, .inl (cha, 80, .inl fha)), (hb9, .inl (chb9, 80, .inl fhb9)), (hbd, .inl (chbd, 12, .inl fhbd)), (hfo, .inl (chfo, 11520, .inl fhfo))] H → va_D (fun _ => True) [(h0, .inr (12, [h0_0, h0_1, h0_2, h0_3, .int mn, .ref hs, .ref ha, .ref hb9, h0_8, .ref hct, .ref hfo, .ref hbd, h0_12, h0_13, h0_14, h0_15, h0_16, h0_17, h0_18, h0_19, h0_20, h0_21, h0_22, .int mk, h0_24, h0_25, h0_26, h0_27, h0_28, h0_29, h0_30, h0_31, h0_32, h0_33, h0_34, h0_35, h0_36, h0_37, h0_38, h0_39, h0_40, h0_41, h0_42, h0_43, h0_44, h0_45, h0_46, h0_47, h0_48, h0_49, h0_50, h0_51, h0_52, h0_53, h0_54, h0_55, h0_56, h0_57, h0_58, h0_59, h0_60, h0_61, h0_62, h0_63, h0_64, h0_65, h0_66, h0_67, h0_68, h0_69])), (hct, .inl (chct, 80, .inl fhct)), (hs, .inl (chs, 80, .inl fhs)), (ha, .inl (cha, 80, .inl fha)), (hb9, .inl (chb9, 80, .inl fhb9)), (hbd, .inl (chbd, 12, .inl fhbd)), (hfo, .inl (chfo, 11520, .inl fhfo))] → va_S A s.heap H locs → lv_has ls 7 [(5, .int i_23), (4, .int i_4), (3, .int q_25), (2, .int n_24), (0, .ref h0), (1, .int p1)] → W p l e ({ frames := 1, cells := 0, slots := 0, locals := 26 } : Room) s m ([.ref h0, .int p1] : List Value).toArray below meth c H locs 0 0 QQ (F0 m 19 ls []) := by
          intro n_21
          induction n_21 with
          | zero => intro i_23 n_24 q_25 H locs ls hm; exact absurd hm (Nat.not_lt_zero _)
          | succ n_21 ih_22 =>
            intro i_23 n_24 q_25 H locs ls hm hF_26 hP hD hS hl
            refine lv_iload hx hb dX12_lost_19 (lv_at hl 0 rfl) ?_
            refine lv_iconst (v := 4) hx hb dX12_lost_21 (by decide) ?_
            refine lv_icmp_ge (tgt := 74) hx hb dX12_lost_22 (by decide) (fun c_27 => ?_) (fun c_27 => ?_)
            · have k_28 : (4 : Int) ≤ (i_23).toInt := z_le c_27
              obtain rfl : i_23 = 4 := z_eq' (show (i_23).toInt = (4 : Int) by omega)
              obtain ⟨z_30, ez_30⟩ : ∃ y : Int32, y = i_4 + 1 := ⟨_, rfl⟩
              have kz_30 : (z_30).toInt = (i_4).toInt + (1 : Int) := by rw [ez_30]; exact z_add (b := 1) rfl rfl (z_al hF_7.1 (by decide)) (z_ah hF_7.2 (by decide))
              refine lv_iinc (v := z_30) (lv' := [(4, .int z_30), (5, .int 4), (3, .int q_25), (2, .int n_24), (0, .ref h0), (1, .int p1)]) hx hb dX12_lost_74 hl (k := 1) rfl (by rw [ez_30]; rfl) (by decide) rfl (fun ls hl => ?_)
              refine lv_goto (tgt := 7) hx hb dX12_lost_77 (by decide) ?_
              exact ih_3 z_30 n_24 q_25 _ _ _ (show (7 - (z_30).toInt).toNat < n_2 by omega) (show ((0 : Int) ≤ (z_30).toInt ∧ (z_30).toInt ≤ (6 : Int)) by omega) hP hD hS (lv_sub hl [0, 2, 3, 4, 5] rfl)
            · have k_31 : (4 : Int) > (i_23).toInt := z_nle c_27
              refine lv_iconst (v := 0) hx hb dX12_lost_25 (by decide) ?_
              refine lv_istore (lv' := [(6, .int 0), (5, .int i_23), (4, .int i_4), (3, .int q_25), (2, .int n_24), (0, .ref h0), (1, .int p1)]) hx hb dX12_lost_26 hl (by decide) rfl (fun ls hl => ?_)
              have loop_32 : ∀ (n_33 : Nat) (i_35 : Int32) (n_36 : Int32) (H : Heap) (locs : List Loc) (ls : Array Slot), (7 - (i_35).toInt).toNat < n_33 → (((0 : Int) ≤ (i_35).toInt ∧ (i_35).toInt ≤ (6 : Int))) → va_P (dC, dI) vwCl [(h0, .inr (12, [h0_0, h0_1, h0_2, h0_3, .int mn, .ref hs, .ref ha, .ref hb9, h0_8, .ref hct, .ref hfo, .ref hbd, h0_12, h0_13, h0_14, h0_15, h0_16, h0_17, h0_18, h0_19, h0_20, h0_21, h0_22, .int mk, h0_24, h0_25, h0_26, h0_27, h0_28, h0_29, h0_30, h0_31, h0_32, h0_33, h0_34, h0_35, h0_36, h0_37, h0_38, h0_39, h0_40, h0_41, h0_42, h0_43, h0_44, h0_45, h0_46, h0_47, h0_48, h0_49, h0_50, h0_51, h0_52, h0_53, h0_54, h0_55, h0_56, h0_57, h0_58, h0_59, h0_60, h0_61, h0_62, h0_63, h0_64, h0_65, h0_66, h0_67, h0_68, h0_69])), (hct, .inl (chct, 80, .inl fhct)), (hs, .inl (chs, 80, .inl fhs)), (ha, .inl (cha, 80, .inl fha)), (hb9, .inl (chb9, 80, .inl fhb9)), (hbd, .inl (chbd, 12, .inl fhbd)), (hfo, .inl (chfo, 11520, .inl fhfo))] H → va_D (fun _ => True) [(h0, .inr (12, [h0_0, h0_1, h0_2, h0_3, .int mn, .ref hs, .ref ha, .ref hb9, h0_8, .ref hct, .ref hfo, .ref hbd, h0_12, h0_13, h0_14, h0_15, h0_16, h0_17, h0_18, h0_19, h0_20, h0_21, h0_22, .int mk, h0_24, h0_25, h0_26, h0_27, h0_28, h0_29, h0_30, h0_31, h0_32, h0_33, h0_34, h0_35, h0_36, h0_37, h0_38, h0_39, h0_40, h0_41, h0_42, h0_43, h0_44, h0_45, h0_46, h0_47, h0_48, h0_49, h0_50, h0_51, h0_52, h0_53, h0_54, h0_55, h0_56, h0_57, h0_58, h0_59, h0_60, h0_61, h0_62, h0_63, h0_64, h0_65, h0_66, h0_67, h0_68, h0_69])), (hct, .inl (chct, 80, .inl fhct)), (hs, .inl (chs, 80, .inl fhs)), (ha, .inl (cha, 80, .inl fha)), (hb9, .inl (chb9, 80, .inl fhb9)), (hbd, .inl (chbd, 12, .inl fhbd)), (hfo, .inl (chfo, 11520, .inl fhfo))] → va_S A s.heap H locs → lv_has ls 7 [(6, .int i_35), (5, .int i_23), (4, .int i_4), (3, .int q_25), (2, .int n_36), (0, .ref h0), (1, .int p1)] → W p l e ({ frames := 1, cells := 0, slots := 0, locals := 26 } : Room) s m ([.ref h0, .int p1] : List Value).toArray below meth c H locs 0 0 QQ (F0 m 28 ls []) := by
                intro n_33
                induction n_33 with
                | zero => intro i_35 n_36 H locs ls hm; exact absurd hm (Nat.not_lt_zero _)
                | succ n_33 ih_34 =>
                  intro i_35 n_36 H locs ls hm hF_37 hP hD hS hl
                  refine lv_iload hx hb dX12_lost_28 (lv_at hl 0 rfl) ?_
                  refine lv_bipush (v := 6) hx hb dX12_lost_30 (by decide) ?_
                  refine lv_icmp_ge (tgt := 55) hx hb dX12_lost_32 (by decide) (fun c_38 => ?_) (fun c_38 => ?_)
                  · have k_39 : (6 : Int) ≤ (i_35).toInt := z_le c_38
                    obtain rfl : i_35 = 6 := z_eq' (show (i_35).toInt = (6 : Int) by omega)
                    refine lv_iload_n hx hb dX12_lost_55 rfl (lv_at hl 3 rfl) ?_
                    refine lv_aload_n hx hb dX12_lost_56 rfl (lv_at hl 5 rfl) ?_
                    refine lv_iload_n hx hb dX12_lost_57 rfl (lv_at hl 6 rfl) ?_
                    refine lv_iload hx hb dX12_lost_58 (lv_at hl 2 rfl) ?_
                    refine lv_iload hx hb dX12_lost_60 (lv_at hl 1 rfl) ?_
                    refine lv_iconst (v := 5) hx hb dX12_lost_62 (by decide) ?_
                    have hPc := hP
                    have hDc := hD
                    have hKc := hK
                    have hFc := va_free (ws := []) (wc := []) (z_D0 _) hS hA [] rfl
                    refine va_calli (va_runV (As := [.int p1, .int i_4, .int i_23, .int 5]) (rest := [.int q_25]) ⟨hx, hb, hml, hown, hts⟩ (s_X12_sum l dC dI H.size h0 p1 i_4 i_23 5 h0_0 h0_1 h0_2 h0_3 mn hs ha hb9 h0_8 hct hfo hbd h0_12 h0_13 h0_14 h0_15 h0_16 h0_17 h0_18 h0_19 h0_20 h0_21 h0_22 (.int mk) h0_24 h0_25 h0_26 h0_27 h0_28 h0_29 h0_30 h0_31 h0_32 h0_33 h0_34 h0_35 h0_36 h0_37 h0_38 h0_39 h0_40 h0_41 h0_42 h0_43 h0_44 h0_45 h0_46 h0_47 h0_48 h0_49 h0_50 h0_51 h0_52 h0_53 h0_54 h0_55 h0_56 h0_57 h0_58 h0_59 h0_60 h0_61 h0_62 h0_63 h0_64 h0_65 h0_66 h0_67 h0_68 h0_69 chct fhct chs fhs cha fha chb9 fhb9 chbd fhbd chfo fhfo (by first | omega | decide) (by first | omega | decide) (by decide) hB_mn hI_ha hI_hbd hR) (cwV 4 hts gw_s_X12_lost_s_X12_sum_257 rfl rfl rfl (by decide +kernel) ⟨Nat.le_of_ble_eq_true rfl, Nat.le_of_ble_eq_true rfl⟩) ⟨z_blind, va_recv hKc hPc (ci := 12) (q0 := 0) rfl rfl, z_pre hPc hKc hDc⟩ rfl rfl hl.1 rfl (lv_room (Nat.le_of_ble_eq_true rfl)) dX12_lost_63 ⟨Nat.le_of_ble_eq_true rfl, Nat.le_of_ble_eq_true rfl⟩) hS (fun q _ h => hFc q h) hFc (fun r_42 u t H_41 locs ht hvm hw_43 hB hz1 hk1 hS => ?_)
                    replace hP := z_pure hP hk1
                    clear hPc hDc hKc
                    refine lv_iadd hx hb dX12_lost_66 ?_
                    refine lv_topi (fun z_44 ez_44 => ?_)
                    refine lv_istore_n (lv' := [(3, .int z_44), (6, .int 6), (5, .int i_23), (4, .int i_4), (2, .int n_36), (0, .ref h0), (1, .int p1)]) hx hb dX12_lost_67 rfl hl (by decide) rfl (fun ls hl => ?_)
                    obtain ⟨z_45, ez_45⟩ : ∃ y : Int32, y = i_23 + 1 := ⟨_, rfl⟩
                    have kz_45 : (z_45).toInt = (i_23).toInt + (1 : Int) := by rw [ez_45]; exact z_add (b := 1) rfl rfl (z_al hF_26.1 (by decide)) (z_ah hF_26.2 (by decide))
                    refine lv_iinc (v := z_45) (lv' := [(5, .int z_45), (3, .int z_44), (6, .int 6), (4, .int i_4), (2, .int n_36), (0, .ref h0), (1, .int p1)]) hx hb dX12_lost_68 hl (k := 2) rfl (by rw [ez_45]; rfl) (by decide) rfl (fun ls hl => ?_)
                    refine lv_goto (tgt := 19) hx hb dX12_lost_71 (by decide) ?_
                    exact ih_22 z_45 n_36 z_44 _ _ _ (show (5 - (z_45).toInt).toNat < n_21 by omega) (show ((0 : Int) ≤ (z_45).toInt ∧ (z_45).toInt ≤ (4 : Int)) by omega) hP hD hS (lv_sub hl [0, 3, 1, 4, 5, 6] rfl)
                  · have k_46 : (6 : Int) > (i_35).toInt := z_nle c_38
                    refine lv_iload_n hx hb dX12_lost_35 rfl (lv_at hl 4 rfl) ?_
                    refine lv_aload_n hx hb dX12_lost_36 rfl (lv_at hl 5 rfl) ?_
                    refine lv_iload_n hx hb dX12_lost_37 rfl (lv_at hl 6 rfl) ?_
                    refine lv_iload hx hb dX12_lost_38 (lv_at hl 2 rfl) ?_
                    refine lv_iload hx hb dX12_lost_40 (lv_at hl 1 rfl) ?_
                    refine lv_iload hx hb dX12_lost_42 (lv_at hl 0 rfl) ?_
                    have hPc := hP
                    have hDc := hD
                    have hKc := hK
                    have hFc := va_free (ws := []) (wc := []) (z_D0 _) hS hA [] rfl
                    refine va_calli (va_runV (As := [.int p1, .int i_4, .int i_23, .int i_35]) (rest := [.int n_36]) ⟨hx, hb, hml, hown, hts⟩ (s_X12_sum l dC dI H.size h0 p1 i_4 i_23 i_35 h0_0 h0_1 h0_2 h0_3 mn hs ha hb9 h0_8 hct hfo hbd h0_12 h0_13 h0_14 h0_15 h0_16 h0_17 h0_18 h0_19 h0_20 h0_21 h0_22 (.int mk) h0_24 h0_25 h0_26 h0_27 h0_28 h0_29 h0_30 h0_31 h0_32 h0_33 h0_34 h0_35 h0_36 h0_37 h0_38 h0_39 h0_40 h0_41 h0_42 h0_43 h0_44 h0_45 h0_46 h0_47 h0_48 h0_49 h0_50 h0_51 h0_52 h0_53 h0_54 h0_55 h0_56 h0_57 h0_58 h0_59 h0_60 h0_61 h0_62 h0_63 h0_64 h0_65 h0_66 h0_67 h0_68 h0_69 chct fhct chs fhs cha fha chb9 fhb9 chbd fhbd chfo fhfo (by first | omega | decide) (by first | omega | decide) (by first | omega | decide) hB_mn hI_ha hI_hbd hR) (cwV 4 hts gw_s_X12_lost_s_X12_sum_257 rfl rfl rfl (by decide +kernel) ⟨Nat.le_of_ble_eq_true rfl, Nat.le_of_ble_eq_true rfl⟩) ⟨z_blind, va_recv hKc hPc (ci := 12) (q0 := 0) rfl rfl, z_pre hPc hKc hDc⟩ rfl rfl hl.1 rfl (lv_room (Nat.le_of_ble_eq_true rfl)) dX12_lost_44 ⟨Nat.le_of_ble_eq_true rfl, Nat.le_of_ble_eq_true rfl⟩) hS (fun q _ h => hFc q h) hFc (fun r_48 u t H_47 locs ht hvm hw_49 hB hz1 hk1 hS => ?_)
                    replace hP := z_pure hP hk1
                    clear hPc hDc hKc
                    refine lv_iadd hx hb dX12_lost_47 ?_
                    refine lv_topi (fun z_50 ez_50 => ?_)
                    refine lv_istore_n (lv' := [(2, .int z_50), (6, .int i_35), (5, .int i_23), (4, .int i_4), (3, .int q_25), (0, .ref h0), (1, .int p1)]) hx hb dX12_lost_48 rfl hl (by decide) rfl (fun ls hl => ?_)
                    obtain ⟨z_51, ez_51⟩ : ∃ y : Int32, y = i_35 + 1 := ⟨_, rfl⟩
                    have kz_51 : (z_51).toInt = (i_35).toInt + (1 : Int) := by rw [ez_51]; exact z_add (b := 1) rfl rfl (z_al hF_37.1 (by decide)) (z_ah hF_37.2 (by decide))
                    refine lv_iinc (v := z_51) (lv' := [(6, .int z_51), (2, .int z_50), (5, .int i_23), (4, .int i_4), (3, .int q_25), (0, .ref h0), (1, .int p1)]) hx hb dX12_lost_49 hl (k := 1) rfl (by rw [ez_51]; rfl) (by decide) rfl (fun ls hl => ?_)
                    refine lv_goto (tgt := 28) hx hb dX12_lost_52 (by decide) ?_
                    exact ih_34 z_51 z_50 _ _ _ (show (7 - (z_51).toInt).toNat < n_33 by omega) (show ((0 : Int) ≤ (z_51).toInt ∧ (z_51).toInt ≤ (6 : Int)) by omega) hP hD hS (lv_sub hl [0, 2, 3, 4, 1, 5, 6] rfl)
              exact loop_32 _ 0 n_24 _ _ _ (Nat.lt_succ_self _) (show ((0 : Int) ≤ (0 : Int) ∧ (0 : Int) ≤ (6 : Int)) by omega) hP hD hS hl
        exact loop_20 _ 0 n_5 q_6 _ _ _ (Nat.lt_succ_self _) (show ((0 : Int) ≤ (0 : Int) ∧ (0 : Int) ≤ (4 : Int)) by omega) hP hD hS hl
  exact loop_1 _ 0 0 0 _ _ _ (Nat.lt_succ_self _) (show ((0 : Int) ≤ (0 : Int) ∧ (0 : Int) ≤ (6 : Int)) by omega) hP hD hS hl
def u_s_X12_holdsWithout : List Cond := .code yX12_holdsWithout cX12_holdsWithout 8 (some .int) :: ([.fieldLink RX12 51 "ShellHeapModel" "tall" "I", .fieldLink RX12 47 "ShellHeapModel" "wide" "I", .fieldLink RX12 181 "ShellHeapModel" "columns" "I", .fieldLink RX12 151 "ShellHeapModel" "layers" "I", .fieldLink RX12 32 "ShellHeapModel" "bedOf" "[I", .fieldLink RX12 60 "ShellHeapModel" "thickOf" "[I", .methodLink RX12 184 yX12_far, .instanceMethod yX12_far, .selects RX12 yX12_far yX12_far, .initialized RX12] ++ (wsX120 ++ (u_s_X12_far ++ [])))
theorem gd_s_X12_holdsWithout : z_gd u_s_X12_holdsWithout := z_gdc (by decide +kernel) (z_gda gdX12 (z_gda gd_s_X12_far (z_gd0)))
set_option maxRecDepth 20000 in
theorem gw_s_X12_holdsWithout_s_X12_far_184 : GoodIn u_s_X12_holdsWithout (wsV RX12 184 RX12 yX12_far u_s_X12_far) := z_gV (z_gr _ [7, 8, 9, 10] rfl (by decide +kernel)) (fun w h => ⟨z_mc (z_mr (z_mr (z_ml h))), gd_s_X12_far w h⟩)
set_option maxHeartbeats 4000000 in
set_option maxRecDepth 100000 in
theorem s_X12_holdsWithout (l : Launch) (dC : Nat → ClassId) (dI : Nat → Nat → Nat) (sz : Nat) (h0 : Nat) (p1 : Int32) (p2 : Int32) (h0_0 : Value) (h0_1 : Value) (h0_2 : Value) (ml : Int32) (h0_4 : Value) (h0_5 : Value) (h0_6 : Value) (h0_7 : Value) (h0_8 : Value) (h0_9 : Value) (h0_10 : Value) (h4 : Nat) (h0_12 : Value) (h0_13 : Value) (h0_14 : Value) (h0_15 : Value) (h0_16 : Value) (mw : Int32) (mh : Int32) (mc : Int32) (h1 : Nat) (h2 : Nat) (h3 : Nat) (h0_23 : Value) (h0_24 : Value) (h0_25 : Value) (h0_26 : Value) (h0_27 : Value) (h0_28 : Value) (h0_29 : Value) (h0_30 : Value) (h0_31 : Value) (h0_32 : Value) (h0_33 : Value) (h0_34 : Value) (h0_35 : Value) (h0_36 : Value) (h0_37 : Value) (h0_38 : Value) (h0_39 : Value) (h0_40 : Value) (h0_41 : Value) (h0_42 : Value) (h0_43 : Value) (h0_44 : Value) (h0_45 : Value) (h0_46 : Value) (h0_47 : Value) (h0_48 : Value) (h0_49 : Value) (h0_50 : Value) (h0_51 : Value) (h0_52 : Value) (h0_53 : Value) (h0_54 : Value) (h0_55 : Value) (h0_56 : Value) (h0_57 : Value) (h0_58 : Value) (h0_59 : Value) (h0_60 : Value) (h0_61 : Value) (h0_62 : Value) (h0_63 : Value) (h0_64 : Value) (h0_65 : Value) (h0_66 : Value) (h0_67 : Value) (h0_68 : Value) (h0_69 : Value) (ch1 : ClassId) (fh1 : Nat → Int32) (ch2 : ClassId) (fh2 : Nat → Int32) (ch3 : ClassId) (fh3 : Nat → Int32) (ch4 : ClassId) (fh4 : Nat → Int32) (hB_mw : ((2 : Int) ≤ (mw).toInt ∧ (mw).toInt ≤ (12 : Int))) (hB_mh : ((2 : Int) ≤ (mh).toInt ∧ (mh).toInt ≤ (12 : Int))) (hB_mc : ((0 : Int) ≤ (mc).toInt ∧ (mc).toInt ≤ (10 : Int))) (hB_ml : ((0 : Int) ≤ (ml).toInt ∧ (ml).toInt ≤ (12 : Int))) (hI_h4 : ∀ j : Nat, ((0 : Int) ≤ (fh4 j).toInt ∧ (fh4 j).toInt ≤ (11 : Int))) (hc2 : (1 ≤ mc.toInt ∧ p2.toInt = -1) ∨ 2 ≤ mc.toInt) : Met l yX12_holdsWithout u_s_X12_holdsWithout ({ frames := 1, cells := 0, slots := 0, locals := 23 }) (va_Pc [.ref h0, .int p1, .int p2] (z_C (dC, dI) vwCl [(h0, .inr (12, [h0_0, h0_1, h0_2, .int ml, h0_4, h0_5, h0_6, h0_7, h0_8, h0_9, h0_10, .ref h4, h0_12, h0_13, h0_14, h0_15, h0_16, .int mw, .int mh, .int mc, .ref h1, .ref h2, .ref h3, h0_23, h0_24, h0_25, h0_26, h0_27, h0_28, h0_29, h0_30, h0_31, h0_32, h0_33, h0_34, h0_35, h0_36, h0_37, h0_38, h0_39, h0_40, h0_41, h0_42, h0_43, h0_44, h0_45, h0_46, h0_47, h0_48, h0_49, h0_50, h0_51, h0_52, h0_53, h0_54, h0_55, h0_56, h0_57, h0_58, h0_59, h0_60, h0_61, h0_62, h0_63, h0_64, h0_65, h0_66, h0_67, h0_68, h0_69])), (h1, .inl (ch1, 10, .inl fh1)), (h2, .inl (ch2, 10, .inl fh2)), (h3, .inl (ch3, 120, .inl fh3)), (h4, .inl (ch4, 12, .inl fh4))] [(ch1, .int), (ch2, .int), (ch3, .int), (ch4, .int)] sz)) (va_Qi (fun (r : Int32) (_ : Unit) => True) (fun (_ : Unit) (_ : State) => True) (va_A [] sz)) 0 0 (va_A [] sz) := by
  refine Met.ofW (cc := cX12_holdsWithout) (maxL := 8) (ret := (some .int)) (by decide) rfl ?_
  intro p e s m args below meth c s₁ B hml hv
  obtain ⟨rfl, hsz, hP, hK, hD0⟩ := hv
  have hx := B.exec
  have hb := B.bytes
  have hr := B.returns
  have hts := atoms_spec (ws := u_s_X12_holdsWithout) B.pre
  have hown : s.vm.findClass RX12 = some m.cls := findClass_of_methodNamed B.named
  have hlocks := B.notSynchronized
  subst hsz
  have hD := hD0
  generalize hAe : va_A [] s.heap.size = A
  have hA : ∀ q : Nat, s.heap.size ≤ q → A q := fun q h => by rw [← hAe]; exact Or.inr h
  have hS : va_S A s.heap s.heap [] := va_S.rf
  have hP : va_P (dC, dI) vwCl [(h0, .inr (12, [h0_0, h0_1, h0_2, .int ml, h0_4, h0_5, h0_6, h0_7, h0_8, h0_9, h0_10, .ref h4, h0_12, h0_13, h0_14, h0_15, h0_16, .int mw, .int mh, .int mc, .ref h1, .ref h2, .ref h3, h0_23, h0_24, h0_25, h0_26, h0_27, h0_28, h0_29, h0_30, h0_31, h0_32, h0_33, h0_34, h0_35, h0_36, h0_37, h0_38, h0_39, h0_40, h0_41, h0_42, h0_43, h0_44, h0_45, h0_46, h0_47, h0_48, h0_49, h0_50, h0_51, h0_52, h0_53, h0_54, h0_55, h0_56, h0_57, h0_58, h0_59, h0_60, h0_61, h0_62, h0_63, h0_64, h0_65, h0_66, h0_67, h0_68, h0_69])), (h1, .inl (ch1, 10, .inl fh1)), (h2, .inl (ch2, 10, .inl fh2)), (h3, .inl (ch3, 120, .inl fh3)), (h4, .inl (ch4, 12, .inl fh4))] s.heap := hP
  have w__fieldLink_RX12_51_ShellHeapModel_tall_I_ := hts (.fieldLink RX12 51 "ShellHeapModel" "tall" "I") (z_mc (z_ml z_m0))
  have hiX12 := show ∀ w ∈ u_ws RX12 TX12 70, w ∈ u_s_X12_holdsWithout from fun w h => z_mc (z_mr (z_ml h))
  have w__fieldLink_RX12_47_ShellHeapModel_wide_I_ := hts (.fieldLink RX12 47 "ShellHeapModel" "wide" "I") (z_mc (z_ml z_m1))
  have w__fieldLink_RX12_181_ShellHeapModel_columns_I_ := hts (.fieldLink RX12 181 "ShellHeapModel" "columns" "I") (z_mc (z_ml z_m2))
  have w__fieldLink_RX12_151_ShellHeapModel_layers_I_ := hts (.fieldLink RX12 151 "ShellHeapModel" "layers" "I") (z_mc (z_ml z_m3))
  have w__fieldLink_RX12_32_ShellHeapModel_bedOf_I_ := hts (.fieldLink RX12 32 "ShellHeapModel" "bedOf" "[I") (z_mc (z_ml z_m4))
  have w__fieldLink_RX12_60_ShellHeapModel_thickOf_I_ := hts (.fieldLink RX12 60 "ShellHeapModel" "thickOf" "[I") (z_mc (z_ml z_m5))
  have krr_p1 := z_rng p1
  have krr_p2 := z_rng p2
  have hl := lv_entry ([.ref h0, .int p1, .int p2]) (n := 8) (Nat.le_of_ble_eq_true rfl)
  rw [lg_entry_eq]
  generalize (lg_sl ([.ref h0, .int p1, .int p2]) ++ List.replicate (8 - (lg_sl ([.ref h0, .int p1, .int p2])).length) Slot.unset).toArray = ls at hl ⊢
  have hl : lv_has ls 8 [(0, .ref h0), (1, .int p1), (2, .int p2)] := hl
  refine z_nameQ (fun QQ hQQ => ?_)
  refine lv_iconst (v := 0) hx hb dX12_holdsWithout_0 (by decide) ?_
  refine lv_istore_n (lv' := [(3, .int 0), (0, .ref h0), (1, .int p1), (2, .int p2)]) hx hb dX12_holdsWithout_1 rfl hl (by decide) rfl (fun ls hl => ?_)
  refine lv_iconst (v := 0) hx hb dX12_holdsWithout_2 (by decide) ?_
  refine lv_istore (lv' := [(4, .int 0), (3, .int 0), (0, .ref h0), (1, .int p1), (2, .int p2)]) hx hb dX12_holdsWithout_3 hl (by decide) rfl (fun ls hl => ?_)
  have loop_1 : ∀ (n_2 : Nat) (i_4 : Int32) (n_5 : Int32) (H : Heap) (locs : List Loc) (ls : Array Slot), (13 - (i_4).toInt).toNat < n_2 → (((0 : Int) ≤ (i_4).toInt ∧ (i_4).toInt ≤ (12 : Int))) → va_P (dC, dI) vwCl [(h0, .inr (12, [h0_0, h0_1, h0_2, .int ml, h0_4, h0_5, h0_6, h0_7, h0_8, h0_9, h0_10, .ref h4, h0_12, h0_13, h0_14, h0_15, h0_16, .int mw, .int mh, .int mc, .ref h1, .ref h2, .ref h3, h0_23, h0_24, h0_25, h0_26, h0_27, h0_28, h0_29, h0_30, h0_31, h0_32, h0_33, h0_34, h0_35, h0_36, h0_37, h0_38, h0_39, h0_40, h0_41, h0_42, h0_43, h0_44, h0_45, h0_46, h0_47, h0_48, h0_49, h0_50, h0_51, h0_52, h0_53, h0_54, h0_55, h0_56, h0_57, h0_58, h0_59, h0_60, h0_61, h0_62, h0_63, h0_64, h0_65, h0_66, h0_67, h0_68, h0_69])), (h1, .inl (ch1, 10, .inl fh1)), (h2, .inl (ch2, 10, .inl fh2)), (h3, .inl (ch3, 120, .inl fh3)), (h4, .inl (ch4, 12, .inl fh4))] H → va_D (fun _ => True) [(h0, .inr (12, [h0_0, h0_1, h0_2, .int ml, h0_4, h0_5, h0_6, h0_7, h0_8, h0_9, h0_10, .ref h4, h0_12, h0_13, h0_14, h0_15, h0_16, .int mw, .int mh, .int mc, .ref h1, .ref h2, .ref h3, h0_23, h0_24, h0_25, h0_26, h0_27, h0_28, h0_29, h0_30, h0_31, h0_32, h0_33, h0_34, h0_35, h0_36, h0_37, h0_38, h0_39, h0_40, h0_41, h0_42, h0_43, h0_44, h0_45, h0_46, h0_47, h0_48, h0_49, h0_50, h0_51, h0_52, h0_53, h0_54, h0_55, h0_56, h0_57, h0_58, h0_59, h0_60, h0_61, h0_62, h0_63, h0_64, h0_65, h0_66, h0_67, h0_68, h0_69])), (h1, .inl (ch1, 10, .inl fh1)), (h2, .inl (ch2, 10, .inl fh2)), (h3, .inl (ch3, 120, .inl fh3)), (h4, .inl (ch4, 12, .inl fh4))] → va_S A s.heap H locs → lv_has ls 8 [(4, .int i_4), (3, .int n_5), (0, .ref h0), (1, .int p1), (2, .int p2)] → W p l e ({ frames := 1, cells := 0, slots := 0, locals := 23 } : Room) s m ([.ref h0, .int p1, .int p2] : List Value).toArray below meth c H locs 0 0 QQ (F0 m 5 ls []) := by
    intro n_2
    induction n_2 with
    | zero => intro i_4 n_5 H locs ls hm; exact absurd hm (Nat.not_lt_zero _)
    | succ n_2 ih_3 =>
      intro i_4 n_5 H locs ls hm hF_6 hP hD hS hl
      refine lv_iload hx hb dX12_holdsWithout_5 (lv_at hl 0 rfl) ?_
      refine lv_aload_n hx hb dX12_holdsWithout_7 rfl (lv_at hl 2 rfl) ?_
      refine va_get (D := (dC, dI)) (ci := 12) (v := .int mh) (C := RX12) (T := TX12) (N := 70) hx hb hts hiX12 hown hK hP 0 rfl rfl 18 (by decide) w__fieldLink_RX12_51_ShellHeapModel_tall_I_ (fun _ h9 => h9) rfl dX12_holdsWithout_8 ?_
      refine lv_icmp_ge (tgt := 146) hx hb dX12_holdsWithout_11 (by decide) (fun c_7 => ?_) (fun c_7 => ?_)
      · have k_8 : (mh).toInt ≤ (i_4).toInt := z_le c_7
        refine lv_iload_n hx hb dX12_holdsWithout_146 rfl (lv_at hl 1 rfl) ?_
        refine z_backQ hQQ ?_
        refine W.widen (k := 0) (n := 0) (Nat.le_of_ble_eq_true rfl) (Nat.le_of_ble_eq_true rfl) ?_
        exact W.iret (v := n_5) hx hb hr (fun t ht hW => ⟨⟨n_5, (), rfl, trivial, trivial⟩, hS.F ht⟩) hS.2.2 dX12_holdsWithout_147
      · have k_9 : (mh).toInt > (i_4).toInt := z_nle c_7
        refine lv_iconst (v := 0) hx hb dX12_holdsWithout_14 (by decide) ?_
        refine lv_istore (lv' := [(5, .int 0), (4, .int i_4), (3, .int n_5), (0, .ref h0), (1, .int p1), (2, .int p2)]) hx hb dX12_holdsWithout_15 hl (by decide) rfl (fun ls hl => ?_)
        have loop_10 : ∀ (n_11 : Nat) (i_13 : Int32) (n_14 : Int32) (H : Heap) (locs : List Loc) (ls : Array Slot), (13 - (i_13).toInt).toNat < n_11 → (((0 : Int) ≤ (i_13).toInt ∧ (i_13).toInt ≤ (12 : Int))) → va_P (dC, dI) vwCl [(h0, .inr (12, [h0_0, h0_1, h0_2, .int ml, h0_4, h0_5, h0_6, h0_7, h0_8, h0_9, h0_10, .ref h4, h0_12, h0_13, h0_14, h0_15, h0_16, .int mw, .int mh, .int mc, .ref h1, .ref h2, .ref h3, h0_23, h0_24, h0_25, h0_26, h0_27, h0_28, h0_29, h0_30, h0_31, h0_32, h0_33, h0_34, h0_35, h0_36, h0_37, h0_38, h0_39, h0_40, h0_41, h0_42, h0_43, h0_44, h0_45, h0_46, h0_47, h0_48, h0_49, h0_50, h0_51, h0_52, h0_53, h0_54, h0_55, h0_56, h0_57, h0_58, h0_59, h0_60, h0_61, h0_62, h0_63, h0_64, h0_65, h0_66, h0_67, h0_68, h0_69])), (h1, .inl (ch1, 10, .inl fh1)), (h2, .inl (ch2, 10, .inl fh2)), (h3, .inl (ch3, 120, .inl fh3)), (h4, .inl (ch4, 12, .inl fh4))] H → va_D (fun _ => True) [(h0, .inr (12, [h0_0, h0_1, h0_2, .int ml, h0_4, h0_5, h0_6, h0_7, h0_8, h0_9, h0_10, .ref h4, h0_12, h0_13, h0_14, h0_15, h0_16, .int mw, .int mh, .int mc, .ref h1, .ref h2, .ref h3, h0_23, h0_24, h0_25, h0_26, h0_27, h0_28, h0_29, h0_30, h0_31, h0_32, h0_33, h0_34, h0_35, h0_36, h0_37, h0_38, h0_39, h0_40, h0_41, h0_42, h0_43, h0_44, h0_45, h0_46, h0_47, h0_48, h0_49, h0_50, h0_51, h0_52, h0_53, h0_54, h0_55, h0_56, h0_57, h0_58, h0_59, h0_60, h0_61, h0_62, h0_63, h0_64, h0_65, h0_66, h0_67, h0_68, h0_69])), (h1, .inl (ch1, 10, .inl fh1)), (h2, .inl (ch2, 10, .inl fh2)), (h3, .inl (ch3, 120, .inl fh3)), (h4, .inl (ch4, 12, .inl fh4))] → va_S A s.heap H locs → lv_has ls 8 [(5, .int i_13), (4, .int i_4), (3, .int n_14), (0, .ref h0), (1, .int p1), (2, .int p2)] → W p l e ({ frames := 1, cells := 0, slots := 0, locals := 23 } : Room) s m ([.ref h0, .int p1, .int p2] : List Value).toArray below meth c H locs 0 0 QQ (F0 m 17 ls []) := by
          intro n_11
          induction n_11 with
          | zero => intro i_13 n_14 H locs ls hm; exact absurd hm (Nat.not_lt_zero _)
          | succ n_11 ih_12 =>
            intro i_13 n_14 H locs ls hm hF_15 hP hD hS hl
            refine lv_iload hx hb dX12_holdsWithout_17 (lv_at hl 0 rfl) ?_
            refine lv_aload_n hx hb dX12_holdsWithout_19 rfl (lv_at hl 3 rfl) ?_
            refine va_get (D := (dC, dI)) (ci := 12) (v := .int mw) (C := RX12) (T := TX12) (N := 70) hx hb hts hiX12 hown hK hP 0 rfl rfl 17 (by decide) w__fieldLink_RX12_47_ShellHeapModel_wide_I_ (fun _ h9 => h9) rfl dX12_holdsWithout_20 ?_
            refine lv_icmp_ge (tgt := 140) hx hb dX12_holdsWithout_23 (by decide) (fun c_16 => ?_) (fun c_16 => ?_)
            · have k_17 : (mw).toInt ≤ (i_13).toInt := z_le c_16
              obtain ⟨z_18, ez_18⟩ : ∃ y : Int32, y = i_4 + 1 := ⟨_, rfl⟩
              have kz_18 : (z_18).toInt = (i_4).toInt + (1 : Int) := by rw [ez_18]; exact z_add (b := 1) rfl rfl (z_al hF_6.1 (by decide)) (z_ah hF_6.2 (by decide))
              refine lv_iinc (v := z_18) (lv' := [(4, .int z_18), (5, .int i_13), (3, .int n_14), (0, .ref h0), (1, .int p1), (2, .int p2)]) hx hb dX12_holdsWithout_140 hl (k := 1) rfl (by rw [ez_18]; rfl) (by decide) rfl (fun ls hl => ?_)
              refine lv_goto (tgt := 5) hx hb dX12_holdsWithout_143 (by decide) ?_
              exact ih_3 z_18 n_14 _ _ _ (show (13 - (z_18).toInt).toNat < n_2 by omega) (show ((0 : Int) ≤ (z_18).toInt ∧ (z_18).toInt ≤ (12 : Int)) by omega) hP hD hS (lv_sub hl [0, 2, 3, 4, 5] rfl)
            · have k_19 : (mw).toInt > (i_13).toInt := z_nle c_16
              refine lv_iconst (v := (-1)) hx hb dX12_holdsWithout_26 (by decide) ?_
              refine lv_istore (lv' := [(6, .int (-1)), (5, .int i_13), (4, .int i_4), (3, .int n_14), (0, .ref h0), (1, .int p1), (2, .int p2)]) hx hb dX12_holdsWithout_27 hl (by decide) rfl (fun ls hl => ?_)
              refine lv_iconst (v := 0) hx hb dX12_holdsWithout_29 (by decide) ?_
              refine lv_istore (lv' := [(7, .int 0), (6, .int (-1)), (5, .int i_13), (4, .int i_4), (3, .int n_14), (0, .ref h0), (1, .int p1), (2, .int p2)]) hx hb dX12_holdsWithout_30 hl (by decide) rfl (fun ls hl => ?_)
              have loop_20 : ∀ (n_21 : Nat) (i_23 : Int32) (a_24 : Int32) (H : Heap) (locs : List Loc) (ls : Array Slot), (11 - (i_23).toInt).toNat < n_21 → (((0 : Int) ≤ (i_23).toInt ∧ (i_23).toInt ≤ (10 : Int))) → (((-1 : Int) ≤ (a_24).toInt ∧ (a_24).toInt ≤ (9 : Int))) → (0 ≤ (a_24).toInt ∨ (i_23).toInt = 0 ∨ ((i_23).toInt = 1 ∧ (p2).toInt = 0)) → va_P (dC, dI) vwCl [(h0, .inr (12, [h0_0, h0_1, h0_2, .int ml, h0_4, h0_5, h0_6, h0_7, h0_8, h0_9, h0_10, .ref h4, h0_12, h0_13, h0_14, h0_15, h0_16, .int mw, .int mh, .int mc, .ref h1, .ref h2, .ref h3, h0_23, h0_24, h0_25, h0_26, h0_27, h0_28, h0_29, h0_30, h0_31, h0_32, h0_33, h0_34, h0_35, h0_36, h0_37, h0_38, h0_39, h0_40, h0_41, h0_42, h0_43, h0_44, h0_45, h0_46, h0_47, h0_48, h0_49, h0_50, h0_51, h0_52, h0_53, h0_54, h0_55, h0_56, h0_57, h0_58, h0_59, h0_60, h0_61, h0_62, h0_63, h0_64, h0_65, h0_66, h0_67, h0_68, h0_69])), (h1, .inl (ch1, 10, .inl fh1)), (h2, .inl (ch2, 10, .inl fh2)), (h3, .inl (ch3, 120, .inl fh3)), (h4, .inl (ch4, 12, .inl fh4))] H → va_D (fun _ => True) [(h0, .inr (12, [h0_0, h0_1, h0_2, .int ml, h0_4, h0_5, h0_6, h0_7, h0_8, h0_9, h0_10, .ref h4, h0_12, h0_13, h0_14, h0_15, h0_16, .int mw, .int mh, .int mc, .ref h1, .ref h2, .ref h3, h0_23, h0_24, h0_25, h0_26, h0_27, h0_28, h0_29, h0_30, h0_31, h0_32, h0_33, h0_34, h0_35, h0_36, h0_37, h0_38, h0_39, h0_40, h0_41, h0_42, h0_43, h0_44, h0_45, h0_46, h0_47, h0_48, h0_49, h0_50, h0_51, h0_52, h0_53, h0_54, h0_55, h0_56, h0_57, h0_58, h0_59, h0_60, h0_61, h0_62, h0_63, h0_64, h0_65, h0_66, h0_67, h0_68, h0_69])), (h1, .inl (ch1, 10, .inl fh1)), (h2, .inl (ch2, 10, .inl fh2)), (h3, .inl (ch3, 120, .inl fh3)), (h4, .inl (ch4, 12, .inl fh4))] → va_S A s.heap H locs → lv_has ls 8 [(7, .int i_23), (6, .int a_24), (5, .int i_13), (4, .int i_4), (3, .int n_14), (0, .ref h0), (1, .int p1), (2, .int p2)] → W p l e ({ frames := 1, cells := 0, slots := 0, locals := 23 } : Room) s m ([.ref h0, .int p1, .int p2] : List Value).toArray below meth c H locs 0 0 QQ (F0 m 32 ls []) := by
                intro n_21
                induction n_21 with
                | zero => intro i_23 a_24 H locs ls hm; exact absurd hm (Nat.not_lt_zero _)
                | succ n_21 ih_22 =>
                  intro i_23 a_24 H locs ls hm hF_25 hF_26 hF_27 hP hD hS hl
                  refine lv_iload hx hb dX12_holdsWithout_32 (lv_at hl 0 rfl) ?_
                  refine lv_aload_n hx hb dX12_holdsWithout_34 rfl (lv_at hl 5 rfl) ?_
                  refine va_get (D := (dC, dI)) (ci := 12) (v := .int mc) (C := RX12) (T := TX12) (N := 70) hx hb hts hiX12 hown hK hP 0 rfl rfl 19 (by decide) w__fieldLink_RX12_181_ShellHeapModel_columns_I_ (fun _ h9 => h9) rfl dX12_holdsWithout_35 ?_
                  refine lv_icmp_ge (tgt := 85) hx hb dX12_holdsWithout_38 (by decide) (fun c_28 => ?_) (fun c_28 => ?_)
                  · have k_29 : (mc).toInt ≤ (i_23).toInt := z_le c_28
                    refine lv_iconst (v := 0) hx hb dX12_holdsWithout_85 (by decide) ?_
                    refine lv_istore (lv' := [(7, .int 0), (6, .int a_24), (5, .int i_13), (4, .int i_4), (3, .int n_14), (0, .ref h0), (1, .int p1), (2, .int p2)]) hx hb dX12_holdsWithout_86 hl (by decide) rfl (fun ls hl => ?_)
                    have loop_30 : ∀ (n_31 : Nat) (i_33 : Int32) (n_34 : Int32) (H : Heap) (locs : List Loc) (ls : Array Slot), (13 - (i_33).toInt).toNat < n_31 → (((0 : Int) ≤ (i_33).toInt ∧ (i_33).toInt ≤ (12 : Int))) → va_P (dC, dI) vwCl [(h0, .inr (12, [h0_0, h0_1, h0_2, .int ml, h0_4, h0_5, h0_6, h0_7, h0_8, h0_9, h0_10, .ref h4, h0_12, h0_13, h0_14, h0_15, h0_16, .int mw, .int mh, .int mc, .ref h1, .ref h2, .ref h3, h0_23, h0_24, h0_25, h0_26, h0_27, h0_28, h0_29, h0_30, h0_31, h0_32, h0_33, h0_34, h0_35, h0_36, h0_37, h0_38, h0_39, h0_40, h0_41, h0_42, h0_43, h0_44, h0_45, h0_46, h0_47, h0_48, h0_49, h0_50, h0_51, h0_52, h0_53, h0_54, h0_55, h0_56, h0_57, h0_58, h0_59, h0_60, h0_61, h0_62, h0_63, h0_64, h0_65, h0_66, h0_67, h0_68, h0_69])), (h1, .inl (ch1, 10, .inl fh1)), (h2, .inl (ch2, 10, .inl fh2)), (h3, .inl (ch3, 120, .inl fh3)), (h4, .inl (ch4, 12, .inl fh4))] H → va_D (fun _ => True) [(h0, .inr (12, [h0_0, h0_1, h0_2, .int ml, h0_4, h0_5, h0_6, h0_7, h0_8, h0_9, h0_10, .ref h4, h0_12, h0_13, h0_14, h0_15, h0_16, .int mw, .int mh, .int mc, .ref h1, .ref h2, .ref h3, h0_23, h0_24, h0_25, h0_26, h0_27, h0_28, h0_29, h0_30, h0_31, h0_32, h0_33, h0_34, h0_35, h0_36, h0_37, h0_38, h0_39, h0_40, h0_41, h0_42, h0_43, h0_44, h0_45, h0_46, h0_47, h0_48, h0_49, h0_50, h0_51, h0_52, h0_53, h0_54, h0_55, h0_56, h0_57, h0_58, h0_59, h0_60, h0_61, h0_62, h0_63, h0_64, h0_65, h0_66, h0_67, h0_68, h0_69])), (h1, .inl (ch1, 10, .inl fh1)), (h2, .inl (ch2, 10, .inl fh2)), (h3, .inl (ch3, 120, .inl fh3)), (h4, .inl (ch4, 12, .inl fh4))] → va_S A s.heap H locs → lv_has ls 8 [(7, .int i_33), (6, .int a_24), (5, .int i_13), (4, .int i_4), (3, .int n_34), (0, .ref h0), (1, .int p1), (2, .int p2)] → W p l e ({ frames := 1, cells := 0, slots := 0, locals := 23 } : Room) s m ([.ref h0, .int p1, .int p2] : List Value).toArray below meth c H locs 0 0 QQ (F0 m 88 ls []) := by
                      intro n_31
                      induction n_31 with
                      | zero => intro i_33 n_34 H locs ls hm; exact absurd hm (Nat.not_lt_zero _)
                      | succ n_31 ih_32 =>
                        intro i_33 n_34 H locs ls hm hF_35 hP hD hS hl
                        refine lv_iload hx hb dX12_holdsWithout_88 (lv_at hl 0 rfl) ?_
                        refine lv_aload_n hx hb dX12_holdsWithout_90 rfl (lv_at hl 5 rfl) ?_
                        refine va_get (D := (dC, dI)) (ci := 12) (v := .int ml) (C := RX12) (T := TX12) (N := 70) hx hb hts hiX12 hown hK hP 0 rfl rfl 3 (by decide) w__fieldLink_RX12_151_ShellHeapModel_layers_I_ (fun _ h9 => h9) rfl dX12_holdsWithout_91 ?_
                        refine lv_icmp_ge (tgt := 134) hx hb dX12_holdsWithout_94 (by decide) (fun c_36 => ?_) (fun c_36 => ?_)
                        · have k_37 : (ml).toInt ≤ (i_33).toInt := z_le c_36
                          obtain ⟨z_38, ez_38⟩ : ∃ y : Int32, y = i_13 + 1 := ⟨_, rfl⟩
                          have kz_38 : (z_38).toInt = (i_13).toInt + (1 : Int) := by rw [ez_38]; exact z_add (b := 1) rfl rfl (z_al hF_15.1 (by decide)) (z_ah hF_15.2 (by decide))
                          refine lv_iinc (v := z_38) (lv' := [(5, .int z_38), (7, .int i_33), (6, .int a_24), (4, .int i_4), (3, .int n_34), (0, .ref h0), (1, .int p1), (2, .int p2)]) hx hb dX12_holdsWithout_134 hl (k := 2) rfl (by rw [ez_38]; rfl) (by decide) rfl (fun ls hl => ?_)
                          refine lv_goto (tgt := 17) hx hb dX12_holdsWithout_137 (by decide) ?_
                          exact ih_12 z_38 n_34 _ _ _ (show (13 - (z_38).toInt).toNat < n_11 by omega) (show ((0 : Int) ≤ (z_38).toInt ∧ (z_38).toInt ≤ (12 : Int)) by omega) hP hD hS (lv_sub hl [0, 3, 4, 5, 6, 7] rfl)
                        · have k_39 : (ml).toInt > (i_33).toInt := z_nle c_36
                          refine lv_iload_n hx hb dX12_holdsWithout_97 rfl (lv_at hl 4 rfl) ?_
                          refine lv_aload_n hx hb dX12_holdsWithout_98 rfl (lv_at hl 5 rfl) ?_
                          refine va_get (D := (dC, dI)) (ci := 12) (v := .ref h4) (C := RX12) (T := TX12) (N := 70) hx hb hts hiX12 hown hK hP 0 rfl rfl 11 (by decide) w__fieldLink_RX12_32_ShellHeapModel_bedOf_I_ (fun _ h9 => h9) rfl dX12_holdsWithout_99 ?_
                          refine lv_iload hx hb dX12_holdsWithout_102 (lv_at hl 0 rfl) ?_
                          refine va_iald hx hb hK hP 4 3 rfl rfl (z_vpin (by omega) (by omega)) dX12_holdsWithout_104 ?_
                          refine lv_topi (fun z_40 ez_40 => ?_)
                          have kz_40 : ((0 : Int) ≤ (z_40).toInt ∧ (z_40).toInt ≤ (11 : Int)) := by rw [ez_40]; exact hI_h4 _
                          refine lv_iload_n hx hb dX12_holdsWithout_105 rfl (lv_at hl 6 rfl) ?_
                          refine lv_icmp_ne (tgt := 125) hx hb dX12_holdsWithout_106 (by decide) (fun c_41 => ?_) (fun c_41 => ?_)
                          · have k_42 : (z_40).toInt ≠ (p1).toInt := z_ne c_41
                            refine lv_iconst (v := 0) hx hb dX12_holdsWithout_125 (by decide) ?_
                            refine lv_iadd hx hb dX12_holdsWithout_126 ?_
                            refine lv_topi (fun z_43 ez_43 => ?_)
                            have kr_z_43_n_34 := z_rng n_34
                            have kz_43 : (z_43).toInt = (n_34).toInt + (0 : Int) := by rw [ez_43]; exact z_add (a := (n_34).toInt) (b := (0 : Int)) rfl rfl (by omega) (by omega)
                            refine lv_istore_n (lv' := [(3, .int z_43), (7, .int i_33), (6, .int a_24), (5, .int i_13), (4, .int i_4), (0, .ref h0), (1, .int p1), (2, .int p2)]) hx hb dX12_holdsWithout_127 rfl hl (by decide) rfl (fun ls hl => ?_)
                            obtain ⟨z_44, ez_44⟩ : ∃ y : Int32, y = i_33 + 1 := ⟨_, rfl⟩
                            have kz_44 : (z_44).toInt = (i_33).toInt + (1 : Int) := by rw [ez_44]; exact z_add (b := 1) rfl rfl (z_al hF_35.1 (by decide)) (z_ah hF_35.2 (by decide))
                            refine lv_iinc (v := z_44) (lv' := [(7, .int z_44), (3, .int z_43), (6, .int a_24), (5, .int i_13), (4, .int i_4), (0, .ref h0), (1, .int p1), (2, .int p2)]) hx hb dX12_holdsWithout_128 hl (k := 1) rfl (by rw [ez_44]; rfl) (by decide) rfl (fun ls hl => ?_)
                            refine lv_goto (tgt := 88) hx hb dX12_holdsWithout_131 (by decide) ?_
                            exact ih_32 z_44 z_43 _ _ _ (show (13 - (z_44).toInt).toNat < n_31 by omega) (show ((0 : Int) ≤ (z_44).toInt ∧ (z_44).toInt ≤ (12 : Int)) by omega) hP hD hS (lv_sub hl [0, 2, 3, 4, 1, 5, 6, 7] rfl)
                          · have k_45 : (z_40).toInt = (p1).toInt := z_eq c_41
                            refine lv_aload_n hx hb dX12_holdsWithout_109 rfl (lv_at hl 5 rfl) ?_
                            refine va_get (D := (dC, dI)) (ci := 12) (v := .ref h3) (C := RX12) (T := TX12) (N := 70) hx hb hts hiX12 hown hK hP 0 rfl rfl 22 (by decide) w__fieldLink_RX12_60_ShellHeapModel_thickOf_I_ (fun _ h9 => h9) rfl dX12_holdsWithout_110 ?_
                            refine lv_bipush (v := 12) hx hb dX12_holdsWithout_113 (by decide) ?_
                            refine lv_iload hx hb dX12_holdsWithout_115 (lv_at hl 1 rfl) ?_
                            refine lv_imul hx hb dX12_holdsWithout_117 ?_
                            refine lv_topi (fun z_46 ez_46 => ?_)
                            have kz_46 : (z_46).toInt = (12 : Int) * (a_24).toInt := by rw [ez_46]; exact z_mul (a := (12 : Int)) (b := (a_24).toInt) rfl rfl (by omega) (by omega)
                            refine lv_iload hx hb dX12_holdsWithout_118 (lv_at hl 0 rfl) ?_
                            refine lv_iadd hx hb dX12_holdsWithout_120 ?_
                            refine lv_topi (fun z_47 ez_47 => ?_)
                            have kz_47 : (z_47).toInt = (z_46).toInt + (i_33).toInt := by rw [ez_47]; exact z_add (a := (z_46).toInt) (b := (i_33).toInt) rfl rfl (by omega) (by omega)
                            refine va_iald hx hb hK hP 3 2 rfl rfl (z_vpin (by omega) (by omega)) dX12_holdsWithout_121 ?_
                            refine lv_topi (fun z_48 ez_48 => ?_)
                            refine lv_goto (tgt := 126) hx hb dX12_holdsWithout_122 (by decide) ?_
                            refine lv_iadd hx hb dX12_holdsWithout_126 ?_
                            refine lv_topi (fun z_49 ez_49 => ?_)
                            refine lv_istore_n (lv' := [(3, .int z_49), (7, .int i_33), (6, .int a_24), (5, .int i_13), (4, .int i_4), (0, .ref h0), (1, .int p1), (2, .int p2)]) hx hb dX12_holdsWithout_127 rfl hl (by decide) rfl (fun ls hl => ?_)
                            obtain ⟨z_50, ez_50⟩ : ∃ y : Int32, y = i_33 + 1 := ⟨_, rfl⟩
                            have kz_50 : (z_50).toInt = (i_33).toInt + (1 : Int) := by rw [ez_50]; exact z_add (b := 1) rfl rfl (z_al hF_35.1 (by decide)) (z_ah hF_35.2 (by decide))
                            refine lv_iinc (v := z_50) (lv' := [(7, .int z_50), (3, .int z_49), (6, .int a_24), (5, .int i_13), (4, .int i_4), (0, .ref h0), (1, .int p1), (2, .int p2)]) hx hb dX12_holdsWithout_128 hl (k := 1) rfl (by rw [ez_50]; rfl) (by decide) rfl (fun ls hl => ?_)
                            refine lv_goto (tgt := 88) hx hb dX12_holdsWithout_131 (by decide) ?_
                            exact ih_32 z_50 z_49 _ _ _ (show (13 - (z_50).toInt).toNat < n_31 by omega) (show ((0 : Int) ≤ (z_50).toInt ∧ (z_50).toInt ≤ (12 : Int)) by omega) hP hD hS (lv_sub hl [0, 2, 3, 4, 1, 5, 6, 7] rfl)
                    exact loop_30 _ 0 n_14 _ _ _ (Nat.lt_succ_self _) (show ((0 : Int) ≤ (0 : Int) ∧ (0 : Int) ≤ (12 : Int)) by omega) hP hD hS hl
                  · have k_51 : (mc).toInt > (i_23).toInt := z_nle c_28
                    refine lv_iload hx hb dX12_holdsWithout_41 (lv_at hl 0 rfl) ?_
                    refine lv_iload_n hx hb dX12_holdsWithout_43 rfl (lv_at hl 7 rfl) ?_
                    refine lv_icmp_eq (tgt := 79) hx hb dX12_holdsWithout_44 (by decide) (fun c_52 => ?_) (fun c_52 => ?_)
                    · have k_53 : (i_23).toInt = (p2).toInt := z_eq c_52
                      obtain ⟨z_54, ez_54⟩ : ∃ y : Int32, y = i_23 + 1 := ⟨_, rfl⟩
                      have kz_54 : (z_54).toInt = (i_23).toInt + (1 : Int) := by rw [ez_54]; exact z_add (b := 1) rfl rfl (z_al hF_25.1 (by decide)) (z_ah hF_25.2 (by decide))
                      refine lv_iinc (v := z_54) (lv' := [(7, .int z_54), (6, .int a_24), (5, .int i_13), (4, .int i_4), (3, .int n_14), (0, .ref h0), (1, .int p1), (2, .int p2)]) hx hb dX12_holdsWithout_79 hl (k := 0) rfl (by rw [ez_54]; rfl) (by decide) rfl (fun ls hl => ?_)
                      refine lv_goto (tgt := 32) hx hb dX12_holdsWithout_82 (by decide) ?_
                      exact ih_22 z_54 a_24 _ _ _ (show (11 - (z_54).toInt).toNat < n_21 by omega) (show ((0 : Int) ≤ (z_54).toInt ∧ (z_54).toInt ≤ (10 : Int)) by omega) (show ((-1 : Int) ≤ (a_24).toInt ∧ (a_24).toInt ≤ (9 : Int)) by omega) (show 0 ≤ (a_24).toInt ∨ (z_54).toInt = 0 ∨ ((z_54).toInt = 1 ∧ (p2).toInt = 0) by omega) hP hD hS (lv_sub hl [0, 1, 2, 3, 4, 5, 6, 7] rfl)
                    · have k_55 : (i_23).toInt ≠ (p2).toInt := z_ne c_52
                      refine lv_iload hx hb dX12_holdsWithout_47 (lv_at hl 1 rfl) ?_
                      refine lv_if_lt (tgt := 75) hx hb dX12_holdsWithout_49 (by decide) (fun c_56 => ?_) (fun c_56 => ?_)
                      · have k_57 : (a_24).toInt < (0 : Int) := z_lt c_56
                        obtain rfl : a_24 = (-1) := z_eq' (show (a_24).toInt = (-1 : Int) by omega)
                        refine lv_iload hx hb dX12_holdsWithout_75 (lv_at hl 0 rfl) ?_
                        refine lv_istore (lv' := [(6, .int i_23), (7, .int i_23), (5, .int i_13), (4, .int i_4), (3, .int n_14), (0, .ref h0), (1, .int p1), (2, .int p2)]) hx hb dX12_holdsWithout_77 hl (by decide) rfl (fun ls hl => ?_)
                        obtain ⟨z_59, ez_59⟩ : ∃ y : Int32, y = i_23 + 1 := ⟨_, rfl⟩
                        have kz_59 : (z_59).toInt = (i_23).toInt + (1 : Int) := by rw [ez_59]; exact z_add (b := 1) rfl rfl (z_al hF_25.1 (by decide)) (z_ah hF_25.2 (by decide))
                        refine lv_iinc (v := z_59) (lv' := [(7, .int z_59), (6, .int i_23), (5, .int i_13), (4, .int i_4), (3, .int n_14), (0, .ref h0), (1, .int p1), (2, .int p2)]) hx hb dX12_holdsWithout_79 hl (k := 1) rfl (by rw [ez_59]; rfl) (by decide) rfl (fun ls hl => ?_)
                        refine lv_goto (tgt := 32) hx hb dX12_holdsWithout_82 (by decide) ?_
                        exact ih_22 z_59 i_23 _ _ _ (show (11 - (z_59).toInt).toNat < n_21 by omega) (show ((0 : Int) ≤ (z_59).toInt ∧ (z_59).toInt ≤ (10 : Int)) by omega) (show ((-1 : Int) ≤ (i_23).toInt ∧ (i_23).toInt ≤ (9 : Int)) by omega) (show 0 ≤ (i_23).toInt ∨ (z_59).toInt = 0 ∨ ((z_59).toInt = 1 ∧ (p2).toInt = 0) by omega) hP hD hS (lv_sub hl [0, 1, 2, 3, 4, 5, 6, 7] rfl)
                      · have k_60 : (a_24).toInt ≥ (0 : Int) := z_nlt c_56
                        refine lv_aload_n hx hb dX12_holdsWithout_52 rfl (lv_at hl 5 rfl) ?_
                        refine lv_iload hx hb dX12_holdsWithout_53 (lv_at hl 0 rfl) ?_
                        refine lv_iload hx hb dX12_holdsWithout_55 (lv_at hl 2 rfl) ?_
                        refine lv_iload hx hb dX12_holdsWithout_57 (lv_at hl 3 rfl) ?_
                        obtain ⟨hPc, hDc⟩ := z_sub2 (ws' := [(h0, .inr (12, [h0_0, h0_1, h0_2, .int ml, h0_4, h0_5, h0_6, h0_7, h0_8, h0_9, h0_10, .ref h4, h0_12, h0_13, h0_14, h0_15, h0_16, .int mw, .int mh, .int mc, .ref h1, .ref h2, .ref h3, h0_23, h0_24, h0_25, h0_26, h0_27, h0_28, h0_29, h0_30, h0_31, h0_32, h0_33, h0_34, h0_35, h0_36, h0_37, h0_38, h0_39, h0_40, h0_41, h0_42, h0_43, h0_44, h0_45, h0_46, h0_47, h0_48, h0_49, h0_50, h0_51, h0_52, h0_53, h0_54, h0_55, h0_56, h0_57, h0_58, h0_59, h0_60, h0_61, h0_62, h0_63, h0_64, h0_65, h0_66, h0_67, h0_68, h0_69])), (h1, .inl (ch1, 10, .inl fh1)), (h2, .inl (ch2, 10, .inl fh2))]) hP hD [0, 1, 2] (by decide) rfl
                        have hKc := hK.sub (tys' := [(ch1, .int), (ch2, .int)]) [0, 1] rfl
                        have hFc := va_free (ws := []) (wc := []) (z_D0 _) hS hA [] rfl
                        refine va_calli (va_runV (As := [.int i_23, .int i_13, .int i_4]) (rest := []) ⟨hx, hb, hml, hown, hts⟩ (s_X12_far l dC dI H.size h0 i_23 i_13 i_4 h0_0 h0_1 h0_2 (.int ml) h0_4 h0_5 h0_6 h0_7 h0_8 h0_9 h0_10 (.ref h4) h0_12 h0_13 h0_14 h0_15 h0_16 (.int mw) (.int mh) (.int mc) h1 h2 (.ref h3) h0_23 h0_24 h0_25 h0_26 h0_27 h0_28 h0_29 h0_30 h0_31 h0_32 h0_33 h0_34 h0_35 h0_36 h0_37 h0_38 h0_39 h0_40 h0_41 h0_42 h0_43 h0_44 h0_45 h0_46 h0_47 h0_48 h0_49 h0_50 h0_51 h0_52 h0_53 h0_54 h0_55 h0_56 h0_57 h0_58 h0_59 h0_60 h0_61 h0_62 h0_63 h0_64 h0_65 h0_66 h0_67 h0_68 h0_69 ch1 fh1 ch2 fh2 (by first | omega | decide)) (cwV 3 hts gw_s_X12_holdsWithout_s_X12_far_184 rfl rfl rfl (by decide +kernel) ⟨Nat.le_of_ble_eq_true rfl, Nat.le_of_ble_eq_true rfl⟩) ⟨z_blind, va_recv hKc hPc (ci := 12) (q0 := 0) rfl rfl, z_pre hPc hKc hDc⟩ rfl rfl hl.1 rfl (lv_room (Nat.le_of_ble_eq_true rfl)) dX12_holdsWithout_59 ⟨Nat.le_of_ble_eq_true rfl, Nat.le_of_ble_eq_true rfl⟩) hS (fun q _ h => hFc q h) hFc (fun r_62 u t H_61 locs ht hvm hw_63 hB hz1 hk1 hS => ?_)
                        replace hP := z_pure hP hk1
                        clear hPc hDc hKc
                        refine lv_aload_n hx hb dX12_holdsWithout_62 rfl (lv_at hl 5 rfl) ?_
                        refine lv_iload hx hb dX12_holdsWithout_63 (lv_at hl 1 rfl) ?_
                        refine lv_iload hx hb dX12_holdsWithout_65 (lv_at hl 2 rfl) ?_
                        refine lv_iload hx hb dX12_holdsWithout_67 (lv_at hl 3 rfl) ?_
                        obtain ⟨hPc, hDc⟩ := z_sub2 (ws' := [(h0, .inr (12, [h0_0, h0_1, h0_2, .int ml, h0_4, h0_5, h0_6, h0_7, h0_8, h0_9, h0_10, .ref h4, h0_12, h0_13, h0_14, h0_15, h0_16, .int mw, .int mh, .int mc, .ref h1, .ref h2, .ref h3, h0_23, h0_24, h0_25, h0_26, h0_27, h0_28, h0_29, h0_30, h0_31, h0_32, h0_33, h0_34, h0_35, h0_36, h0_37, h0_38, h0_39, h0_40, h0_41, h0_42, h0_43, h0_44, h0_45, h0_46, h0_47, h0_48, h0_49, h0_50, h0_51, h0_52, h0_53, h0_54, h0_55, h0_56, h0_57, h0_58, h0_59, h0_60, h0_61, h0_62, h0_63, h0_64, h0_65, h0_66, h0_67, h0_68, h0_69])), (h1, .inl (ch1, 10, .inl fh1)), (h2, .inl (ch2, 10, .inl fh2))]) hP hD [0, 1, 2] (by decide) rfl
                        have hKc := hK.sub (tys' := [(ch1, .int), (ch2, .int)]) [0, 1] rfl
                        have hFc := va_free (ws := []) (wc := []) (z_D0 _) hS hA [] rfl
                        refine va_calli (va_runV (As := [.int a_24, .int i_13, .int i_4]) (rest := [.int r_62]) ⟨hx, hb, hml, hown, hts⟩ (s_X12_far l dC dI H_61.size h0 a_24 i_13 i_4 h0_0 h0_1 h0_2 (.int ml) h0_4 h0_5 h0_6 h0_7 h0_8 h0_9 h0_10 (.ref h4) h0_12 h0_13 h0_14 h0_15 h0_16 (.int mw) (.int mh) (.int mc) h1 h2 (.ref h3) h0_23 h0_24 h0_25 h0_26 h0_27 h0_28 h0_29 h0_30 h0_31 h0_32 h0_33 h0_34 h0_35 h0_36 h0_37 h0_38 h0_39 h0_40 h0_41 h0_42 h0_43 h0_44 h0_45 h0_46 h0_47 h0_48 h0_49 h0_50 h0_51 h0_52 h0_53 h0_54 h0_55 h0_56 h0_57 h0_58 h0_59 h0_60 h0_61 h0_62 h0_63 h0_64 h0_65 h0_66 h0_67 h0_68 h0_69 ch1 fh1 ch2 fh2 (by first | omega | decide)) (cwV 3 hts gw_s_X12_holdsWithout_s_X12_far_184 rfl rfl rfl (by decide +kernel) ⟨Nat.le_of_ble_eq_true rfl, Nat.le_of_ble_eq_true rfl⟩) ⟨z_blind, va_recv hKc hPc (ci := 12) (q0 := 0) rfl rfl, z_pre hPc hKc hDc⟩ rfl rfl hl.1 rfl (lv_room (Nat.le_of_ble_eq_true rfl)) dX12_holdsWithout_69 ⟨Nat.le_of_ble_eq_true rfl, Nat.le_of_ble_eq_true rfl⟩) hS (fun q _ h => hFc q h) hFc (fun r_65 u t H_64 locs ht hvm hw_66 hB hz1 hk1 hS => ?_)
                        replace hP := z_pure hP hk1
                        clear hPc hDc hKc
                        refine lv_icmp_ge (tgt := 79) hx hb dX12_holdsWithout_72 (by decide) (fun c_67 => ?_) (fun c_67 => ?_)
                        · have k_68 : (r_65).toInt ≤ (r_62).toInt := z_le c_67
                          obtain ⟨z_69, ez_69⟩ : ∃ y : Int32, y = i_23 + 1 := ⟨_, rfl⟩
                          have kz_69 : (z_69).toInt = (i_23).toInt + (1 : Int) := by rw [ez_69]; exact z_add (b := 1) rfl rfl (z_al hF_25.1 (by decide)) (z_ah hF_25.2 (by decide))
                          refine lv_iinc (v := z_69) (lv' := [(7, .int z_69), (6, .int a_24), (5, .int i_13), (4, .int i_4), (3, .int n_14), (0, .ref h0), (1, .int p1), (2, .int p2)]) hx hb dX12_holdsWithout_79 hl (k := 0) rfl (by rw [ez_69]; rfl) (by decide) rfl (fun ls hl => ?_)
                          refine lv_goto (tgt := 32) hx hb dX12_holdsWithout_82 (by decide) ?_
                          exact ih_22 z_69 a_24 _ _ _ (show (11 - (z_69).toInt).toNat < n_21 by omega) (show ((0 : Int) ≤ (z_69).toInt ∧ (z_69).toInt ≤ (10 : Int)) by omega) (show ((-1 : Int) ≤ (a_24).toInt ∧ (a_24).toInt ≤ (9 : Int)) by omega) (show 0 ≤ (a_24).toInt ∨ (z_69).toInt = 0 ∨ ((z_69).toInt = 1 ∧ (p2).toInt = 0) by omega) hP hD hS (lv_sub hl [0, 1, 2, 3, 4, 5, 6, 7] rfl)
                        · have k_70 : (r_65).toInt > (r_62).toInt := z_nle c_67
                          refine lv_iload hx hb dX12_holdsWithout_75 (lv_at hl 0 rfl) ?_
                          refine lv_istore (lv' := [(6, .int i_23), (7, .int i_23), (5, .int i_13), (4, .int i_4), (3, .int n_14), (0, .ref h0), (1, .int p1), (2, .int p2)]) hx hb dX12_holdsWithout_77 hl (by decide) rfl (fun ls hl => ?_)
                          obtain ⟨z_71, ez_71⟩ : ∃ y : Int32, y = i_23 + 1 := ⟨_, rfl⟩
                          have kz_71 : (z_71).toInt = (i_23).toInt + (1 : Int) := by rw [ez_71]; exact z_add (b := 1) rfl rfl (z_al hF_25.1 (by decide)) (z_ah hF_25.2 (by decide))
                          refine lv_iinc (v := z_71) (lv' := [(7, .int z_71), (6, .int i_23), (5, .int i_13), (4, .int i_4), (3, .int n_14), (0, .ref h0), (1, .int p1), (2, .int p2)]) hx hb dX12_holdsWithout_79 hl (k := 1) rfl (by rw [ez_71]; rfl) (by decide) rfl (fun ls hl => ?_)
                          refine lv_goto (tgt := 32) hx hb dX12_holdsWithout_82 (by decide) ?_
                          exact ih_22 z_71 i_23 _ _ _ (show (11 - (z_71).toInt).toNat < n_21 by omega) (show ((0 : Int) ≤ (z_71).toInt ∧ (z_71).toInt ≤ (10 : Int)) by omega) (show ((-1 : Int) ≤ (i_23).toInt ∧ (i_23).toInt ≤ (9 : Int)) by omega) (show 0 ≤ (i_23).toInt ∨ (z_71).toInt = 0 ∨ ((z_71).toInt = 1 ∧ (p2).toInt = 0) by omega) hP hD hS (lv_sub hl [0, 1, 2, 3, 4, 5, 6, 7] rfl)
              exact loop_20 _ 0 (-1) _ _ _ (Nat.lt_succ_self _) (show ((0 : Int) ≤ (0 : Int) ∧ (0 : Int) ≤ (10 : Int)) by omega) (show ((-1 : Int) ≤ (-1 : Int) ∧ (-1 : Int) ≤ (9 : Int)) by omega) (show 0 ≤ (-1 : Int) ∨ (0 : Int) = 0 ∨ ((0 : Int) = 1 ∧ (p2).toInt = 0) by omega) hP hD hS hl
        exact loop_10 _ 0 n_5 _ _ _ (Nat.lt_succ_self _) (show ((0 : Int) ≤ (0 : Int) ∧ (0 : Int) ≤ (12 : Int)) by omega) hP hD hS hl
  exact loop_1 _ 0 0 _ _ _ (Nat.lt_succ_self _) (show ((0 : Int) ≤ (0 : Int) ∧ (0 : Int) ≤ (12 : Int)) by omega) hP hD hS hl
def u_s_X12_puts : List Cond := .code yX12_puts cX12_puts 9 (some .int) :: ([.methodLink RX12 294 yX12_gather, .instanceMethod yX12_gather, .selects RX12 yX12_gather yX12_gather, .initialized RX12, .constantLong RX12 274 (-1), .fieldLink RX12 297 "ShellHeapModel" "miss" "J", .methodLink RX12 301 yX12_missOf, .instanceMethod yX12_missOf, .selects RX12 yX12_missOf yX12_missOf, .fieldLink RX12 87 "ShellHeapModel" "put" "[I"] ++ (wsX120 ++ (u_s_X12_gather ++ (u_s_X12_missOf ++ []))))
theorem gd_s_X12_puts : z_gd u_s_X12_puts := z_gdc (by decide +kernel) (z_gda gdX12 (z_gda gd_s_X12_gather (z_gda gd_s_X12_missOf (z_gd0))))
set_option maxRecDepth 20000 in
theorem gw_s_X12_puts_s_X12_gather_294 : GoodIn u_s_X12_puts (wsV RX12 294 RX12 yX12_gather u_s_X12_gather) := z_gV (z_gr _ [1, 2, 3, 4] rfl (by decide +kernel)) (fun w h => ⟨z_mc (z_mr (z_mr (z_ml h))), gd_s_X12_gather w h⟩)
set_option maxRecDepth 20000 in
theorem gw_s_X12_puts_s_X12_missOf_301 : GoodIn u_s_X12_puts (wsV RX12 301 RX12 yX12_missOf u_s_X12_missOf) := z_gV (z_gr _ [7, 8, 9, 4] rfl (by decide +kernel)) (fun w h => ⟨z_mc (z_mr (z_mr (z_mr (z_ml h)))), gd_s_X12_missOf w h⟩)
set_option maxHeartbeats 4000000 in
set_option maxRecDepth 100000 in
theorem s_X12_puts (l : Launch) (dC : Nat → ClassId) (dI : Nat → Nat → Nat) (sz : Nat) (h0 : Nat) (p1 : Int32) (p2 : Int32) (h0_0 : Value) (h0_1 : Value) (h0_2 : Value) (ml : Int32) (h0_4 : Value) (h0_5 : Value) (h0_6 : Value) (h0_7 : Value) (h0_8 : Value) (h0_9 : Value) (h0_10 : Value) (h1 : Nat) (h0_12 : Value) (h0_13 : Value) (h0_14 : Value) (h0_15 : Value) (h0_16 : Value) (h0_17 : Value) (h0_18 : Value) (h0_19 : Value) (h0_20 : Value) (h0_21 : Value) (h0_22 : Value) (h0_23 : Value) (h0_24 : Value) (h0_25 : Value) (h0_26 : Value) (h0_27 : Value) (h0_28 : Value) (h0_29 : Value) (h0_30 : Value) (h0_31 : Value) (h0_32 : Value) (h0_33 : Value) (h0_34 : Value) (h4 : Nat) (h3 : Nat) (h2 : Nat) (h5 : Nat) (mm : Int64) (h0_40 : Value) (h0_41 : Value) (h0_42 : Value) (h0_43 : Value) (h0_44 : Value) (h0_45 : Value) (h0_46 : Value) (h0_47 : Value) (h0_48 : Value) (h0_49 : Value) (h0_50 : Value) (h0_51 : Value) (h0_52 : Value) (h0_53 : Value) (h0_54 : Value) (h0_55 : Value) (h0_56 : Value) (h0_57 : Value) (h0_58 : Value) (h0_59 : Value) (h0_60 : Value) (h0_61 : Value) (h0_62 : Value) (h0_63 : Value) (h0_64 : Value) (h0_65 : Value) (h0_66 : Value) (h0_67 : Value) (h0_68 : Value) (h0_69 : Value) (ch1 : ClassId) (fh1 : Nat → Int32) (ch2 : ClassId) (fh2 : Nat → Int32) (ch3 : ClassId) (fh3 : Nat → Int32) (ch4 : ClassId) (fh4 : Nat → Int32) (ch5 : ClassId) (fh5 : Nat → Int32) (hB_p2 : ((0 : Int) ≤ (p2).toInt ∧ (p2).toInt ≤ (2 : Int))) (hB_ml : ((0 : Int) ≤ (ml).toInt ∧ (ml).toInt ≤ (12 : Int))) (hI_h1 : ∀ j : Nat, ((0 : Int) ≤ (fh1 j).toInt ∧ (fh1 j).toInt ≤ (11 : Int))) : Met l yX12_puts u_s_X12_puts ({ frames := 1, cells := 0, slots := 0, locals := 31 }) (va_Pc [.ref h0, .int p1, .int p2] (z_C (dC, dI) vwCl [(h0, .inr (12, [h0_0, h0_1, h0_2, .int ml, h0_4, h0_5, h0_6, h0_7, h0_8, h0_9, h0_10, .ref h1, h0_12, h0_13, h0_14, h0_15, h0_16, h0_17, h0_18, h0_19, h0_20, h0_21, h0_22, h0_23, h0_24, h0_25, h0_26, h0_27, h0_28, h0_29, h0_30, h0_31, h0_32, h0_33, h0_34, .ref h4, .ref h3, .ref h2, .ref h5, .long mm, h0_40, h0_41, h0_42, h0_43, h0_44, h0_45, h0_46, h0_47, h0_48, h0_49, h0_50, h0_51, h0_52, h0_53, h0_54, h0_55, h0_56, h0_57, h0_58, h0_59, h0_60, h0_61, h0_62, h0_63, h0_64, h0_65, h0_66, h0_67, h0_68, h0_69])), (h1, .inl (ch1, 12, .inl fh1)), (h2, .inl (ch2, 4, .inl fh2)), (h3, .inl (ch3, 144, .inl fh3)), (h4, .inl (ch4, 48, .inl fh4)), (h5, .inl (ch5, 4, .inl fh5))] [(ch1, .int), (ch2, .int), (ch3, .int), (ch4, .int), (ch5, .int)] sz)) (va_Qi (fun (r : Int32) (_ : Unit) => True) (fun (_ : Unit) (t : State) => ∃ (n_h0_miss : Int64), ∃ (g_h2 : Nat → Int32), ∃ (g_h5 : Nat → Int32), va_P (dC, dI) vwCl [(h0, .inr (12, [h0_0, h0_1, h0_2, .int ml, h0_4, h0_5, h0_6, h0_7, h0_8, h0_9, h0_10, .ref h1, h0_12, h0_13, h0_14, h0_15, h0_16, h0_17, h0_18, h0_19, h0_20, h0_21, h0_22, h0_23, h0_24, h0_25, h0_26, h0_27, h0_28, h0_29, h0_30, h0_31, h0_32, h0_33, h0_34, .ref h4, .ref h3, .ref h2, .ref h5, .long n_h0_miss, h0_40, h0_41, h0_42, h0_43, h0_44, h0_45, h0_46, h0_47, h0_48, h0_49, h0_50, h0_51, h0_52, h0_53, h0_54, h0_55, h0_56, h0_57, h0_58, h0_59, h0_60, h0_61, h0_62, h0_63, h0_64, h0_65, h0_66, h0_67, h0_68, h0_69])), (h1, .inl (ch1, 12, .inl fh1)), (h2, .inl (ch2, 4, .inl g_h2)), (h3, .inl (ch3, 144, .inl fh3)), (h4, .inl (ch4, 48, .inl fh4)), (h5, .inl (ch5, 4, .inl g_h5))] t.heap ∧ va_K (dC, dI) vwCl [] t ∧ va_D (va_A [(h0, .inr (12, [h0_0, h0_1, h0_2, .int ml, h0_4, h0_5, h0_6, h0_7, h0_8, h0_9, h0_10, .ref h1, h0_12, h0_13, h0_14, h0_15, h0_16, h0_17, h0_18, h0_19, h0_20, h0_21, h0_22, h0_23, h0_24, h0_25, h0_26, h0_27, h0_28, h0_29, h0_30, h0_31, h0_32, h0_33, h0_34, .ref h4, .ref h3, .ref h2, .ref h5, .long mm, h0_40, h0_41, h0_42, h0_43, h0_44, h0_45, h0_46, h0_47, h0_48, h0_49, h0_50, h0_51, h0_52, h0_53, h0_54, h0_55, h0_56, h0_57, h0_58, h0_59, h0_60, h0_61, h0_62, h0_63, h0_64, h0_65, h0_66, h0_67, h0_68, h0_69])), (h1, .inl (ch1, 12, .inl fh1)), (h2, .inl (ch2, 4, .inl fh2)), (h3, .inl (ch3, 144, .inl fh3)), (h4, .inl (ch4, 48, .inl fh4)), (h5, .inl (ch5, 4, .inl fh5))] sz) [(h0, .inr (12, [h0_0, h0_1, h0_2, .int ml, h0_4, h0_5, h0_6, h0_7, h0_8, h0_9, h0_10, .ref h1, h0_12, h0_13, h0_14, h0_15, h0_16, h0_17, h0_18, h0_19, h0_20, h0_21, h0_22, h0_23, h0_24, h0_25, h0_26, h0_27, h0_28, h0_29, h0_30, h0_31, h0_32, h0_33, h0_34, .ref h4, .ref h3, .ref h2, .ref h5, .long n_h0_miss, h0_40, h0_41, h0_42, h0_43, h0_44, h0_45, h0_46, h0_47, h0_48, h0_49, h0_50, h0_51, h0_52, h0_53, h0_54, h0_55, h0_56, h0_57, h0_58, h0_59, h0_60, h0_61, h0_62, h0_63, h0_64, h0_65, h0_66, h0_67, h0_68, h0_69])), (h1, .inl (ch1, 12, .inl fh1)), (h2, .inl (ch2, 4, .inl g_h2)), (h3, .inl (ch3, 144, .inl fh3)), (h4, .inl (ch4, 48, .inl fh4)), (h5, .inl (ch5, 4, .inl g_h5))]) (va_A [(h0, .inr (12, [h0_0, h0_1, h0_2, .int ml, h0_4, h0_5, h0_6, h0_7, h0_8, h0_9, h0_10, .ref h1, h0_12, h0_13, h0_14, h0_15, h0_16, h0_17, h0_18, h0_19, h0_20, h0_21, h0_22, h0_23, h0_24, h0_25, h0_26, h0_27, h0_28, h0_29, h0_30, h0_31, h0_32, h0_33, h0_34, .ref h4, .ref h3, .ref h2, .ref h5, .long mm, h0_40, h0_41, h0_42, h0_43, h0_44, h0_45, h0_46, h0_47, h0_48, h0_49, h0_50, h0_51, h0_52, h0_53, h0_54, h0_55, h0_56, h0_57, h0_58, h0_59, h0_60, h0_61, h0_62, h0_63, h0_64, h0_65, h0_66, h0_67, h0_68, h0_69])), (h1, .inl (ch1, 12, .inl fh1)), (h2, .inl (ch2, 4, .inl fh2)), (h3, .inl (ch3, 144, .inl fh3)), (h4, .inl (ch4, 48, .inl fh4)), (h5, .inl (ch5, 4, .inl fh5))] sz)) 0 0 (va_A [(h0, .inr (12, [h0_0, h0_1, h0_2, .int ml, h0_4, h0_5, h0_6, h0_7, h0_8, h0_9, h0_10, .ref h1, h0_12, h0_13, h0_14, h0_15, h0_16, h0_17, h0_18, h0_19, h0_20, h0_21, h0_22, h0_23, h0_24, h0_25, h0_26, h0_27, h0_28, h0_29, h0_30, h0_31, h0_32, h0_33, h0_34, .ref h4, .ref h3, .ref h2, .ref h5, .long mm, h0_40, h0_41, h0_42, h0_43, h0_44, h0_45, h0_46, h0_47, h0_48, h0_49, h0_50, h0_51, h0_52, h0_53, h0_54, h0_55, h0_56, h0_57, h0_58, h0_59, h0_60, h0_61, h0_62, h0_63, h0_64, h0_65, h0_66, h0_67, h0_68, h0_69])), (h1, .inl (ch1, 12, .inl fh1)), (h2, .inl (ch2, 4, .inl fh2)), (h3, .inl (ch3, 144, .inl fh3)), (h4, .inl (ch4, 48, .inl fh4)), (h5, .inl (ch5, 4, .inl fh5))] sz) := by
  refine Met.ofW (cc := cX12_puts) (maxL := 9) (ret := (some .int)) (by decide) rfl ?_
  intro p e s m args below meth c s₁ B hml hv
  obtain ⟨rfl, hsz, hP, hK, hD0⟩ := hv
  have hx := B.exec
  have hb := B.bytes
  have hr := B.returns
  have hts := atoms_spec (ws := u_s_X12_puts) B.pre
  have hown : s.vm.findClass RX12 = some m.cls := findClass_of_methodNamed B.named
  have hlocks := B.notSynchronized
  subst hsz
  have hD := hD0.self (sz := s.heap.size)
  generalize hAe : va_A [(h0, .inr (12, [h0_0, h0_1, h0_2, .int ml, h0_4, h0_5, h0_6, h0_7, h0_8, h0_9, h0_10, .ref h1, h0_12, h0_13, h0_14, h0_15, h0_16, h0_17, h0_18, h0_19, h0_20, h0_21, h0_22, h0_23, h0_24, h0_25, h0_26, h0_27, h0_28, h0_29, h0_30, h0_31, h0_32, h0_33, h0_34, .ref h4, .ref h3, .ref h2, .ref h5, .long mm, h0_40, h0_41, h0_42, h0_43, h0_44, h0_45, h0_46, h0_47, h0_48, h0_49, h0_50, h0_51, h0_52, h0_53, h0_54, h0_55, h0_56, h0_57, h0_58, h0_59, h0_60, h0_61, h0_62, h0_63, h0_64, h0_65, h0_66, h0_67, h0_68, h0_69])), (h1, .inl (ch1, 12, .inl fh1)), (h2, .inl (ch2, 4, .inl fh2)), (h3, .inl (ch3, 144, .inl fh3)), (h4, .inl (ch4, 48, .inl fh4)), (h5, .inl (ch5, 4, .inl fh5))] s.heap.size = A at hD ⊢
  have hA : ∀ q : Nat, s.heap.size ≤ q → A q := fun q h => by rw [← hAe]; exact Or.inr h
  have hS : va_S A s.heap s.heap [] := va_S.rf
  have hP : va_P (dC, dI) vwCl [(h0, .inr (12, [h0_0, h0_1, h0_2, .int ml, h0_4, h0_5, h0_6, h0_7, h0_8, h0_9, h0_10, .ref h1, h0_12, h0_13, h0_14, h0_15, h0_16, h0_17, h0_18, h0_19, h0_20, h0_21, h0_22, h0_23, h0_24, h0_25, h0_26, h0_27, h0_28, h0_29, h0_30, h0_31, h0_32, h0_33, h0_34, .ref h4, .ref h3, .ref h2, .ref h5, .long mm, h0_40, h0_41, h0_42, h0_43, h0_44, h0_45, h0_46, h0_47, h0_48, h0_49, h0_50, h0_51, h0_52, h0_53, h0_54, h0_55, h0_56, h0_57, h0_58, h0_59, h0_60, h0_61, h0_62, h0_63, h0_64, h0_65, h0_66, h0_67, h0_68, h0_69])), (h1, .inl (ch1, 12, .inl fh1)), (h2, .inl (ch2, 4, .inl fh2)), (h3, .inl (ch3, 144, .inl fh3)), (h4, .inl (ch4, 48, .inl fh4)), (h5, .inl (ch5, 4, .inl fh5))] s.heap := hP
  have w__constantLong_RX12_274_1_ := hts (.constantLong RX12 274 (-1)) (z_mc (z_ml z_m4))
  have w__fieldLink_RX12_297_ShellHeapModel_miss_J_ := hts (.fieldLink RX12 297 "ShellHeapModel" "miss" "J") (z_mc (z_ml z_m5))
  have hiX12 := show ∀ w ∈ u_ws RX12 TX12 70, w ∈ u_s_X12_puts from fun w h => z_mc (z_mr (z_ml h))
  have w__fieldLink_RX12_87_ShellHeapModel_put_I_ := hts (.fieldLink RX12 87 "ShellHeapModel" "put" "[I") (z_mc (z_ml z_m9))
  have krr_p1 := z_rng p1
  have hl := lv_entry ([.ref h0, .int p1, .int p2]) (n := 9) (Nat.le_of_ble_eq_true rfl)
  rw [lg_entry_eq]
  generalize (lg_sl ([.ref h0, .int p1, .int p2]) ++ List.replicate (9 - (lg_sl ([.ref h0, .int p1, .int p2])).length) Slot.unset).toArray = ls at hl ⊢
  have hl : lv_has ls 9 [(0, .ref h0), (1, .int p1), (2, .int p2)] := hl
  refine z_nameQ (fun QQ hQQ => ?_)
  refine lv_aload_n hx hb dX12_puts_0 rfl (lv_at hl 0 rfl) ?_
  refine lv_iload_n hx hb dX12_puts_1 rfl (lv_at hl 1 rfl) ?_
  refine lv_iload_n hx hb dX12_puts_2 rfl (lv_at hl 2 rfl) ?_
  obtain ⟨hPc, hDc, hFc⟩ := z_sub3 (ws' := [(h0, .inr (12, [h0_0, h0_1, h0_2, .int ml, h0_4, h0_5, h0_6, h0_7, h0_8, h0_9, h0_10, .ref h1, h0_12, h0_13, h0_14, h0_15, h0_16, h0_17, h0_18, h0_19, h0_20, h0_21, h0_22, h0_23, h0_24, h0_25, h0_26, h0_27, h0_28, h0_29, h0_30, h0_31, h0_32, h0_33, h0_34, .ref h4, .ref h3, .ref h2, .ref h5, .long mm, h0_40, h0_41, h0_42, h0_43, h0_44, h0_45, h0_46, h0_47, h0_48, h0_49, h0_50, h0_51, h0_52, h0_53, h0_54, h0_55, h0_56, h0_57, h0_58, h0_59, h0_60, h0_61, h0_62, h0_63, h0_64, h0_65, h0_66, h0_67, h0_68, h0_69])), (h1, .inl (ch1, 12, .inl fh1)), (h2, .inl (ch2, 4, .inl fh2)), (h3, .inl (ch3, 144, .inl fh3))]) hP hD hS hA [0, 1, 2, 3] (by decide) rfl
  have hKc := hK.sub (tys' := [(ch1, .int), (ch2, .int), (ch3, .int)]) [0, 1, 2] rfl
  refine va_calli (va_runV (As := [.int p1, .int p2]) (rest := []) ⟨hx, hb, hml, hown, hts⟩ (s_X12_gather l dC dI s.heap.size h0 p1 p2 h0_0 h0_1 h0_2 ml h0_4 h0_5 h0_6 h0_7 h0_8 h0_9 h0_10 h1 h0_12 h0_13 h0_14 h0_15 h0_16 h0_17 h0_18 h0_19 h0_20 h0_21 h0_22 h0_23 h0_24 h0_25 h0_26 h0_27 h0_28 h0_29 h0_30 h0_31 h0_32 h0_33 h0_34 (.ref h4) h3 h2 (.ref h5) (.long mm) h0_40 h0_41 h0_42 h0_43 h0_44 h0_45 h0_46 h0_47 h0_48 h0_49 h0_50 h0_51 h0_52 h0_53 h0_54 h0_55 h0_56 h0_57 h0_58 h0_59 h0_60 h0_61 h0_62 h0_63 h0_64 h0_65 h0_66 h0_67 h0_68 h0_69 ch1 fh1 ch2 fh2 ch3 fh3 hB_p2 hB_ml hI_h1) (cwV 2 hts gw_s_X12_puts_s_X12_gather_294 rfl rfl rfl (by decide +kernel) ⟨Nat.le_of_ble_eq_true rfl, Nat.le_of_ble_eq_true rfl⟩) ⟨z_blind, va_recv hKc hPc (ci := 12) (q0 := 0) rfl rfl, z_pre hPc hKc hDc⟩ rfl rfl hl.1 rfl (lv_room (Nat.le_of_ble_eq_true rfl)) dX12_puts_3 ⟨Nat.le_of_ble_eq_true rfl, Nat.le_of_ble_eq_true rfl⟩) hS (fun q _ h => hFc q h) hFc (fun r_2 u t H_1 locs ht hvm hw_3 hB hz1 hk1 hS => ?_)
  obtain ⟨g_h2_4, hP1, hK1, hD1⟩ := hB
  rw [ht] at hP1
  have hK1 := va_K.moved hvm.symm hK1
  obtain ⟨hP, hD⟩ := z_ap_2 (va_join (wr := [(h4, .inl (ch4, 48, .inl fh4)), (h5, .inl (ch5, 4, .inl fh5))]) hP hD [0, 1, 2, 3] [4, 5] rfl rfl (by decide) (by decide) hk1 hFc hP1 hD1)
  clear hPc hDc hKc
  refine lv_istore_n (lv' := [(3, .int r_2), (0, .ref h0), (1, .int p1), (2, .int p2)]) hx hb dX12_puts_6 rfl hl (by decide) rfl (fun ls hl => ?_)
  refine lv_aload_n hx hb dX12_puts_7 rfl (lv_at hl 1 rfl) ?_
  refine lv_ldc2 (v := (-1)) hx hb hown w__constantLong_RX12_274_1_ dX12_puts_8 ?_
  refine va_put (D := (dC, dI)) (ci := 12) (v := .long (-1)) (ty := .long) (C := RX12) (T := TX12) (N := 70) hx hb hts hiX12 tyX12 tyX12_ok nmX12 hown hK hP hD hS 2 rfl rfl 39 (by decide) w__fieldLink_RX12_297_ShellHeapModel_miss_J_ (fun _ h9 => h9) rfl (by decide +kernel) rfl rfl (Nat.le_of_ble_eq_true rfl) dX12_puts_11 (fun H_5 locs hP hD hS => ?_)
  obtain ⟨hP, hD⟩ := z_s_2_39 hP hD
  refine lv_iload_n hx hb dX12_puts_14 rfl (lv_at hl 0 rfl) ?_
  refine lv_bipush (v := 40) hx hb dX12_puts_15 (by decide) ?_
  refine lv_icmp_le (tgt := 22) hx hb dX12_puts_17 (by decide) (fun c_6 => ?_) (fun c_6 => ?_)
  · have k_7 : (r_2).toInt ≤ (40 : Int) := z_le c_6
    refine lv_iconst (v := 0) hx hb dX12_puts_22 (by decide) ?_
    refine lv_istore (lv' := [(4, .int 0), (3, .int r_2), (0, .ref h0), (1, .int p1), (2, .int p2)]) hx hb dX12_puts_23 hl (by decide) rfl (fun ls hl => ?_)
    have loop_8 : ∀ (n_9 : Nat) (w_11 : Int32) (v_12 : Int64) (f_13 : Nat → Int32) (H : Heap) (locs : List Loc) (ls : Array Slot), (42 - (w_11).toInt).toNat < n_9 → (((0 : Int) ≤ (w_11).toInt ∧ (w_11).toInt ≤ (41 : Int))) → va_P (dC, dI) vwCl [(h4, .inl (ch4, 48, .inl fh4)), (h5, .inl (ch5, 4, .inl f_13)), (h0, .inr (12, [h0_0, h0_1, h0_2, .int ml, h0_4, h0_5, h0_6, h0_7, h0_8, h0_9, h0_10, .ref h1, h0_12, h0_13, h0_14, h0_15, h0_16, h0_17, h0_18, h0_19, h0_20, h0_21, h0_22, h0_23, h0_24, h0_25, h0_26, h0_27, h0_28, h0_29, h0_30, h0_31, h0_32, h0_33, h0_34, .ref h4, .ref h3, .ref h2, .ref h5, .long v_12, h0_40, h0_41, h0_42, h0_43, h0_44, h0_45, h0_46, h0_47, h0_48, h0_49, h0_50, h0_51, h0_52, h0_53, h0_54, h0_55, h0_56, h0_57, h0_58, h0_59, h0_60, h0_61, h0_62, h0_63, h0_64, h0_65, h0_66, h0_67, h0_68, h0_69])), (h1, .inl (ch1, 12, .inl fh1)), (h2, .inl (ch2, 4, .inl g_h2_4)), (h3, .inl (ch3, 144, .inl fh3))] H → va_D A [(h4, .inl (ch4, 48, .inl fh4)), (h5, .inl (ch5, 4, .inl f_13)), (h0, .inr (12, [h0_0, h0_1, h0_2, .int ml, h0_4, h0_5, h0_6, h0_7, h0_8, h0_9, h0_10, .ref h1, h0_12, h0_13, h0_14, h0_15, h0_16, h0_17, h0_18, h0_19, h0_20, h0_21, h0_22, h0_23, h0_24, h0_25, h0_26, h0_27, h0_28, h0_29, h0_30, h0_31, h0_32, h0_33, h0_34, .ref h4, .ref h3, .ref h2, .ref h5, .long v_12, h0_40, h0_41, h0_42, h0_43, h0_44, h0_45, h0_46, h0_47, h0_48, h0_49, h0_50, h0_51, h0_52, h0_53, h0_54, h0_55, h0_56, h0_57, h0_58, h0_59, h0_60, h0_61, h0_62, h0_63, h0_64, h0_65, h0_66, h0_67, h0_68, h0_69])), (h1, .inl (ch1, 12, .inl fh1)), (h2, .inl (ch2, 4, .inl g_h2_4)), (h3, .inl (ch3, 144, .inl fh3))] → va_S A s.heap H locs → lv_has ls 9 [(4, .int w_11), (3, .int r_2), (0, .ref h0), (1, .int p1), (2, .int p2)] → W p l e ({ frames := 1, cells := 0, slots := 0, locals := 31 } : Room) s m ([.ref h0, .int p1, .int p2] : List Value).toArray below meth c H locs 0 0 QQ (F0 m 25 ls []) := by
      intro n_9
      induction n_9 with
      | zero => intro w_11 v_12 f_13 H locs ls hm; exact absurd hm (Nat.not_lt_zero _)
      | succ n_9 ih_10 =>
        intro w_11 v_12 f_13 H locs ls hm hF_14 hP hD hS hl
        refine lv_iload hx hb dX12_puts_25 (lv_at hl 0 rfl) ?_
        refine lv_iload_n hx hb dX12_puts_27 rfl (lv_at hl 1 rfl) ?_
        refine lv_icmp_gt (tgt := 167) hx hb dX12_puts_28 (by decide) (fun c_15 => ?_) (fun c_15 => ?_)
        · have k_16 : (r_2).toInt < (w_11).toInt := z_lt c_15
          refine lv_iload_n hx hb dX12_puts_167 rfl (lv_at hl 1 rfl) ?_
          refine z_backQ hQQ ?_
          obtain ⟨hP9, hD9⟩ := z_sub2 (ws' := [(h0, .inr (12, [h0_0, h0_1, h0_2, .int ml, h0_4, h0_5, h0_6, h0_7, h0_8, h0_9, h0_10, .ref h1, h0_12, h0_13, h0_14, h0_15, h0_16, h0_17, h0_18, h0_19, h0_20, h0_21, h0_22, h0_23, h0_24, h0_25, h0_26, h0_27, h0_28, h0_29, h0_30, h0_31, h0_32, h0_33, h0_34, .ref h4, .ref h3, .ref h2, .ref h5, .long v_12, h0_40, h0_41, h0_42, h0_43, h0_44, h0_45, h0_46, h0_47, h0_48, h0_49, h0_50, h0_51, h0_52, h0_53, h0_54, h0_55, h0_56, h0_57, h0_58, h0_59, h0_60, h0_61, h0_62, h0_63, h0_64, h0_65, h0_66, h0_67, h0_68, h0_69])), (h1, .inl (ch1, 12, .inl fh1)), (h2, .inl (ch2, 4, .inl g_h2_4)), (h3, .inl (ch3, 144, .inl fh3)), (h4, .inl (ch4, 48, .inl fh4)), (h5, .inl (ch5, 4, .inl f_13))]) hP hD [2, 3, 4, 5, 0, 1] (by decide) rfl
          have hK9 := hK.sub (tys' := []) [] rfl
          refine W.widen (k := 0) (n := 0) (Nat.le_of_ble_eq_true rfl) (Nat.le_of_ble_eq_true rfl) ?_
          exact W.iret (v := r_2) hx hb hr (fun t ht hW => ⟨⟨r_2, (), rfl, trivial, ⟨v_12, g_h2_4, f_13, by rw [ht]; exact hP9, va_K.moved hW.alike hK9, hD9⟩⟩, hS.F ht⟩) hS.2.2 dX12_puts_168
        · have k_17 : (r_2).toInt ≥ (w_11).toInt := z_nlt c_15
          refine lv_iconst (v := 0) hx hb dX12_puts_31 (by decide) ?_
          refine lv_istore (lv' := [(5, .int 0), (4, .int w_11), (3, .int r_2), (0, .ref h0), (1, .int p1), (2, .int p2)]) hx hb dX12_puts_32 hl (by decide) rfl (fun ls hl => ?_)
          have loop_18 : ∀ (n_19 : Nat) (x_21 : Int32) (v_22 : Int64) (f_23 : Nat → Int32) (H : Heap) (locs : List Loc) (ls : Array Slot), (42 - (x_21).toInt).toNat < n_19 → (((0 : Int) ≤ (x_21).toInt ∧ (x_21).toInt ≤ (41 : Int))) → va_P (dC, dI) vwCl [(h4, .inl (ch4, 48, .inl fh4)), (h5, .inl (ch5, 4, .inl f_23)), (h0, .inr (12, [h0_0, h0_1, h0_2, .int ml, h0_4, h0_5, h0_6, h0_7, h0_8, h0_9, h0_10, .ref h1, h0_12, h0_13, h0_14, h0_15, h0_16, h0_17, h0_18, h0_19, h0_20, h0_21, h0_22, h0_23, h0_24, h0_25, h0_26, h0_27, h0_28, h0_29, h0_30, h0_31, h0_32, h0_33, h0_34, .ref h4, .ref h3, .ref h2, .ref h5, .long v_22, h0_40, h0_41, h0_42, h0_43, h0_44, h0_45, h0_46, h0_47, h0_48, h0_49, h0_50, h0_51, h0_52, h0_53, h0_54, h0_55, h0_56, h0_57, h0_58, h0_59, h0_60, h0_61, h0_62, h0_63, h0_64, h0_65, h0_66, h0_67, h0_68, h0_69])), (h1, .inl (ch1, 12, .inl fh1)), (h2, .inl (ch2, 4, .inl g_h2_4)), (h3, .inl (ch3, 144, .inl fh3))] H → va_D A [(h4, .inl (ch4, 48, .inl fh4)), (h5, .inl (ch5, 4, .inl f_23)), (h0, .inr (12, [h0_0, h0_1, h0_2, .int ml, h0_4, h0_5, h0_6, h0_7, h0_8, h0_9, h0_10, .ref h1, h0_12, h0_13, h0_14, h0_15, h0_16, h0_17, h0_18, h0_19, h0_20, h0_21, h0_22, h0_23, h0_24, h0_25, h0_26, h0_27, h0_28, h0_29, h0_30, h0_31, h0_32, h0_33, h0_34, .ref h4, .ref h3, .ref h2, .ref h5, .long v_22, h0_40, h0_41, h0_42, h0_43, h0_44, h0_45, h0_46, h0_47, h0_48, h0_49, h0_50, h0_51, h0_52, h0_53, h0_54, h0_55, h0_56, h0_57, h0_58, h0_59, h0_60, h0_61, h0_62, h0_63, h0_64, h0_65, h0_66, h0_67, h0_68, h0_69])), (h1, .inl (ch1, 12, .inl fh1)), (h2, .inl (ch2, 4, .inl g_h2_4)), (h3, .inl (ch3, 144, .inl fh3))] → va_S A s.heap H locs → lv_has ls 9 [(5, .int x_21), (4, .int w_11), (3, .int r_2), (0, .ref h0), (1, .int p1), (2, .int p2)] → W p l e ({ frames := 1, cells := 0, slots := 0, locals := 31 } : Room) s m ([.ref h0, .int p1, .int p2] : List Value).toArray below meth c H locs 0 0 QQ (F0 m 34 ls []) := by
            intro n_19
            induction n_19 with
            | zero => intro x_21 v_22 f_23 H locs ls hm; exact absurd hm (Nat.not_lt_zero _)
            | succ n_19 ih_20 =>
              intro x_21 v_22 f_23 H locs ls hm hF_24 hP hD hS hl
              refine lv_iload hx hb dX12_puts_34 (lv_at hl 1 rfl) ?_
              refine lv_iload hx hb dX12_puts_36 (lv_at hl 0 rfl) ?_
              refine lv_iadd hx hb dX12_puts_38 ?_
              refine lv_topi (fun z_25 ez_25 => ?_)
              have kz_25 : (z_25).toInt = (w_11).toInt + (x_21).toInt := by rw [ez_25]; exact z_add (a := (w_11).toInt) (b := (x_21).toInt) rfl rfl (by omega) (by omega)
              refine lv_iload_n hx hb dX12_puts_39 rfl (lv_at hl 2 rfl) ?_
              refine lv_icmp_gt (tgt := 161) hx hb dX12_puts_40 (by decide) (fun c_26 => ?_) (fun c_26 => ?_)
              · have k_27 : (r_2).toInt < (z_25).toInt := z_lt c_26
                obtain ⟨z_28, ez_28⟩ : ∃ y : Int32, y = w_11 + 1 := ⟨_, rfl⟩
                have kz_28 : (z_28).toInt = (w_11).toInt + (1 : Int) := by rw [ez_28]; exact z_add (b := 1) rfl rfl (z_al hF_14.1 (by decide)) (z_ah hF_14.2 (by decide))
                refine lv_iinc (v := z_28) (lv' := [(4, .int z_28), (5, .int x_21), (3, .int r_2), (0, .ref h0), (1, .int p1), (2, .int p2)]) hx hb dX12_puts_161 hl (k := 1) rfl (by rw [ez_28]; rfl) (by decide) rfl (fun ls hl => ?_)
                refine lv_goto (tgt := 25) hx hb dX12_puts_164 (by decide) ?_
                exact ih_10 z_28 v_22 f_23 _ _ _ (show (42 - (z_28).toInt).toNat < n_9 by omega) (show ((0 : Int) ≤ (z_28).toInt ∧ (z_28).toInt ≤ (41 : Int)) by omega) hP hD hS (lv_sub hl [0, 2, 3, 4, 5] rfl)
              · have k_29 : (r_2).toInt ≥ (z_25).toInt := z_nlt c_26
                refine lv_iconst (v := 0) hx hb dX12_puts_43 (by decide) ?_
                refine lv_istore (lv' := [(6, .int 0), (5, .int x_21), (4, .int w_11), (3, .int r_2), (0, .ref h0), (1, .int p1), (2, .int p2)]) hx hb dX12_puts_44 hl (by decide) rfl (fun ls hl => ?_)
                have loop_30 : ∀ (n_31 : Nat) (y_33 : Int32) (v_34 : Int64) (f_35 : Nat → Int32) (H : Heap) (locs : List Loc) (ls : Array Slot), (42 - (y_33).toInt).toNat < n_31 → (((0 : Int) ≤ (y_33).toInt ∧ (y_33).toInt ≤ (41 : Int))) → va_P (dC, dI) vwCl [(h4, .inl (ch4, 48, .inl fh4)), (h5, .inl (ch5, 4, .inl f_35)), (h0, .inr (12, [h0_0, h0_1, h0_2, .int ml, h0_4, h0_5, h0_6, h0_7, h0_8, h0_9, h0_10, .ref h1, h0_12, h0_13, h0_14, h0_15, h0_16, h0_17, h0_18, h0_19, h0_20, h0_21, h0_22, h0_23, h0_24, h0_25, h0_26, h0_27, h0_28, h0_29, h0_30, h0_31, h0_32, h0_33, h0_34, .ref h4, .ref h3, .ref h2, .ref h5, .long v_34, h0_40, h0_41, h0_42, h0_43, h0_44, h0_45, h0_46, h0_47, h0_48, h0_49, h0_50, h0_51, h0_52, h0_53, h0_54, h0_55, h0_56, h0_57, h0_58, h0_59, h0_60, h0_61, h0_62, h0_63, h0_64, h0_65, h0_66, h0_67, h0_68, h0_69])), (h1, .inl (ch1, 12, .inl fh1)), (h2, .inl (ch2, 4, .inl g_h2_4)), (h3, .inl (ch3, 144, .inl fh3))] H → va_D A [(h4, .inl (ch4, 48, .inl fh4)), (h5, .inl (ch5, 4, .inl f_35)), (h0, .inr (12, [h0_0, h0_1, h0_2, .int ml, h0_4, h0_5, h0_6, h0_7, h0_8, h0_9, h0_10, .ref h1, h0_12, h0_13, h0_14, h0_15, h0_16, h0_17, h0_18, h0_19, h0_20, h0_21, h0_22, h0_23, h0_24, h0_25, h0_26, h0_27, h0_28, h0_29, h0_30, h0_31, h0_32, h0_33, h0_34, .ref h4, .ref h3, .ref h2, .ref h5, .long v_34, h0_40, h0_41, h0_42, h0_43, h0_44, h0_45, h0_46, h0_47, h0_48, h0_49, h0_50, h0_51, h0_52, h0_53, h0_54, h0_55, h0_56, h0_57, h0_58, h0_59, h0_60, h0_61, h0_62, h0_63, h0_64, h0_65, h0_66, h0_67, h0_68, h0_69])), (h1, .inl (ch1, 12, .inl fh1)), (h2, .inl (ch2, 4, .inl g_h2_4)), (h3, .inl (ch3, 144, .inl fh3))] → va_S A s.heap H locs → lv_has ls 9 [(6, .int y_33), (5, .int x_21), (4, .int w_11), (3, .int r_2), (0, .ref h0), (1, .int p1), (2, .int p2)] → W p l e ({ frames := 1, cells := 0, slots := 0, locals := 31 } : Room) s m ([.ref h0, .int p1, .int p2] : List Value).toArray below meth c H locs 0 0 QQ (F0 m 46 ls []) := by
                  intro n_31
                  induction n_31 with
                  | zero => intro y_33 v_34 f_35 H locs ls hm; exact absurd hm (Nat.not_lt_zero _)
                  | succ n_31 ih_32 =>
                    intro y_33 v_34 f_35 H locs ls hm hF_36 hP hD hS hl
                    refine lv_iload hx hb dX12_puts_46 (lv_at hl 2 rfl) ?_
                    refine lv_iload hx hb dX12_puts_48 (lv_at hl 1 rfl) ?_
                    refine lv_iadd hx hb dX12_puts_50 ?_
                    refine lv_topi (fun z_37 ez_37 => ?_)
                    have kz_37 : (z_37).toInt = (w_11).toInt + (x_21).toInt := by rw [ez_37]; exact z_add (a := (w_11).toInt) (b := (x_21).toInt) rfl rfl (by omega) (by omega)
                    refine lv_iload hx hb dX12_puts_51 (lv_at hl 0 rfl) ?_
                    refine lv_iadd hx hb dX12_puts_53 ?_
                    refine lv_topi (fun z_38 ez_38 => ?_)
                    have kz_38 : (z_38).toInt = (z_37).toInt + (y_33).toInt := by rw [ez_38]; exact z_add (a := (z_37).toInt) (b := (y_33).toInt) rfl rfl (by omega) (by omega)
                    refine lv_iload_n hx hb dX12_puts_54 rfl (lv_at hl 3 rfl) ?_
                    refine lv_icmp_gt (tgt := 155) hx hb dX12_puts_55 (by decide) (fun c_39 => ?_) (fun c_39 => ?_)
                    · have k_40 : (r_2).toInt < (z_38).toInt := z_lt c_39
                      obtain ⟨z_41, ez_41⟩ : ∃ y : Int32, y = x_21 + 1 := ⟨_, rfl⟩
                      have kz_41 : (z_41).toInt = (x_21).toInt + (1 : Int) := by rw [ez_41]; exact z_add (b := 1) rfl rfl (z_al hF_24.1 (by decide)) (z_ah hF_24.2 (by decide))
                      refine lv_iinc (v := z_41) (lv' := [(5, .int z_41), (6, .int y_33), (4, .int w_11), (3, .int r_2), (0, .ref h0), (1, .int p1), (2, .int p2)]) hx hb dX12_puts_155 hl (k := 1) rfl (by rw [ez_41]; rfl) (by decide) rfl (fun ls hl => ?_)
                      refine lv_goto (tgt := 34) hx hb dX12_puts_158 (by decide) ?_
                      exact ih_20 z_41 v_34 f_35 _ _ _ (show (42 - (z_41).toInt).toNat < n_19 by omega) (show ((0 : Int) ≤ (z_41).toInt ∧ (z_41).toInt ≤ (41 : Int)) by omega) hP hD hS (lv_sub hl [0, 2, 3, 4, 5, 6] rfl)
                    · have k_42 : (r_2).toInt ≥ (z_38).toInt := z_nlt c_39
                      refine lv_aload_n hx hb dX12_puts_58 rfl (lv_at hl 4 rfl) ?_
                      refine lv_iload_n hx hb dX12_puts_59 rfl (lv_at hl 6 rfl) ?_
                      refine lv_iload hx hb dX12_puts_60 (lv_at hl 2 rfl) ?_
                      refine lv_iload hx hb dX12_puts_62 (lv_at hl 1 rfl) ?_
                      refine lv_iload hx hb dX12_puts_64 (lv_at hl 0 rfl) ?_
                      refine lv_iload_n hx hb dX12_puts_66 rfl (lv_at hl 3 rfl) ?_
                      refine lv_iload hx hb dX12_puts_67 (lv_at hl 2 rfl) ?_
                      refine lv_isub hx hb dX12_puts_69 ?_
                      refine lv_topi (fun z_43 ez_43 => ?_)
                      have kz_43 : (z_43).toInt = (r_2).toInt - (w_11).toInt := by rw [ez_43]; exact z_sub (a := (r_2).toInt) (b := (w_11).toInt) rfl rfl (by omega) (by omega)
                      refine lv_iload hx hb dX12_puts_70 (lv_at hl 1 rfl) ?_
                      refine lv_isub hx hb dX12_puts_72 ?_
                      refine lv_topi (fun z_44 ez_44 => ?_)
                      have kz_44 : (z_44).toInt = (z_43).toInt - (x_21).toInt := by rw [ez_44]; exact z_sub (a := (z_43).toInt) (b := (x_21).toInt) rfl rfl (by omega) (by omega)
                      refine lv_iload hx hb dX12_puts_73 (lv_at hl 0 rfl) ?_
                      refine lv_isub hx hb dX12_puts_75 ?_
                      refine lv_topi (fun z_45 ez_45 => ?_)
                      have kz_45 : (z_45).toInt = (z_44).toInt - (y_33).toInt := by rw [ez_45]; exact z_sub (a := (z_44).toInt) (b := (y_33).toInt) rfl rfl (by omega) (by omega)
                      obtain ⟨hPc, hDc⟩ := z_sub2 (ws' := [(h0, .inr (12, [h0_0, h0_1, h0_2, .int ml, h0_4, h0_5, h0_6, h0_7, h0_8, h0_9, h0_10, .ref h1, h0_12, h0_13, h0_14, h0_15, h0_16, h0_17, h0_18, h0_19, h0_20, h0_21, h0_22, h0_23, h0_24, h0_25, h0_26, h0_27, h0_28, h0_29, h0_30, h0_31, h0_32, h0_33, h0_34, .ref h4, .ref h3, .ref h2, .ref h5, .long v_34, h0_40, h0_41, h0_42, h0_43, h0_44, h0_45, h0_46, h0_47, h0_48, h0_49, h0_50, h0_51, h0_52, h0_53, h0_54, h0_55, h0_56, h0_57, h0_58, h0_59, h0_60, h0_61, h0_62, h0_63, h0_64, h0_65, h0_66, h0_67, h0_68, h0_69])), (h2, .inl (ch2, 4, .inl g_h2_4)), (h4, .inl (ch4, 48, .inl fh4))]) hP hD [2, 4, 0] (by decide) rfl
                      have hKc := hK.sub (tys' := [(ch2, .int), (ch4, .int)]) [1, 3] rfl
                      have hFc := va_free (ws := []) (wc := []) (z_D0 _) hS hA [] rfl
                      refine va_calll (va_runV (As := [.int p2, .int w_11, .int x_21, .int y_33, .int z_45]) (rest := []) ⟨hx, hb, hml, hown, hts⟩ (s_X12_missOf l dC dI H.size h0 p2 w_11 x_21 y_33 z_45 h0_0 h0_1 h0_2 (.int ml) h0_4 h0_5 h0_6 h0_7 h0_8 h0_9 h0_10 (.ref h1) h0_12 h0_13 h0_14 h0_15 h0_16 h0_17 h0_18 h0_19 h0_20 h0_21 h0_22 h0_23 h0_24 h0_25 h0_26 h0_27 h0_28 h0_29 h0_30 h0_31 h0_32 h0_33 h0_34 h4 (.ref h3) h2 (.ref h5) (.long v_34) h0_40 h0_41 h0_42 h0_43 h0_44 h0_45 h0_46 h0_47 h0_48 h0_49 h0_50 h0_51 h0_52 h0_53 h0_54 h0_55 h0_56 h0_57 h0_58 h0_59 h0_60 h0_61 h0_62 h0_63 h0_64 h0_65 h0_66 h0_67 h0_68 h0_69 ch2 g_h2_4 ch4 fh4 hB_p2) (cwV 5 hts gw_s_X12_puts_s_X12_missOf_301 rfl rfl rfl (by decide +kernel) ⟨Nat.le_of_ble_eq_true rfl, Nat.le_of_ble_eq_true rfl⟩) ⟨z_blind, va_recv hKc hPc (ci := 12) (q0 := 0) rfl rfl, z_pre hPc hKc hDc⟩ rfl rfl hl.1 rfl (lv_room (Nat.le_of_ble_eq_true rfl)) dX12_puts_76 ⟨Nat.le_of_ble_eq_true rfl, Nat.le_of_ble_eq_true rfl⟩) hS (fun q _ h => hFc q h) hFc (fun r_47 u t H_46 locs ht hvm hw_48 hB hz1 hk1 hS => ?_)
                      replace hP := z_pure hP hk1
                      clear hPc hDc hKc
                      refine lv_lstore (lv' := [(7, .long r_47), (6, .int y_33), (5, .int x_21), (4, .int w_11), (3, .int r_2), (0, .ref h0), (1, .int p1), (2, .int p2)]) hx hb dX12_puts_79 hl (by decide) rfl (fun ls hl => ?_)
                      refine lv_aload_n hx hb dX12_puts_81 rfl (lv_at hl 5 rfl) ?_
                      refine va_get (D := (dC, dI)) (ci := 12) (v := .long v_34) (C := RX12) (T := TX12) (N := 70) hx hb hts hiX12 hown hK hP 2 rfl rfl 39 (by decide) w__fieldLink_RX12_297_ShellHeapModel_miss_J_ (fun _ h9 => h9) rfl dX12_puts_82 ?_
                      refine lv_lconst (v := 0) hx hb dX12_puts_85 (by decide) ?_
                      refine W.lcmp hx hb dX12_puts_86 ?_
                      refine lv_topi (fun z_49 ez_49 => ?_)
                      have kz_49 : ((z_49).toInt = (1 : Int) ∧ (v_34).toInt > (0 : Int)) ∨ ((z_49).toInt = (0 : Int) ∧ (v_34).toInt = (0 : Int)) ∨ ((z_49).toInt = (-1 : Int) ∧ (v_34).toInt < (0 : Int)) := z_lcmp ez_49
                      refine lv_if_lt (tgt := 103) hx hb dX12_puts_87 (by decide) (fun c_50 => ?_) (fun c_50 => ?_)
                      · have k_51 : (z_49).toInt < (0 : Int) := z_lt c_50
                        obtain rfl : z_49 = (-1) := z_eq' (show (z_49).toInt = (-1 : Int) by omega)
                        refine lv_aload_n hx hb dX12_puts_103 rfl (lv_at hl 5 rfl) ?_
                        refine lv_lload hx hb dX12_puts_104 (lv_at hl 0 rfl) ?_
                        refine va_put (D := (dC, dI)) (ci := 12) (v := .long r_47) (ty := .long) (C := RX12) (T := TX12) (N := 70) hx hb hts hiX12 tyX12 tyX12_ok nmX12 hown hK hP hD hS 2 rfl rfl 39 (by decide) w__fieldLink_RX12_297_ShellHeapModel_miss_J_ (fun _ h9 => h9) rfl (by decide +kernel) rfl rfl (Nat.le_of_ble_eq_true rfl) dX12_puts_106 (fun H_53 locs hP hD hS => ?_)
                        obtain ⟨hP, hD⟩ := z_s_2_39 hP hD
                        refine lv_aload_n hx hb dX12_puts_109 rfl (lv_at hl 5 rfl) ?_
                        refine va_get (D := (dC, dI)) (ci := 12) (v := .ref h5) (C := RX12) (T := TX12) (N := 70) hx hb hts hiX12 hown hK hP 2 rfl rfl 38 (by decide) w__fieldLink_RX12_87_ShellHeapModel_put_I_ (fun _ h9 => h9) rfl dX12_puts_110 ?_
                        refine lv_iconst (v := 0) hx hb dX12_puts_113 (by decide) ?_
                        refine lv_iload hx hb dX12_puts_114 (lv_at hl 3 rfl) ?_
                        refine va_iast hx hb hK hP hD hS 1 4 rfl rfl (by unfold vp_in; decide) dX12_puts_116 (fun H_54 locs hP hD hS => ?_)
                        obtain ⟨hP, hD⟩ := z_s_1 hP hD
                        generalize (upd f_35 (0 : Int32).toNatClampNeg w_11) = f_55 at hP hD
                        refine lv_aload_n hx hb dX12_puts_117 rfl (lv_at hl 5 rfl) ?_
                        refine va_get (D := (dC, dI)) (ci := 12) (v := .ref h5) (C := RX12) (T := TX12) (N := 70) hx hb hts hiX12 hown hK hP 2 rfl rfl 38 (by decide) w__fieldLink_RX12_87_ShellHeapModel_put_I_ (fun _ h9 => h9) rfl dX12_puts_118 ?_
                        refine lv_iconst (v := 1) hx hb dX12_puts_121 (by decide) ?_
                        refine lv_iload hx hb dX12_puts_122 (lv_at hl 2 rfl) ?_
                        refine va_iast hx hb hK hP hD hS 1 4 rfl rfl (by unfold vp_in; decide) dX12_puts_124 (fun H_56 locs hP hD hS => ?_)
                        obtain ⟨hP, hD⟩ := z_s_1 hP hD
                        generalize (upd f_55 (1 : Int32).toNatClampNeg x_21) = f_57 at hP hD
                        refine lv_aload_n hx hb dX12_puts_125 rfl (lv_at hl 5 rfl) ?_
                        refine va_get (D := (dC, dI)) (ci := 12) (v := .ref h5) (C := RX12) (T := TX12) (N := 70) hx hb hts hiX12 hown hK hP 2 rfl rfl 38 (by decide) w__fieldLink_RX12_87_ShellHeapModel_put_I_ (fun _ h9 => h9) rfl dX12_puts_126 ?_
                        refine lv_iconst (v := 2) hx hb dX12_puts_129 (by decide) ?_
                        refine lv_iload hx hb dX12_puts_130 (lv_at hl 1 rfl) ?_
                        refine va_iast hx hb hK hP hD hS 1 4 rfl rfl (by unfold vp_in; decide) dX12_puts_132 (fun H_58 locs hP hD hS => ?_)
                        obtain ⟨hP, hD⟩ := z_s_1 hP hD
                        generalize (upd f_57 (2 : Int32).toNatClampNeg y_33) = f_59 at hP hD
                        refine lv_aload_n hx hb dX12_puts_133 rfl (lv_at hl 5 rfl) ?_
                        refine va_get (D := (dC, dI)) (ci := 12) (v := .ref h5) (C := RX12) (T := TX12) (N := 70) hx hb hts hiX12 hown hK hP 2 rfl rfl 38 (by decide) w__fieldLink_RX12_87_ShellHeapModel_put_I_ (fun _ h9 => h9) rfl dX12_puts_134 ?_
                        refine lv_iconst (v := 3) hx hb dX12_puts_137 (by decide) ?_
                        refine lv_iload_n hx hb dX12_puts_138 rfl (lv_at hl 4 rfl) ?_
                        refine lv_iload hx hb dX12_puts_139 (lv_at hl 3 rfl) ?_
                        refine lv_isub hx hb dX12_puts_141 ?_
                        refine lv_topi (fun z_60 ez_60 => ?_)
                        have kz_60 : (z_60).toInt = (r_2).toInt - (w_11).toInt := by rw [ez_60]; exact z_sub (a := (r_2).toInt) (b := (w_11).toInt) rfl rfl (by omega) (by omega)
                        refine lv_iload hx hb dX12_puts_142 (lv_at hl 2 rfl) ?_
                        refine lv_isub hx hb dX12_puts_144 ?_
                        refine lv_topi (fun z_61 ez_61 => ?_)
                        have kz_61 : (z_61).toInt = (z_60).toInt - (x_21).toInt := by rw [ez_61]; exact z_sub (a := (z_60).toInt) (b := (x_21).toInt) rfl rfl (by omega) (by omega)
                        refine lv_iload hx hb dX12_puts_145 (lv_at hl 1 rfl) ?_
                        refine lv_isub hx hb dX12_puts_147 ?_
                        refine lv_topi (fun z_62 ez_62 => ?_)
                        have kz_62 : (z_62).toInt = (z_61).toInt - (y_33).toInt := by rw [ez_62]; exact z_sub (a := (z_61).toInt) (b := (y_33).toInt) rfl rfl (by omega) (by omega)
                        refine va_iast hx hb hK hP hD hS 1 4 rfl rfl (by unfold vp_in; decide) dX12_puts_148 (fun H_63 locs hP hD hS => ?_)
                        obtain ⟨hP, hD⟩ := z_s_1 hP hD
                        generalize (upd f_59 (3 : Int32).toNatClampNeg z_62) = f_64 at hP hD
                        obtain ⟨z_65, ez_65⟩ : ∃ y : Int32, y = y_33 + 1 := ⟨_, rfl⟩
                        have kz_65 : (z_65).toInt = (y_33).toInt + (1 : Int) := by rw [ez_65]; exact z_add (b := 1) rfl rfl (z_al hF_36.1 (by decide)) (z_ah hF_36.2 (by decide))
                        refine lv_iinc (v := z_65) (lv' := [(6, .int z_65), (7, .long r_47), (5, .int x_21), (4, .int w_11), (3, .int r_2), (0, .ref h0), (1, .int p1), (2, .int p2)]) hx hb dX12_puts_149 hl (k := 1) rfl (by rw [ez_65]; rfl) (by decide) rfl (fun ls hl => ?_)
                        refine lv_goto (tgt := 46) hx hb dX12_puts_152 (by decide) ?_
                        exact ih_32 z_65 r_47 f_64 _ _ _ (show (42 - (z_65).toInt).toNat < n_31 by omega) (show ((0 : Int) ≤ (z_65).toInt ∧ (z_65).toInt ≤ (41 : Int)) by omega) hP hD hS (lv_sub hl [0, 2, 3, 4, 5, 6, 7] rfl)
                      · have k_66 : (z_49).toInt ≥ (0 : Int) := z_nlt c_50
                        refine lv_lload hx hb dX12_puts_90 (lv_at hl 0 rfl) ?_
                        refine lv_aload_n hx hb dX12_puts_92 rfl (lv_at hl 5 rfl) ?_
                        refine va_get (D := (dC, dI)) (ci := 12) (v := .long v_34) (C := RX12) (T := TX12) (N := 70) hx hb hts hiX12 hown hK hP 2 rfl rfl 39 (by decide) w__fieldLink_RX12_297_ShellHeapModel_miss_J_ (fun _ h9 => h9) rfl dX12_puts_93 ?_
                        refine W.lcmp hx hb dX12_puts_96 ?_
                        refine lv_topi (fun z_67 ez_67 => ?_)
                        have kz_67 : ((z_67).toInt = (1 : Int) ∧ (r_47).toInt > (v_34).toInt) ∨ ((z_67).toInt = (0 : Int) ∧ (r_47).toInt = (v_34).toInt) ∨ ((z_67).toInt = (-1 : Int) ∧ (r_47).toInt < (v_34).toInt) := z_lcmp ez_67
                        refine lv_if_lt (tgt := 103) hx hb dX12_puts_97 (by decide) (fun c_68 => ?_) (fun c_68 => ?_)
                        · have k_69 : (z_67).toInt < (0 : Int) := z_lt c_68
                          obtain rfl : z_67 = (-1) := z_eq' (show (z_67).toInt = (-1 : Int) by omega)
                          refine lv_aload_n hx hb dX12_puts_103 rfl (lv_at hl 5 rfl) ?_
                          refine lv_lload hx hb dX12_puts_104 (lv_at hl 0 rfl) ?_
                          refine va_put (D := (dC, dI)) (ci := 12) (v := .long r_47) (ty := .long) (C := RX12) (T := TX12) (N := 70) hx hb hts hiX12 tyX12 tyX12_ok nmX12 hown hK hP hD hS 2 rfl rfl 39 (by decide) w__fieldLink_RX12_297_ShellHeapModel_miss_J_ (fun _ h9 => h9) rfl (by decide +kernel) rfl rfl (Nat.le_of_ble_eq_true rfl) dX12_puts_106 (fun H_71 locs hP hD hS => ?_)
                          obtain ⟨hP, hD⟩ := z_s_2_39 hP hD
                          refine lv_aload_n hx hb dX12_puts_109 rfl (lv_at hl 5 rfl) ?_
                          refine va_get (D := (dC, dI)) (ci := 12) (v := .ref h5) (C := RX12) (T := TX12) (N := 70) hx hb hts hiX12 hown hK hP 2 rfl rfl 38 (by decide) w__fieldLink_RX12_87_ShellHeapModel_put_I_ (fun _ h9 => h9) rfl dX12_puts_110 ?_
                          refine lv_iconst (v := 0) hx hb dX12_puts_113 (by decide) ?_
                          refine lv_iload hx hb dX12_puts_114 (lv_at hl 3 rfl) ?_
                          refine va_iast hx hb hK hP hD hS 1 4 rfl rfl (by unfold vp_in; decide) dX12_puts_116 (fun H_72 locs hP hD hS => ?_)
                          obtain ⟨hP, hD⟩ := z_s_1 hP hD
                          generalize (upd f_35 (0 : Int32).toNatClampNeg w_11) = f_73 at hP hD
                          refine lv_aload_n hx hb dX12_puts_117 rfl (lv_at hl 5 rfl) ?_
                          refine va_get (D := (dC, dI)) (ci := 12) (v := .ref h5) (C := RX12) (T := TX12) (N := 70) hx hb hts hiX12 hown hK hP 2 rfl rfl 38 (by decide) w__fieldLink_RX12_87_ShellHeapModel_put_I_ (fun _ h9 => h9) rfl dX12_puts_118 ?_
                          refine lv_iconst (v := 1) hx hb dX12_puts_121 (by decide) ?_
                          refine lv_iload hx hb dX12_puts_122 (lv_at hl 2 rfl) ?_
                          refine va_iast hx hb hK hP hD hS 1 4 rfl rfl (by unfold vp_in; decide) dX12_puts_124 (fun H_74 locs hP hD hS => ?_)
                          obtain ⟨hP, hD⟩ := z_s_1 hP hD
                          generalize (upd f_73 (1 : Int32).toNatClampNeg x_21) = f_75 at hP hD
                          refine lv_aload_n hx hb dX12_puts_125 rfl (lv_at hl 5 rfl) ?_
                          refine va_get (D := (dC, dI)) (ci := 12) (v := .ref h5) (C := RX12) (T := TX12) (N := 70) hx hb hts hiX12 hown hK hP 2 rfl rfl 38 (by decide) w__fieldLink_RX12_87_ShellHeapModel_put_I_ (fun _ h9 => h9) rfl dX12_puts_126 ?_
                          refine lv_iconst (v := 2) hx hb dX12_puts_129 (by decide) ?_
                          refine lv_iload hx hb dX12_puts_130 (lv_at hl 1 rfl) ?_
                          refine va_iast hx hb hK hP hD hS 1 4 rfl rfl (by unfold vp_in; decide) dX12_puts_132 (fun H_76 locs hP hD hS => ?_)
                          obtain ⟨hP, hD⟩ := z_s_1 hP hD
                          generalize (upd f_75 (2 : Int32).toNatClampNeg y_33) = f_77 at hP hD
                          refine lv_aload_n hx hb dX12_puts_133 rfl (lv_at hl 5 rfl) ?_
                          refine va_get (D := (dC, dI)) (ci := 12) (v := .ref h5) (C := RX12) (T := TX12) (N := 70) hx hb hts hiX12 hown hK hP 2 rfl rfl 38 (by decide) w__fieldLink_RX12_87_ShellHeapModel_put_I_ (fun _ h9 => h9) rfl dX12_puts_134 ?_
                          refine lv_iconst (v := 3) hx hb dX12_puts_137 (by decide) ?_
                          refine lv_iload_n hx hb dX12_puts_138 rfl (lv_at hl 4 rfl) ?_
                          refine lv_iload hx hb dX12_puts_139 (lv_at hl 3 rfl) ?_
                          refine lv_isub hx hb dX12_puts_141 ?_
                          refine lv_topi (fun z_78 ez_78 => ?_)
                          have kz_78 : (z_78).toInt = (r_2).toInt - (w_11).toInt := by rw [ez_78]; exact z_sub (a := (r_2).toInt) (b := (w_11).toInt) rfl rfl (by omega) (by omega)
                          refine lv_iload hx hb dX12_puts_142 (lv_at hl 2 rfl) ?_
                          refine lv_isub hx hb dX12_puts_144 ?_
                          refine lv_topi (fun z_79 ez_79 => ?_)
                          have kz_79 : (z_79).toInt = (z_78).toInt - (x_21).toInt := by rw [ez_79]; exact z_sub (a := (z_78).toInt) (b := (x_21).toInt) rfl rfl (by omega) (by omega)
                          refine lv_iload hx hb dX12_puts_145 (lv_at hl 1 rfl) ?_
                          refine lv_isub hx hb dX12_puts_147 ?_
                          refine lv_topi (fun z_80 ez_80 => ?_)
                          have kz_80 : (z_80).toInt = (z_79).toInt - (y_33).toInt := by rw [ez_80]; exact z_sub (a := (z_79).toInt) (b := (y_33).toInt) rfl rfl (by omega) (by omega)
                          refine va_iast hx hb hK hP hD hS 1 4 rfl rfl (by unfold vp_in; decide) dX12_puts_148 (fun H_81 locs hP hD hS => ?_)
                          obtain ⟨hP, hD⟩ := z_s_1 hP hD
                          generalize (upd f_77 (3 : Int32).toNatClampNeg z_80) = f_82 at hP hD
                          obtain ⟨z_83, ez_83⟩ : ∃ y : Int32, y = y_33 + 1 := ⟨_, rfl⟩
                          have kz_83 : (z_83).toInt = (y_33).toInt + (1 : Int) := by rw [ez_83]; exact z_add (b := 1) rfl rfl (z_al hF_36.1 (by decide)) (z_ah hF_36.2 (by decide))
                          refine lv_iinc (v := z_83) (lv' := [(6, .int z_83), (7, .long r_47), (5, .int x_21), (4, .int w_11), (3, .int r_2), (0, .ref h0), (1, .int p1), (2, .int p2)]) hx hb dX12_puts_149 hl (k := 1) rfl (by rw [ez_83]; rfl) (by decide) rfl (fun ls hl => ?_)
                          refine lv_goto (tgt := 46) hx hb dX12_puts_152 (by decide) ?_
                          exact ih_32 z_83 r_47 f_82 _ _ _ (show (42 - (z_83).toInt).toNat < n_31 by omega) (show ((0 : Int) ≤ (z_83).toInt ∧ (z_83).toInt ≤ (41 : Int)) by omega) hP hD hS (lv_sub hl [0, 2, 3, 4, 5, 6, 7] rfl)
                        · have k_84 : (z_67).toInt ≥ (0 : Int) := z_nlt c_68
                          refine lv_goto (tgt := 149) hx hb dX12_puts_100 (by decide) ?_
                          obtain ⟨z_85, ez_85⟩ : ∃ y : Int32, y = y_33 + 1 := ⟨_, rfl⟩
                          have kz_85 : (z_85).toInt = (y_33).toInt + (1 : Int) := by rw [ez_85]; exact z_add (b := 1) rfl rfl (z_al hF_36.1 (by decide)) (z_ah hF_36.2 (by decide))
                          refine lv_iinc (v := z_85) (lv' := [(6, .int z_85), (7, .long r_47), (5, .int x_21), (4, .int w_11), (3, .int r_2), (0, .ref h0), (1, .int p1), (2, .int p2)]) hx hb dX12_puts_149 hl (k := 1) rfl (by rw [ez_85]; rfl) (by decide) rfl (fun ls hl => ?_)
                          refine lv_goto (tgt := 46) hx hb dX12_puts_152 (by decide) ?_
                          exact ih_32 z_85 v_34 f_35 _ _ _ (show (42 - (z_85).toInt).toNat < n_31 by omega) (show ((0 : Int) ≤ (z_85).toInt ∧ (z_85).toInt ≤ (41 : Int)) by omega) hP hD hS (lv_sub hl [0, 2, 3, 4, 5, 6, 7] rfl)
                exact loop_30 _ 0 v_22 f_23 _ _ _ (Nat.lt_succ_self _) (show ((0 : Int) ≤ (0 : Int) ∧ (0 : Int) ≤ (41 : Int)) by omega) hP hD hS hl
          exact loop_18 _ 0 v_12 f_13 _ _ _ (Nat.lt_succ_self _) (show ((0 : Int) ≤ (0 : Int) ∧ (0 : Int) ≤ (41 : Int)) by omega) hP hD hS hl
    exact loop_8 _ 0 (-1) fh5 _ _ _ (Nat.lt_succ_self _) (show ((0 : Int) ≤ (0 : Int) ∧ (0 : Int) ≤ (41 : Int)) by omega) hP hD hS hl
  · have k_86 : (r_2).toInt > (40 : Int) := z_nle c_6
    refine lv_iload_n hx hb dX12_puts_20 rfl (lv_at hl 0 rfl) ?_
    refine z_backQ hQQ ?_
    obtain ⟨hP9, hD9⟩ := z_sub2 (ws' := [(h0, .inr (12, [h0_0, h0_1, h0_2, .int ml, h0_4, h0_5, h0_6, h0_7, h0_8, h0_9, h0_10, .ref h1, h0_12, h0_13, h0_14, h0_15, h0_16, h0_17, h0_18, h0_19, h0_20, h0_21, h0_22, h0_23, h0_24, h0_25, h0_26, h0_27, h0_28, h0_29, h0_30, h0_31, h0_32, h0_33, h0_34, .ref h4, .ref h3, .ref h2, .ref h5, .long (-1), h0_40, h0_41, h0_42, h0_43, h0_44, h0_45, h0_46, h0_47, h0_48, h0_49, h0_50, h0_51, h0_52, h0_53, h0_54, h0_55, h0_56, h0_57, h0_58, h0_59, h0_60, h0_61, h0_62, h0_63, h0_64, h0_65, h0_66, h0_67, h0_68, h0_69])), (h1, .inl (ch1, 12, .inl fh1)), (h2, .inl (ch2, 4, .inl g_h2_4)), (h3, .inl (ch3, 144, .inl fh3)), (h4, .inl (ch4, 48, .inl fh4)), (h5, .inl (ch5, 4, .inl fh5))]) hP hD [2, 3, 4, 5, 0, 1] (by decide) rfl
    have hK9 := hK.sub (tys' := []) [] rfl
    refine W.widen (k := 0) (n := 0) (Nat.le_of_ble_eq_true rfl) (Nat.le_of_ble_eq_true rfl) ?_
    exact W.iret (v := r_2) hx hb hr (fun t ht hW => ⟨⟨r_2, (), rfl, trivial, ⟨(-1), g_h2_4, fh5, by rw [ht]; exact hP9, va_K.moved hW.alike hK9, hD9⟩⟩, hS.F ht⟩) hS.2.2 dX12_puts_21
def u_s_X12_stays : List Cond := .code yX12_stays cX12_stays 5 (some .int) :: ([.methodLink RX12 305 yX12_puts, .instanceMethod yX12_puts, .selects RX12 yX12_puts yX12_puts, .initialized RX12, .fieldLink RX12 87 "ShellHeapModel" "put" "[I"] ++ (wsX120 ++ (u_s_X12_puts ++ [])))
theorem gd_s_X12_stays : z_gd u_s_X12_stays := z_gdc (by decide +kernel) (z_gda gdX12 (z_gda gd_s_X12_puts (z_gd0)))
set_option maxRecDepth 20000 in
theorem gw_s_X12_stays_s_X12_puts_305 : GoodIn u_s_X12_stays (wsV RX12 305 RX12 yX12_puts u_s_X12_puts) := z_gV (z_gr _ [1, 2, 3, 4] rfl (by decide +kernel)) (fun w h => ⟨z_mc (z_mr (z_mr (z_ml h))), gd_s_X12_puts w h⟩)
set_option maxHeartbeats 4000000 in
set_option maxRecDepth 100000 in
theorem s_X12_stays (l : Launch) (dC : Nat → ClassId) (dI : Nat → Nat → Nat) (sz : Nat) (h0 : Nat) (p1 : Int32) (h0_0 : Value) (h0_1 : Value) (h0_2 : Value) (ml : Int32) (h0_4 : Value) (h0_5 : Value) (h0_6 : Value) (h0_7 : Value) (h0_8 : Value) (h0_9 : Value) (h0_10 : Value) (h1 : Nat) (h0_12 : Value) (h0_13 : Value) (h0_14 : Value) (h0_15 : Value) (h0_16 : Value) (h0_17 : Value) (h0_18 : Value) (h0_19 : Value) (h0_20 : Value) (h0_21 : Value) (h0_22 : Value) (h0_23 : Value) (h0_24 : Value) (h0_25 : Value) (h0_26 : Value) (h0_27 : Value) (h0_28 : Value) (h0_29 : Value) (h0_30 : Value) (h0_31 : Value) (h0_32 : Value) (h0_33 : Value) (h0_34 : Value) (h4 : Nat) (h3 : Nat) (h2 : Nat) (h5 : Nat) (mm : Int64) (h0_40 : Value) (h0_41 : Value) (h0_42 : Value) (h0_43 : Value) (h0_44 : Value) (h0_45 : Value) (h0_46 : Value) (h0_47 : Value) (h0_48 : Value) (h0_49 : Value) (h0_50 : Value) (h0_51 : Value) (h0_52 : Value) (h0_53 : Value) (h0_54 : Value) (h0_55 : Value) (h0_56 : Value) (h0_57 : Value) (h0_58 : Value) (h0_59 : Value) (h0_60 : Value) (h0_61 : Value) (h0_62 : Value) (h0_63 : Value) (h0_64 : Value) (h0_65 : Value) (h0_66 : Value) (h0_67 : Value) (h0_68 : Value) (h0_69 : Value) (ch1 : ClassId) (fh1 : Nat → Int32) (ch2 : ClassId) (fh2 : Nat → Int32) (ch3 : ClassId) (fh3 : Nat → Int32) (ch4 : ClassId) (fh4 : Nat → Int32) (ch5 : ClassId) (fh5 : Nat → Int32) (hB_ml : ((0 : Int) ≤ (ml).toInt ∧ (ml).toInt ≤ (12 : Int))) (hI_h1 : ∀ j : Nat, ((0 : Int) ≤ (fh1 j).toInt ∧ (fh1 j).toInt ≤ (11 : Int))) : Met l yX12_stays u_s_X12_stays ({ frames := 2, cells := 0, slots := 0, locals := 59 }) (va_Pc [.ref h0, .int p1] (z_C (dC, dI) vwCl [(h0, .inr (12, [h0_0, h0_1, h0_2, .int ml, h0_4, h0_5, h0_6, h0_7, h0_8, h0_9, h0_10, .ref h1, h0_12, h0_13, h0_14, h0_15, h0_16, h0_17, h0_18, h0_19, h0_20, h0_21, h0_22, h0_23, h0_24, h0_25, h0_26, h0_27, h0_28, h0_29, h0_30, h0_31, h0_32, h0_33, h0_34, .ref h4, .ref h3, .ref h2, .ref h5, .long mm, h0_40, h0_41, h0_42, h0_43, h0_44, h0_45, h0_46, h0_47, h0_48, h0_49, h0_50, h0_51, h0_52, h0_53, h0_54, h0_55, h0_56, h0_57, h0_58, h0_59, h0_60, h0_61, h0_62, h0_63, h0_64, h0_65, h0_66, h0_67, h0_68, h0_69])), (h1, .inl (ch1, 12, .inl fh1)), (h2, .inl (ch2, 4, .inl fh2)), (h3, .inl (ch3, 144, .inl fh3)), (h4, .inl (ch4, 48, .inl fh4)), (h5, .inl (ch5, 4, .inl fh5))] [(ch1, .int), (ch2, .int), (ch3, .int), (ch4, .int), (ch5, .int)] sz)) (va_Qi (fun (r : Int32) (_ : Unit) => True) (fun (_ : Unit) (t : State) => ∃ (n_h0_miss : Int64), ∃ (g_h2 : Nat → Int32), ∃ (g_h5 : Nat → Int32), va_P (dC, dI) vwCl [(h0, .inr (12, [h0_0, h0_1, h0_2, .int ml, h0_4, h0_5, h0_6, h0_7, h0_8, h0_9, h0_10, .ref h1, h0_12, h0_13, h0_14, h0_15, h0_16, h0_17, h0_18, h0_19, h0_20, h0_21, h0_22, h0_23, h0_24, h0_25, h0_26, h0_27, h0_28, h0_29, h0_30, h0_31, h0_32, h0_33, h0_34, .ref h4, .ref h3, .ref h2, .ref h5, .long n_h0_miss, h0_40, h0_41, h0_42, h0_43, h0_44, h0_45, h0_46, h0_47, h0_48, h0_49, h0_50, h0_51, h0_52, h0_53, h0_54, h0_55, h0_56, h0_57, h0_58, h0_59, h0_60, h0_61, h0_62, h0_63, h0_64, h0_65, h0_66, h0_67, h0_68, h0_69])), (h1, .inl (ch1, 12, .inl fh1)), (h2, .inl (ch2, 4, .inl g_h2)), (h3, .inl (ch3, 144, .inl fh3)), (h4, .inl (ch4, 48, .inl fh4)), (h5, .inl (ch5, 4, .inl g_h5))] t.heap ∧ va_K (dC, dI) vwCl [] t ∧ va_D (va_A [(h0, .inr (12, [h0_0, h0_1, h0_2, .int ml, h0_4, h0_5, h0_6, h0_7, h0_8, h0_9, h0_10, .ref h1, h0_12, h0_13, h0_14, h0_15, h0_16, h0_17, h0_18, h0_19, h0_20, h0_21, h0_22, h0_23, h0_24, h0_25, h0_26, h0_27, h0_28, h0_29, h0_30, h0_31, h0_32, h0_33, h0_34, .ref h4, .ref h3, .ref h2, .ref h5, .long mm, h0_40, h0_41, h0_42, h0_43, h0_44, h0_45, h0_46, h0_47, h0_48, h0_49, h0_50, h0_51, h0_52, h0_53, h0_54, h0_55, h0_56, h0_57, h0_58, h0_59, h0_60, h0_61, h0_62, h0_63, h0_64, h0_65, h0_66, h0_67, h0_68, h0_69])), (h1, .inl (ch1, 12, .inl fh1)), (h2, .inl (ch2, 4, .inl fh2)), (h3, .inl (ch3, 144, .inl fh3)), (h4, .inl (ch4, 48, .inl fh4)), (h5, .inl (ch5, 4, .inl fh5))] sz) [(h0, .inr (12, [h0_0, h0_1, h0_2, .int ml, h0_4, h0_5, h0_6, h0_7, h0_8, h0_9, h0_10, .ref h1, h0_12, h0_13, h0_14, h0_15, h0_16, h0_17, h0_18, h0_19, h0_20, h0_21, h0_22, h0_23, h0_24, h0_25, h0_26, h0_27, h0_28, h0_29, h0_30, h0_31, h0_32, h0_33, h0_34, .ref h4, .ref h3, .ref h2, .ref h5, .long n_h0_miss, h0_40, h0_41, h0_42, h0_43, h0_44, h0_45, h0_46, h0_47, h0_48, h0_49, h0_50, h0_51, h0_52, h0_53, h0_54, h0_55, h0_56, h0_57, h0_58, h0_59, h0_60, h0_61, h0_62, h0_63, h0_64, h0_65, h0_66, h0_67, h0_68, h0_69])), (h1, .inl (ch1, 12, .inl fh1)), (h2, .inl (ch2, 4, .inl g_h2)), (h3, .inl (ch3, 144, .inl fh3)), (h4, .inl (ch4, 48, .inl fh4)), (h5, .inl (ch5, 4, .inl g_h5))]) (va_A [(h0, .inr (12, [h0_0, h0_1, h0_2, .int ml, h0_4, h0_5, h0_6, h0_7, h0_8, h0_9, h0_10, .ref h1, h0_12, h0_13, h0_14, h0_15, h0_16, h0_17, h0_18, h0_19, h0_20, h0_21, h0_22, h0_23, h0_24, h0_25, h0_26, h0_27, h0_28, h0_29, h0_30, h0_31, h0_32, h0_33, h0_34, .ref h4, .ref h3, .ref h2, .ref h5, .long mm, h0_40, h0_41, h0_42, h0_43, h0_44, h0_45, h0_46, h0_47, h0_48, h0_49, h0_50, h0_51, h0_52, h0_53, h0_54, h0_55, h0_56, h0_57, h0_58, h0_59, h0_60, h0_61, h0_62, h0_63, h0_64, h0_65, h0_66, h0_67, h0_68, h0_69])), (h1, .inl (ch1, 12, .inl fh1)), (h2, .inl (ch2, 4, .inl fh2)), (h3, .inl (ch3, 144, .inl fh3)), (h4, .inl (ch4, 48, .inl fh4)), (h5, .inl (ch5, 4, .inl fh5))] sz)) 0 0 (va_A [(h0, .inr (12, [h0_0, h0_1, h0_2, .int ml, h0_4, h0_5, h0_6, h0_7, h0_8, h0_9, h0_10, .ref h1, h0_12, h0_13, h0_14, h0_15, h0_16, h0_17, h0_18, h0_19, h0_20, h0_21, h0_22, h0_23, h0_24, h0_25, h0_26, h0_27, h0_28, h0_29, h0_30, h0_31, h0_32, h0_33, h0_34, .ref h4, .ref h3, .ref h2, .ref h5, .long mm, h0_40, h0_41, h0_42, h0_43, h0_44, h0_45, h0_46, h0_47, h0_48, h0_49, h0_50, h0_51, h0_52, h0_53, h0_54, h0_55, h0_56, h0_57, h0_58, h0_59, h0_60, h0_61, h0_62, h0_63, h0_64, h0_65, h0_66, h0_67, h0_68, h0_69])), (h1, .inl (ch1, 12, .inl fh1)), (h2, .inl (ch2, 4, .inl fh2)), (h3, .inl (ch3, 144, .inl fh3)), (h4, .inl (ch4, 48, .inl fh4)), (h5, .inl (ch5, 4, .inl fh5))] sz) := by
  refine Met.ofW (cc := cX12_stays) (maxL := 5) (ret := (some .int)) (by decide) rfl ?_
  intro p e s m args below meth c s₁ B hml hv
  obtain ⟨rfl, hsz, hP, hK, hD0⟩ := hv
  have hx := B.exec
  have hb := B.bytes
  have hr := B.returns
  have hts := atoms_spec (ws := u_s_X12_stays) B.pre
  have hown : s.vm.findClass RX12 = some m.cls := findClass_of_methodNamed B.named
  have hlocks := B.notSynchronized
  subst hsz
  have hD := hD0.self (sz := s.heap.size)
  generalize hAe : va_A [(h0, .inr (12, [h0_0, h0_1, h0_2, .int ml, h0_4, h0_5, h0_6, h0_7, h0_8, h0_9, h0_10, .ref h1, h0_12, h0_13, h0_14, h0_15, h0_16, h0_17, h0_18, h0_19, h0_20, h0_21, h0_22, h0_23, h0_24, h0_25, h0_26, h0_27, h0_28, h0_29, h0_30, h0_31, h0_32, h0_33, h0_34, .ref h4, .ref h3, .ref h2, .ref h5, .long mm, h0_40, h0_41, h0_42, h0_43, h0_44, h0_45, h0_46, h0_47, h0_48, h0_49, h0_50, h0_51, h0_52, h0_53, h0_54, h0_55, h0_56, h0_57, h0_58, h0_59, h0_60, h0_61, h0_62, h0_63, h0_64, h0_65, h0_66, h0_67, h0_68, h0_69])), (h1, .inl (ch1, 12, .inl fh1)), (h2, .inl (ch2, 4, .inl fh2)), (h3, .inl (ch3, 144, .inl fh3)), (h4, .inl (ch4, 48, .inl fh4)), (h5, .inl (ch5, 4, .inl fh5))] s.heap.size = A at hD ⊢
  have hA : ∀ q : Nat, s.heap.size ≤ q → A q := fun q h => by rw [← hAe]; exact Or.inr h
  have hS : va_S A s.heap s.heap [] := va_S.rf
  have hP : va_P (dC, dI) vwCl [(h0, .inr (12, [h0_0, h0_1, h0_2, .int ml, h0_4, h0_5, h0_6, h0_7, h0_8, h0_9, h0_10, .ref h1, h0_12, h0_13, h0_14, h0_15, h0_16, h0_17, h0_18, h0_19, h0_20, h0_21, h0_22, h0_23, h0_24, h0_25, h0_26, h0_27, h0_28, h0_29, h0_30, h0_31, h0_32, h0_33, h0_34, .ref h4, .ref h3, .ref h2, .ref h5, .long mm, h0_40, h0_41, h0_42, h0_43, h0_44, h0_45, h0_46, h0_47, h0_48, h0_49, h0_50, h0_51, h0_52, h0_53, h0_54, h0_55, h0_56, h0_57, h0_58, h0_59, h0_60, h0_61, h0_62, h0_63, h0_64, h0_65, h0_66, h0_67, h0_68, h0_69])), (h1, .inl (ch1, 12, .inl fh1)), (h2, .inl (ch2, 4, .inl fh2)), (h3, .inl (ch3, 144, .inl fh3)), (h4, .inl (ch4, 48, .inl fh4)), (h5, .inl (ch5, 4, .inl fh5))] s.heap := hP
  have w__fieldLink_RX12_87_ShellHeapModel_put_I_ := hts (.fieldLink RX12 87 "ShellHeapModel" "put" "[I") (z_mc (z_ml z_m4))
  have hiX12 := show ∀ w ∈ u_ws RX12 TX12 70, w ∈ u_s_X12_stays from fun w h => z_mc (z_mr (z_ml h))
  have krr_p1 := z_rng p1
  have hl := lv_entry ([.ref h0, .int p1]) (n := 5) (Nat.le_of_ble_eq_true rfl)
  rw [lg_entry_eq]
  generalize (lg_sl ([.ref h0, .int p1]) ++ List.replicate (5 - (lg_sl ([.ref h0, .int p1])).length) Slot.unset).toArray = ls at hl ⊢
  have hl : lv_has ls 5 [(0, .ref h0), (1, .int p1)] := hl
  refine z_nameQ (fun QQ hQQ => ?_)
  refine lv_iconst (v := 0) hx hb dX12_stays_0 (by decide) ?_
  refine lv_istore_n (lv' := [(2, .int 0), (0, .ref h0), (1, .int p1)]) hx hb dX12_stays_1 rfl hl (by decide) rfl (fun ls hl => ?_)
  refine lv_iconst (v := 0) hx hb dX12_stays_2 (by decide) ?_
  refine lv_istore_n (lv' := [(3, .int 0), (2, .int 0), (0, .ref h0), (1, .int p1)]) hx hb dX12_stays_3 rfl hl (by decide) rfl (fun ls hl => ?_)
  have loop_1 : ∀ (n_2 : Nat) (i_4 : Int32) (n_5 : Int32) (v_6 : Int64) (f_7 : Nat → Int32) (f_8 : Nat → Int32) (H : Heap) (locs : List Loc) (ls : Array Slot), (4 - (i_4).toInt).toNat < n_2 → (((0 : Int) ≤ (i_4).toInt ∧ (i_4).toInt ≤ (3 : Int))) → va_P (dC, dI) vwCl [(h0, .inr (12, [h0_0, h0_1, h0_2, .int ml, h0_4, h0_5, h0_6, h0_7, h0_8, h0_9, h0_10, .ref h1, h0_12, h0_13, h0_14, h0_15, h0_16, h0_17, h0_18, h0_19, h0_20, h0_21, h0_22, h0_23, h0_24, h0_25, h0_26, h0_27, h0_28, h0_29, h0_30, h0_31, h0_32, h0_33, h0_34, .ref h4, .ref h3, .ref h2, .ref h5, .long v_6, h0_40, h0_41, h0_42, h0_43, h0_44, h0_45, h0_46, h0_47, h0_48, h0_49, h0_50, h0_51, h0_52, h0_53, h0_54, h0_55, h0_56, h0_57, h0_58, h0_59, h0_60, h0_61, h0_62, h0_63, h0_64, h0_65, h0_66, h0_67, h0_68, h0_69])), (h1, .inl (ch1, 12, .inl fh1)), (h2, .inl (ch2, 4, .inl f_7)), (h3, .inl (ch3, 144, .inl fh3)), (h4, .inl (ch4, 48, .inl fh4)), (h5, .inl (ch5, 4, .inl f_8))] H → va_D A [(h0, .inr (12, [h0_0, h0_1, h0_2, .int ml, h0_4, h0_5, h0_6, h0_7, h0_8, h0_9, h0_10, .ref h1, h0_12, h0_13, h0_14, h0_15, h0_16, h0_17, h0_18, h0_19, h0_20, h0_21, h0_22, h0_23, h0_24, h0_25, h0_26, h0_27, h0_28, h0_29, h0_30, h0_31, h0_32, h0_33, h0_34, .ref h4, .ref h3, .ref h2, .ref h5, .long v_6, h0_40, h0_41, h0_42, h0_43, h0_44, h0_45, h0_46, h0_47, h0_48, h0_49, h0_50, h0_51, h0_52, h0_53, h0_54, h0_55, h0_56, h0_57, h0_58, h0_59, h0_60, h0_61, h0_62, h0_63, h0_64, h0_65, h0_66, h0_67, h0_68, h0_69])), (h1, .inl (ch1, 12, .inl fh1)), (h2, .inl (ch2, 4, .inl f_7)), (h3, .inl (ch3, 144, .inl fh3)), (h4, .inl (ch4, 48, .inl fh4)), (h5, .inl (ch5, 4, .inl f_8))] → va_S A s.heap H locs → lv_has ls 5 [(3, .int i_4), (2, .int n_5), (0, .ref h0), (1, .int p1)] → W p l e ({ frames := 2, cells := 0, slots := 0, locals := 59 } : Room) s m ([.ref h0, .int p1] : List Value).toArray below meth c H locs 0 0 QQ (F0 m 4 ls []) := by
    intro n_2
    induction n_2 with
    | zero => intro i_4 n_5 v_6 f_7 f_8 H locs ls hm; exact absurd hm (Nat.not_lt_zero _)
    | succ n_2 ih_3 =>
      intro i_4 n_5 v_6 f_7 f_8 H locs ls hm hF_9 hP hD hS hl
      refine lv_iload_n hx hb dX12_stays_4 rfl (lv_at hl 0 rfl) ?_
      refine lv_iconst (v := 3) hx hb dX12_stays_5 (by decide) ?_
      refine lv_icmp_ge (tgt := 64) hx hb dX12_stays_6 (by decide) (fun c_10 => ?_) (fun c_10 => ?_)
      · have k_11 : (3 : Int) ≤ (i_4).toInt := z_le c_10
        obtain rfl : i_4 = 3 := z_eq' (show (i_4).toInt = (3 : Int) by omega)
        refine lv_iload_n hx hb dX12_stays_64 rfl (lv_at hl 1 rfl) ?_
        refine z_backQ hQQ ?_
        have hP9 := hP
        have hD9 := hD
        have hK9 := hK.sub (tys' := []) [] rfl
        refine W.widen (k := 0) (n := 0) (Nat.le_of_ble_eq_true rfl) (Nat.le_of_ble_eq_true rfl) ?_
        exact W.iret (v := n_5) hx hb hr (fun t ht hW => ⟨⟨n_5, (), rfl, trivial, ⟨v_6, f_7, f_8, by rw [ht]; exact hP9, va_K.moved hW.alike hK9, hD9⟩⟩, hS.F ht⟩) hS.2.2 dX12_stays_65
      · have k_13 : (3 : Int) > (i_4).toInt := z_nle c_10
        refine lv_aload_n hx hb dX12_stays_9 rfl (lv_at hl 2 rfl) ?_
        refine lv_iload_n hx hb dX12_stays_10 rfl (lv_at hl 3 rfl) ?_
        refine lv_iload_n hx hb dX12_stays_11 rfl (lv_at hl 0 rfl) ?_
        have hPc := hP
        have hDc := hD
        have hKc := hK
        have hFc := z_freeI hD hS hA
        refine va_calli (va_runV (As := [.int p1, .int i_4]) (rest := []) ⟨hx, hb, hml, hown, hts⟩ (s_X12_puts l dC dI H.size h0 p1 i_4 h0_0 h0_1 h0_2 ml h0_4 h0_5 h0_6 h0_7 h0_8 h0_9 h0_10 h1 h0_12 h0_13 h0_14 h0_15 h0_16 h0_17 h0_18 h0_19 h0_20 h0_21 h0_22 h0_23 h0_24 h0_25 h0_26 h0_27 h0_28 h0_29 h0_30 h0_31 h0_32 h0_33 h0_34 h4 h3 h2 h5 v_6 h0_40 h0_41 h0_42 h0_43 h0_44 h0_45 h0_46 h0_47 h0_48 h0_49 h0_50 h0_51 h0_52 h0_53 h0_54 h0_55 h0_56 h0_57 h0_58 h0_59 h0_60 h0_61 h0_62 h0_63 h0_64 h0_65 h0_66 h0_67 h0_68 h0_69 ch1 fh1 ch2 f_7 ch3 fh3 ch4 fh4 ch5 f_8 (by first | omega | decide) hB_ml hI_h1) (cwV 2 hts gw_s_X12_stays_s_X12_puts_305 rfl rfl rfl (by decide +kernel) ⟨Nat.le_of_ble_eq_true rfl, Nat.le_of_ble_eq_true rfl⟩) ⟨z_blind, va_recv hKc hPc (ci := 12) (q0 := 0) rfl rfl, z_pre hPc hKc hDc⟩ rfl rfl hl.1 rfl (lv_room (Nat.le_of_ble_eq_true rfl)) dX12_stays_12 ⟨Nat.le_of_ble_eq_true rfl, Nat.le_of_ble_eq_true rfl⟩) hS (fun q _ h => hFc q h) hFc (fun r_15 u t H_14 locs ht hvm hw_16 hB hz1 hk1 hS => ?_)
        obtain ⟨n_h0_miss_17, g_h2_18, g_h5_19, hP1, hK1, hD1⟩ := hB
        rw [ht] at hP1
        have hK1 := va_K.moved hvm.symm hK1
        obtain ⟨hP, hD⟩ := z_ap_0 (va_join (wr := []) hP hD [0, 1, 2, 3, 4, 5] [] rfl rfl (by decide) (by decide) hk1 hFc hP1 hD1)
        clear hPc hDc hKc
        refine lv_bipush (v := 40) hx hb dX12_stays_15 (by decide) ?_
        refine lv_icmp_le (tgt := 22) hx hb dX12_stays_17 (by decide) (fun c_20 => ?_) (fun c_20 => ?_)
        · have k_21 : (r_15).toInt ≤ (40 : Int) := z_le c_20
          refine lv_iconst (v := 0) hx hb dX12_stays_22 (by decide) ?_
          refine lv_istore (lv' := [(4, .int 0), (3, .int i_4), (2, .int n_5), (0, .ref h0), (1, .int p1)]) hx hb dX12_stays_23 hl (by decide) rfl (fun ls hl => ?_)
          have loop_22 : ∀ (n_23 : Nat) (i_25 : Int32) (n_26 : Int32) (H : Heap) (locs : List Loc) (ls : Array Slot), (5 - (i_25).toInt).toNat < n_23 → (((0 : Int) ≤ (i_25).toInt ∧ (i_25).toInt ≤ (4 : Int))) → va_P (dC, dI) vwCl [(h0, .inr (12, [h0_0, h0_1, h0_2, .int ml, h0_4, h0_5, h0_6, h0_7, h0_8, h0_9, h0_10, .ref h1, h0_12, h0_13, h0_14, h0_15, h0_16, h0_17, h0_18, h0_19, h0_20, h0_21, h0_22, h0_23, h0_24, h0_25, h0_26, h0_27, h0_28, h0_29, h0_30, h0_31, h0_32, h0_33, h0_34, .ref h4, .ref h3, .ref h2, .ref h5, .long n_h0_miss_17, h0_40, h0_41, h0_42, h0_43, h0_44, h0_45, h0_46, h0_47, h0_48, h0_49, h0_50, h0_51, h0_52, h0_53, h0_54, h0_55, h0_56, h0_57, h0_58, h0_59, h0_60, h0_61, h0_62, h0_63, h0_64, h0_65, h0_66, h0_67, h0_68, h0_69])), (h1, .inl (ch1, 12, .inl fh1)), (h2, .inl (ch2, 4, .inl g_h2_18)), (h3, .inl (ch3, 144, .inl fh3)), (h4, .inl (ch4, 48, .inl fh4)), (h5, .inl (ch5, 4, .inl g_h5_19))] H → va_D A [(h0, .inr (12, [h0_0, h0_1, h0_2, .int ml, h0_4, h0_5, h0_6, h0_7, h0_8, h0_9, h0_10, .ref h1, h0_12, h0_13, h0_14, h0_15, h0_16, h0_17, h0_18, h0_19, h0_20, h0_21, h0_22, h0_23, h0_24, h0_25, h0_26, h0_27, h0_28, h0_29, h0_30, h0_31, h0_32, h0_33, h0_34, .ref h4, .ref h3, .ref h2, .ref h5, .long n_h0_miss_17, h0_40, h0_41, h0_42, h0_43, h0_44, h0_45, h0_46, h0_47, h0_48, h0_49, h0_50, h0_51, h0_52, h0_53, h0_54, h0_55, h0_56, h0_57, h0_58, h0_59, h0_60, h0_61, h0_62, h0_63, h0_64, h0_65, h0_66, h0_67, h0_68, h0_69])), (h1, .inl (ch1, 12, .inl fh1)), (h2, .inl (ch2, 4, .inl g_h2_18)), (h3, .inl (ch3, 144, .inl fh3)), (h4, .inl (ch4, 48, .inl fh4)), (h5, .inl (ch5, 4, .inl g_h5_19))] → va_S A s.heap H locs → lv_has ls 5 [(4, .int i_25), (3, .int i_4), (2, .int n_26), (0, .ref h0), (1, .int p1)] → W p l e ({ frames := 2, cells := 0, slots := 0, locals := 59 } : Room) s m ([.ref h0, .int p1] : List Value).toArray below meth c H locs 0 0 QQ (F0 m 25 ls []) := by
            intro n_23
            induction n_23 with
            | zero => intro i_25 n_26 H locs ls hm; exact absurd hm (Nat.not_lt_zero _)
            | succ n_23 ih_24 =>
              intro i_25 n_26 H locs ls hm hF_27 hP hD hS hl
              refine lv_iload hx hb dX12_stays_25 (lv_at hl 0 rfl) ?_
              refine lv_iconst (v := 4) hx hb dX12_stays_27 (by decide) ?_
              refine lv_icmp_ge (tgt := 58) hx hb dX12_stays_28 (by decide) (fun c_28 => ?_) (fun c_28 => ?_)
              · have k_29 : (4 : Int) ≤ (i_25).toInt := z_le c_28
                obtain rfl : i_25 = 4 := z_eq' (show (i_25).toInt = (4 : Int) by omega)
                obtain ⟨z_31, ez_31⟩ : ∃ y : Int32, y = i_4 + 1 := ⟨_, rfl⟩
                have kz_31 : (z_31).toInt = (i_4).toInt + (1 : Int) := by rw [ez_31]; exact z_add (b := 1) rfl rfl (z_al hF_9.1 (by decide)) (z_ah hF_9.2 (by decide))
                refine lv_iinc (v := z_31) (lv' := [(3, .int z_31), (4, .int 4), (2, .int n_26), (0, .ref h0), (1, .int p1)]) hx hb dX12_stays_58 hl (k := 1) rfl (by rw [ez_31]; rfl) (by decide) rfl (fun ls hl => ?_)
                refine lv_goto (tgt := 4) hx hb dX12_stays_61 (by decide) ?_
                exact ih_3 z_31 n_26 n_h0_miss_17 g_h2_18 g_h5_19 _ _ _ (show (4 - (z_31).toInt).toNat < n_2 by omega) (show ((0 : Int) ≤ (z_31).toInt ∧ (z_31).toInt ≤ (3 : Int)) by omega) hP hD hS (lv_sub hl [0, 2, 3, 4] rfl)
              · have k_32 : (4 : Int) > (i_25).toInt := z_nle c_28
                refine lv_iload_n hx hb dX12_stays_31 rfl (lv_at hl 2 rfl) ?_
                refine lv_aload_n hx hb dX12_stays_32 rfl (lv_at hl 3 rfl) ?_
                refine va_get (D := (dC, dI)) (ci := 12) (v := .ref h5) (C := RX12) (T := TX12) (N := 70) hx hb hts hiX12 hown hK hP 0 rfl rfl 38 (by decide) w__fieldLink_RX12_87_ShellHeapModel_put_I_ (fun _ h9 => h9) rfl dX12_stays_33 ?_
                refine lv_iload hx hb dX12_stays_36 (lv_at hl 0 rfl) ?_
                refine va_iald hx hb hK hP 5 4 rfl rfl (z_vpin (by omega) (by omega)) dX12_stays_38 ?_
                refine lv_topi (fun z_33 ez_33 => ?_)
                refine lv_if_le (tgt := 49) hx hb dX12_stays_39 (by decide) (fun c_34 => ?_) (fun c_34 => ?_)
                · have k_35 : (z_33).toInt ≤ (0 : Int) := z_le c_34
                  refine lv_iconst (v := 0) hx hb dX12_stays_49 (by decide) ?_
                  refine lv_ior hx hb dX12_stays_50 ?_
                  refine lv_topi (fun z_36 ez_36 => ?_)
                  refine lv_istore_n (lv' := [(2, .int z_36), (4, .int i_25), (3, .int i_4), (0, .ref h0), (1, .int p1)]) hx hb dX12_stays_51 rfl hl (by decide) rfl (fun ls hl => ?_)
                  obtain ⟨z_37, ez_37⟩ : ∃ y : Int32, y = i_25 + 1 := ⟨_, rfl⟩
                  have kz_37 : (z_37).toInt = (i_25).toInt + (1 : Int) := by rw [ez_37]; exact z_add (b := 1) rfl rfl (z_al hF_27.1 (by decide)) (z_ah hF_27.2 (by decide))
                  refine lv_iinc (v := z_37) (lv' := [(4, .int z_37), (2, .int z_36), (3, .int i_4), (0, .ref h0), (1, .int p1)]) hx hb dX12_stays_52 hl (k := 1) rfl (by rw [ez_37]; rfl) (by decide) rfl (fun ls hl => ?_)
                  refine lv_goto (tgt := 25) hx hb dX12_stays_55 (by decide) ?_
                  exact ih_24 z_37 z_36 _ _ _ (show (5 - (z_37).toInt).toNat < n_23 by omega) (show ((0 : Int) ≤ (z_37).toInt ∧ (z_37).toInt ≤ (4 : Int)) by omega) hP hD hS (lv_sub hl [0, 2, 1, 3, 4] rfl)
                · have k_38 : (z_33).toInt > (0 : Int) := z_nle c_34
                  refine lv_iconst (v := 1) hx hb dX12_stays_42 (by decide) ?_
                  refine lv_iload hx hb dX12_stays_43 (lv_at hl 0 rfl) ?_
                  refine lv_ishl hx hb dX12_stays_45 ?_
                  refine lv_topi (fun z_39 ez_39 => ?_)
                  refine lv_goto (tgt := 50) hx hb dX12_stays_46 (by decide) ?_
                  refine lv_ior hx hb dX12_stays_50 ?_
                  refine lv_topi (fun z_40 ez_40 => ?_)
                  refine lv_istore_n (lv' := [(2, .int z_40), (4, .int i_25), (3, .int i_4), (0, .ref h0), (1, .int p1)]) hx hb dX12_stays_51 rfl hl (by decide) rfl (fun ls hl => ?_)
                  obtain ⟨z_41, ez_41⟩ : ∃ y : Int32, y = i_25 + 1 := ⟨_, rfl⟩
                  have kz_41 : (z_41).toInt = (i_25).toInt + (1 : Int) := by rw [ez_41]; exact z_add (b := 1) rfl rfl (z_al hF_27.1 (by decide)) (z_ah hF_27.2 (by decide))
                  refine lv_iinc (v := z_41) (lv' := [(4, .int z_41), (2, .int z_40), (3, .int i_4), (0, .ref h0), (1, .int p1)]) hx hb dX12_stays_52 hl (k := 1) rfl (by rw [ez_41]; rfl) (by decide) rfl (fun ls hl => ?_)
                  refine lv_goto (tgt := 25) hx hb dX12_stays_55 (by decide) ?_
                  exact ih_24 z_41 z_40 _ _ _ (show (5 - (z_41).toInt).toNat < n_23 by omega) (show ((0 : Int) ≤ (z_41).toInt ∧ (z_41).toInt ≤ (4 : Int)) by omega) hP hD hS (lv_sub hl [0, 2, 1, 3, 4] rfl)
          exact loop_22 _ 0 n_5 _ _ _ (Nat.lt_succ_self _) (show ((0 : Int) ≤ (0 : Int) ∧ (0 : Int) ≤ (4 : Int)) by omega) hP hD hS hl
        · have k_42 : (r_15).toInt > (40 : Int) := z_nle c_20
          refine lv_iconst (v := (-1)) hx hb dX12_stays_20 (by decide) ?_
          refine z_backQ hQQ ?_
          have hP9 := hP
          have hD9 := hD
          have hK9 := hK.sub (tys' := []) [] rfl
          refine W.widen (k := 0) (n := 0) (Nat.le_of_ble_eq_true rfl) (Nat.le_of_ble_eq_true rfl) ?_
          exact W.iret (v := (-1)) hx hb hr (fun t ht hW => ⟨⟨(-1), (), rfl, trivial, ⟨n_h0_miss_17, g_h2_18, g_h5_19, by rw [ht]; exact hP9, va_K.moved hW.alike hK9, hD9⟩⟩, hS.F ht⟩) hS.2.2 dX12_stays_21
  exact loop_1 _ 0 0 mm fh2 fh5 _ _ _ (Nat.lt_succ_self _) (show ((0 : Int) ≤ (0 : Int) ∧ (0 : Int) ≤ (3 : Int)) by omega) hP hD hS hl
