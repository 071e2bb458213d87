def u_s_X12_take_f : List Cond := .code yX12_take cX12_take 3 none :: ([.fieldLink RX12 207 "ShellHeapModel" "next" "I", .fieldLink RX12 204 "ShellHeapModel" "stop" "I", .fieldLink RX12 201 "ShellHeapModel" "place" "I", .methodLink RX12 224 yX12_isSmall, .instanceMethod yX12_isSmall, .selects RX12 yX12_isSmall yX12_isSmall, .initialized RX12, .methodLink RX12 227 yX12_wordAt, .instanceMethod yX12_wordAt, .selects RX12 yX12_wordAt yX12_wordAt, .fieldLink RX12 214 "ShellHeapModel" "which" "I", .fieldLink RX12 221 "ShellHeapModel" "kindNow" "I", .methodLink RX12 217 yX12_isDigit, .instanceMethod yX12_isDigit, .selects RX12 yX12_isDigit yX12_isDigit, .methodLink RX12 230 yX12_digits, .instanceMethod yX12_digits, .selects RX12 yX12_digits yX12_digits, .fieldLink RX12 7 "ShellHeapModel" "tape" "[I", .methodLink RX12 233 yX12_signOf, .instanceMethod yX12_signOf, .selects RX12 yX12_signOf yX12_signOf] ++ (wsX120 ++ (u_s_X12_isSmall ++ (u_s_X12_wordAt ++ (u_s_X12_isDigit ++ (u_s_X12_digits ++ (u_s_X12_signOf ++ [])))))))
theorem gd_s_X12_take_f : z_gd u_s_X12_take_f := z_gdc (by decide +kernel) (z_gda gdX12 (z_gda gd_s_X12_isSmall (z_gda gd_s_X12_wordAt (z_gda gd_s_X12_isDigit (z_gda gd_s_X12_digits (z_gda gd_s_X12_signOf (z_gd0)))))))
set_option maxRecDepth 20000 in
theorem gw_s_X12_take_f_s_X12_isSmall_224 : GoodIn u_s_X12_take_f (wsV RX12 224 RX12 yX12_isSmall u_s_X12_isSmall) := z_gV (z_gr _ [4, 5, 6, 7] rfl (by decide +kernel)) (fun w h => ⟨z_mc (z_mr (z_mr (z_ml h))), gd_s_X12_isSmall w h⟩)
set_option maxRecDepth 20000 in
theorem gw_s_X12_take_f_s_X12_wordAt_227 : GoodIn u_s_X12_take_f (wsV RX12 227 RX12 yX12_wordAt u_s_X12_wordAt) := z_gV (z_gr _ [8, 9, 10, 7] rfl (by decide +kernel)) (fun w h => ⟨z_mc (z_mr (z_mr (z_mr (z_ml h)))), gd_s_X12_wordAt w h⟩)
set_option maxRecDepth 20000 in
theorem gw_s_X12_take_f_s_X12_isDigit_217 : GoodIn u_s_X12_take_f (wsV RX12 217 RX12 yX12_isDigit u_s_X12_isDigit) := z_gV (z_gr _ [13, 14, 15, 7] rfl (by decide +kernel)) (fun w h => ⟨z_mc (z_mr (z_mr (z_mr (z_mr (z_ml h))))), gd_s_X12_isDigit w h⟩)
set_option maxRecDepth 20000 in
theorem gw_s_X12_take_f_s_X12_digits_230 : GoodIn u_s_X12_take_f (wsV RX12 230 RX12 yX12_digits u_s_X12_digits) := z_gV (z_gr _ [16, 17, 18, 7] rfl (by decide +kernel)) (fun w h => ⟨z_mc (z_mr (z_mr (z_mr (z_mr (z_mr (z_ml h)))))), gd_s_X12_digits w h⟩)
set_option maxRecDepth 20000 in
theorem gw_s_X12_take_f_s_X12_signOf_233 : GoodIn u_s_X12_take_f (wsV RX12 233 RX12 yX12_signOf u_s_X12_signOf) := z_gV (z_gr _ [20, 21, 22, 7] rfl (by decide +kernel)) (fun w h => ⟨z_mc (z_mr (z_mr (z_mr (z_mr (z_mr (z_mr (z_ml h))))))), gd_s_X12_signOf w h⟩)
set_option maxHeartbeats 4000000 in
set_option maxRecDepth 100000 in
theorem s_X12_take_f (l : Launch) (dC : Nat → ClassId) (dI : Nat → Nat → Nat) (sz : Nat) (h0 : Nat) (a_te : Nat) (h0_1 : Value) (h0_2 : Value) (h0_3 : Value) (h0_4 : Value) (h0_5 : Value) (h0_6 : Value) (h0_7 : Value) (h0_8 : Value) (h0_9 : Value) (h0_10 : Value) (h0_11 : Value) (h0_12 : Value) (h0_13 : Value) (h0_14 : Value) (h0_15 : Value) (h0_16 : Value) (h0_17 : Value) (h0_18 : Value) (h0_19 : Value) (h0_20 : Value) (h0_21 : Value) (h0_22 : Value) (h0_23 : Value) (h0_24 : Value) (h0_25 : Value) (h0_26 : Value) (a_wd : Nat) (mf : Int32) (mfp : Int32) (mst : Int32) (mnx : Int32) (mkd : Int32) (mwh : Int32) (mpl : Int32) (h0_35 : Value) (h0_36 : Value) (h0_37 : Value) (h0_38 : Value) (h0_39 : Value) (h0_40 : Value) (h0_41 : Value) (h0_42 : Value) (h0_43 : Value) (h0_44 : Value) (h0_45 : Value) (h0_46 : Value) (h0_47 : Value) (h0_48 : Value) (h0_49 : Value) (h0_50 : Value) (h0_51 : Value) (h0_52 : Value) (h0_53 : Value) (h0_54 : Value) (h0_55 : Value) (h0_56 : Value) (h0_57 : Value) (h0_58 : Value) (h0_59 : Value) (h0_60 : Value) (h0_61 : Value) (h0_62 : Value) (h0_63 : Value) (h0_64 : Value) (h0_65 : Value) (h0_66 : Value) (h0_67 : Value) (h0_68 : Value) (h0_69 : Value) (ca_te : ClassId) (fa_te : Nat → Int32) (ca_wd : ClassId) (fa_wd : Nat → Int32) (hB_mst : ((0 : Int) ≤ (mst).toInt ∧ (mst).toInt ≤ (700 : Int))) (hB_mnx : ((0 : Int) ≤ (mnx).toInt ∧ (mnx).toInt ≤ (700 : Int))) (hB_mkd : ((0 : Int) ≤ (mkd).toInt ∧ (mkd).toInt ≤ (7 : Int))) (hB_mpl : ((0 : Int) ≤ (mpl).toInt ∧ (mpl).toInt ≤ (700 : Int))) (hI_a_te : ∀ j : Nat, ((0 : Int) ≤ (fa_te j).toInt ∧ (fa_te j).toInt ≤ (255 : Int))) (hWD : z_wd fa_wd) (hle : mnx.toInt ≤ mst.toInt) : Met l yX12_take u_s_X12_take_f ({ frames := 2, cells := 0, slots := 0, locals := 43 }) (va_Pc [.ref h0, .int 1] (z_C (dC, dI) vwCl [(h0, .inr (12, [.ref a_te, h0_1, h0_2, h0_3, h0_4, h0_5, h0_6, h0_7, h0_8, h0_9, h0_10, h0_11, h0_12, h0_13, h0_14, h0_15, h0_16, h0_17, h0_18, h0_19, h0_20, h0_21, h0_22, h0_23, h0_24, h0_25, h0_26, .ref a_wd, .int mf, .int mfp, .int mst, .int mnx, .int mkd, .int mwh, .int mpl, h0_35, h0_36, h0_37, h0_38, h0_39, h0_40, h0_41, h0_42, h0_43, h0_44, h0_45, h0_46, h0_47, h0_48, h0_49, h0_50, h0_51, h0_52, h0_53, h0_54, h0_55, h0_56, h0_57, h0_58, h0_59, h0_60, h0_61, h0_62, h0_63, h0_64, h0_65, h0_66, h0_67, h0_68, h0_69])), (a_te, .inl (ca_te, 700, .inl fa_te)), (a_wd, .inl (ca_wd, 115, .inl fa_wd))] [(ca_te, .int), (ca_wd, .int)] sz)) (va_Qv (fun (_ : Unit) => True) (fun (_ : Unit) (t : State) => ∃ (n_h0_next : Int32), ∃ (n_h0_kindNow : Int32), ∃ (n_h0_which : Int32), ∃ (n_h0_place : Int32), ((0 : Int) ≤ (n_h0_next).toInt ∧ (n_h0_next).toInt ≤ (700 : Int)) ∧ ((0 : Int) ≤ (n_h0_kindNow).toInt ∧ (n_h0_kindNow).toInt ≤ (7 : Int)) ∧ ((0 : Int) ≤ (n_h0_place).toInt ∧ (n_h0_place).toInt ≤ (700 : Int)) ∧ (mnx.toInt ≤ n_h0_next.toInt ∧ n_h0_next.toInt ≤ mst.toInt) ∧ (n_h0_kindNow.toInt ≤ 8 * (n_h0_next.toInt - mnx.toInt)) ∧ (n_h0_place.toInt ≤ n_h0_next.toInt) ∧ (z_tk8 n_h0_kindNow.toInt n_h0_next.toInt n_h0_place.toInt) ∧ (z_tkw n_h0_which.toInt n_h0_kindNow.toInt) ∧ va_P (dC, dI) vwCl [(h0, .inr (12, [.ref a_te, h0_1, h0_2, h0_3, h0_4, h0_5, h0_6, h0_7, h0_8, h0_9, h0_10, h0_11, h0_12, h0_13, h0_14, h0_15, h0_16, h0_17, h0_18, h0_19, h0_20, h0_21, h0_22, h0_23, h0_24, h0_25, h0_26, .ref a_wd, .int mf, .int mfp, .int mst, .int n_h0_next, .int n_h0_kindNow, .int n_h0_which, .int n_h0_place, h0_35, h0_36, h0_37, h0_38, h0_39, h0_40, h0_41, h0_42, h0_43, h0_44, h0_45, h0_46, h0_47, h0_48, h0_49, h0_50, h0_51, h0_52, h0_53, h0_54, h0_55, h0_56, h0_57, h0_58, h0_59, h0_60, h0_61, h0_62, h0_63, h0_64, h0_65, h0_66, h0_67, h0_68, h0_69])), (a_te, .inl (ca_te, 700, .inl fa_te)), (a_wd, .inl (ca_wd, 115, .inl fa_wd))] t.heap ∧ va_K (dC, dI) vwCl [] t ∧ va_D (va_A [(h0, .inr (12, [.ref a_te, h0_1, h0_2, h0_3, h0_4, h0_5, h0_6, h0_7, h0_8, h0_9, h0_10, h0_11, h0_12, h0_13, h0_14, h0_15, h0_16, h0_17, h0_18, h0_19, h0_20, h0_21, h0_22, h0_23, h0_24, h0_25, h0_26, .ref a_wd, .int mf, .int mfp, .int mst, .int mnx, .int mkd, .int mwh, .int mpl, h0_35, h0_36, h0_37, h0_38, h0_39, h0_40, h0_41, h0_42, h0_43, h0_44, h0_45, h0_46, h0_47, h0_48, h0_49, h0_50, h0_51, h0_52, h0_53, h0_54, h0_55, h0_56, h0_57, h0_58, h0_59, h0_60, h0_61, h0_62, h0_63, h0_64, h0_65, h0_66, h0_67, h0_68, h0_69])), (a_te, .inl (ca_te, 700, .inl fa_te)), (a_wd, .inl (ca_wd, 115, .inl fa_wd))] sz) [(h0, .inr (12, [.ref a_te, h0_1, h0_2, h0_3, h0_4, h0_5, h0_6, h0_7, h0_8, h0_9, h0_10, h0_11, h0_12, h0_13, h0_14, h0_15, h0_16, h0_17, h0_18, h0_19, h0_20, h0_21, h0_22, h0_23, h0_24, h0_25, h0_26, .ref a_wd, .int mf, .int mfp, .int mst, .int n_h0_next, .int n_h0_kindNow, .int n_h0_which, .int n_h0_place, h0_35, h0_36, h0_37, h0_38, h0_39, h0_40, h0_41, h0_42, h0_43, h0_44, h0_45, h0_46, h0_47, h0_48, h0_49, h0_50, h0_51, h0_52, h0_53, h0_54, h0_55, h0_56, h0_57, h0_58, h0_59, h0_60, h0_61, h0_62, h0_63, h0_64, h0_65, h0_66, h0_67, h0_68, h0_69])), (a_te, .inl (ca_te, 700, .inl fa_te)), (a_wd, .inl (ca_wd, 115, .inl fa_wd))]) (va_A [(h0, .inr (12, [.ref a_te, h0_1, h0_2, h0_3, h0_4, h0_5, h0_6, h0_7, h0_8, h0_9, h0_10, h0_11, h0_12, h0_13, h0_14, h0_15, h0_16, h0_17, h0_18, h0_19, h0_20, h0_21, h0_22, h0_23, h0_24, h0_25, h0_26, .ref a_wd, .int mf, .int mfp, .int mst, .int mnx, .int mkd, .int mwh, .int mpl, h0_35, h0_36, h0_37, h0_38, h0_39, h0_40, h0_41, h0_42, h0_43, h0_44, h0_45, h0_46, h0_47, h0_48, h0_49, h0_50, h0_51, h0_52, h0_53, h0_54, h0_55, h0_56, h0_57, h0_58, h0_59, h0_60, h0_61, h0_62, h0_63, h0_64, h0_65, h0_66, h0_67, h0_68, h0_69])), (a_te, .inl (ca_te, 700, .inl fa_te)), (a_wd, .inl (ca_wd, 115, .inl fa_wd))] sz)) 0 0 (va_A [(h0, .inr (12, [.ref a_te, h0_1, h0_2, h0_3, h0_4, h0_5, h0_6, h0_7, h0_8, h0_9, h0_10, h0_11, h0_12, h0_13, h0_14, h0_15, h0_16, h0_17, h0_18, h0_19, h0_20, h0_21, h0_22, h0_23, h0_24, h0_25, h0_26, .ref a_wd, .int mf, .int mfp, .int mst, .int mnx, .int mkd, .int mwh, .int mpl, h0_35, h0_36, h0_37, h0_38, h0_39, h0_40, h0_41, h0_42, h0_43, h0_44, h0_45, h0_46, h0_47, h0_48, h0_49, h0_50, h0_51, h0_52, h0_53, h0_54, h0_55, h0_56, h0_57, h0_58, h0_59, h0_60, h0_61, h0_62, h0_63, h0_64, h0_65, h0_66, h0_67, h0_68, h0_69])), (a_te, .inl (ca_te, 700, .inl fa_te)), (a_wd, .inl (ca_wd, 115, .inl fa_wd))] sz) := by
  refine Met.ofW (cc := cX12_take) (maxL := 3) (ret := none) (by decide) rfl ?_
  intro p e s m args below meth c s₁ B hml hv
  obtain ⟨rfl, hsz, hP, hK, hD0⟩ := hv
  have hx := B.exec
  have hb := B.bytes
  have hr := B.returns
  have hts := atoms_spec (ws := u_s_X12_take_f) B.pre
  have hown : s.vm.findClass RX12 = some m.cls := findClass_of_methodNamed B.named
  have hlocks := B.notSynchronized
  subst hsz
  have hD := hD0.self (sz := s.heap.size)
  generalize hAe : va_A [(h0, .inr (12, [.ref a_te, h0_1, h0_2, h0_3, h0_4, h0_5, h0_6, h0_7, h0_8, h0_9, h0_10, h0_11, h0_12, h0_13, h0_14, h0_15, h0_16, h0_17, h0_18, h0_19, h0_20, h0_21, h0_22, h0_23, h0_24, h0_25, h0_26, .ref a_wd, .int mf, .int mfp, .int mst, .int mnx, .int mkd, .int mwh, .int mpl, h0_35, h0_36, h0_37, h0_38, h0_39, h0_40, h0_41, h0_42, h0_43, h0_44, h0_45, h0_46, h0_47, h0_48, h0_49, h0_50, h0_51, h0_52, h0_53, h0_54, h0_55, h0_56, h0_57, h0_58, h0_59, h0_60, h0_61, h0_62, h0_63, h0_64, h0_65, h0_66, h0_67, h0_68, h0_69])), (a_te, .inl (ca_te, 700, .inl fa_te)), (a_wd, .inl (ca_wd, 115, .inl fa_wd))] s.heap.size = A at hD ⊢
  have hA : ∀ q : Nat, s.heap.size ≤ q → A q := fun q h => by rw [← hAe]; exact Or.inr h
  have hS : va_S A s.heap s.heap [] := va_S.rf
  have hP : va_P (dC, dI) vwCl [(h0, .inr (12, [.ref a_te, h0_1, h0_2, h0_3, h0_4, h0_5, h0_6, h0_7, h0_8, h0_9, h0_10, h0_11, h0_12, h0_13, h0_14, h0_15, h0_16, h0_17, h0_18, h0_19, h0_20, h0_21, h0_22, h0_23, h0_24, h0_25, h0_26, .ref a_wd, .int mf, .int mfp, .int mst, .int mnx, .int mkd, .int mwh, .int mpl, h0_35, h0_36, h0_37, h0_38, h0_39, h0_40, h0_41, h0_42, h0_43, h0_44, h0_45, h0_46, h0_47, h0_48, h0_49, h0_50, h0_51, h0_52, h0_53, h0_54, h0_55, h0_56, h0_57, h0_58, h0_59, h0_60, h0_61, h0_62, h0_63, h0_64, h0_65, h0_66, h0_67, h0_68, h0_69])), (a_te, .inl (ca_te, 700, .inl fa_te)), (a_wd, .inl (ca_wd, 115, .inl fa_wd))] s.heap := hP
  have w__fieldLink_RX12_207_ShellHeapModel_next_I_ := hts (.fieldLink RX12 207 "ShellHeapModel" "next" "I") (z_mc (z_ml z_m0))
  have hiX12 := show ∀ w ∈ u_ws RX12 TX12 70, w ∈ u_s_X12_take_f from fun w h => z_mc (z_mr (z_ml h))
  have w__fieldLink_RX12_204_ShellHeapModel_stop_I_ := hts (.fieldLink RX12 204 "ShellHeapModel" "stop" "I") (z_mc (z_ml z_m1))
  have w__fieldLink_RX12_201_ShellHeapModel_place_I_ := hts (.fieldLink RX12 201 "ShellHeapModel" "place" "I") (z_mc (z_ml z_m2))
  have w__fieldLink_RX12_214_ShellHeapModel_which_I_ := hts (.fieldLink RX12 214 "ShellHeapModel" "which" "I") (z_mc (z_ml z_m10))
  have w__fieldLink_RX12_221_ShellHeapModel_kindNow_I_ := hts (.fieldLink RX12 221 "ShellHeapModel" "kindNow" "I") (z_mc (z_ml z_m11))
  have w__fieldLink_RX12_7_ShellHeapModel_tape_I_ := hts (.fieldLink RX12 7 "ShellHeapModel" "tape" "[I") (z_mc (z_ml z_m18))
  have hl := lv_entry ([.ref h0, .int 1]) (n := 3) (Nat.le_of_ble_eq_true rfl)
  rw [lg_entry_eq]
  generalize (lg_sl ([.ref h0, .int 1]) ++ List.replicate (3 - (lg_sl ([.ref h0, .int 1])).length) Slot.unset).toArray = ls at hl ⊢
  have hl : lv_has ls 3 [(0, .ref h0), (1, .int 1)] := hl
  refine z_nameQ (fun QQ hQQ => ?_)
  have loop_1 : ∀ (n_2 : Nat) (v_4 : Int32) (H : Heap) (locs : List Loc) (ls : Array Slot), (701 - (v_4).toInt).toNat < n_2 → (((0 : Int) ≤ (v_4).toInt ∧ (v_4).toInt ≤ (700 : Int))) → ((mnx).toInt ≤ (v_4).toInt ∧ (v_4).toInt ≤ (mst).toInt) → va_P (dC, dI) vwCl [(h0, .inr (12, [.ref a_te, h0_1, h0_2, h0_3, h0_4, h0_5, h0_6, h0_7, h0_8, h0_9, h0_10, h0_11, h0_12, h0_13, h0_14, h0_15, h0_16, h0_17, h0_18, h0_19, h0_20, h0_21, h0_22, h0_23, h0_24, h0_25, h0_26, .ref a_wd, .int mf, .int mfp, .int mst, .int v_4, .int mkd, .int mwh, .int mpl, h0_35, h0_36, h0_37, h0_38, h0_39, h0_40, h0_41, h0_42, h0_43, h0_44, h0_45, h0_46, h0_47, h0_48, h0_49, h0_50, h0_51, h0_52, h0_53, h0_54, h0_55, h0_56, h0_57, h0_58, h0_59, h0_60, h0_61, h0_62, h0_63, h0_64, h0_65, h0_66, h0_67, h0_68, h0_69])), (a_te, .inl (ca_te, 700, .inl fa_te)), (a_wd, .inl (ca_wd, 115, .inl fa_wd))] H → va_D A [(h0, .inr (12, [.ref a_te, h0_1, h0_2, h0_3, h0_4, h0_5, h0_6, h0_7, h0_8, h0_9, h0_10, h0_11, h0_12, h0_13, h0_14, h0_15, h0_16, h0_17, h0_18, h0_19, h0_20, h0_21, h0_22, h0_23, h0_24, h0_25, h0_26, .ref a_wd, .int mf, .int mfp, .int mst, .int v_4, .int mkd, .int mwh, .int mpl, h0_35, h0_36, h0_37, h0_38, h0_39, h0_40, h0_41, h0_42, h0_43, h0_44, h0_45, h0_46, h0_47, h0_48, h0_49, h0_50, h0_51, h0_52, h0_53, h0_54, h0_55, h0_56, h0_57, h0_58, h0_59, h0_60, h0_61, h0_62, h0_63, h0_64, h0_65, h0_66, h0_67, h0_68, h0_69])), (a_te, .inl (ca_te, 700, .inl fa_te)), (a_wd, .inl (ca_wd, 115, .inl fa_wd))] → va_S A s.heap H locs → lv_has ls 3 [(0, .ref h0), (1, .int 1)] → W p l e ({ frames := 2, cells := 0, slots := 0, locals := 43 } : Room) s m ([.ref h0, .int 1] : List Value).toArray below meth c H locs 0 0 QQ (F0 m 0 ls []) := by
    intro n_2
    induction n_2 with
    | zero => intro v_4 H locs ls hm; exact absurd hm (Nat.not_lt_zero _)
    | succ n_2 ih_3 =>
      intro v_4 H locs ls hm hF_5 hF_6 hP hD hS hl
      refine lv_aload_n hx hb dX12_take_0 rfl (lv_at hl 0 rfl) ?_
      refine va_get (D := (dC, dI)) (ci := 12) (v := .int v_4) (C := RX12) (T := TX12) (N := 70) hx hb hts hiX12 hown hK hP 0 rfl rfl 31 (by decide) w__fieldLink_RX12_207_ShellHeapModel_next_I_ (fun _ h9 => h9) rfl dX12_take_1 ?_
      refine lv_aload_n hx hb dX12_take_4 rfl (lv_at hl 0 rfl) ?_
      refine va_get (D := (dC, dI)) (ci := 12) (v := .int mst) (C := RX12) (T := TX12) (N := 70) hx hb hts hiX12 hown hK hP 0 rfl rfl 30 (by decide) w__fieldLink_RX12_204_ShellHeapModel_stop_I_ (fun _ h9 => h9) rfl dX12_take_5 ?_
      refine lv_icmp_ge (tgt := 52) hx hb dX12_take_8 (by decide) (fun c_7 => ?_) (fun c_7 => ?_)
      · have k_8 : (mst).toInt ≤ (v_4).toInt := z_le c_7
        refine lv_aload_n hx hb dX12_take_52 rfl (lv_at hl 0 rfl) ?_
        refine lv_aload_n hx hb dX12_take_53 rfl (lv_at hl 0 rfl) ?_
        refine va_get (D := (dC, dI)) (ci := 12) (v := .int v_4) (C := RX12) (T := TX12) (N := 70) hx hb hts hiX12 hown hK hP 0 rfl rfl 31 (by decide) w__fieldLink_RX12_207_ShellHeapModel_next_I_ (fun _ h9 => h9) rfl dX12_take_54 ?_
        refine va_put (D := (dC, dI)) (ci := 12) (v := .int v_4) (ty := .int) (C := RX12) (T := TX12) (N := 70) hx hb hts hiX12 tyX12 tyX12_ok nmX12 hown hK hP hD hS 0 rfl rfl 34 (by decide) w__fieldLink_RX12_201_ShellHeapModel_place_I_ (fun _ h9 => h9) rfl (by decide +kernel) rfl rfl (Nat.le_of_ble_eq_true rfl) dX12_take_57 (fun H_9 locs hP hD hS => ?_)
        obtain ⟨hP, hD⟩ := z_s_0_34 hP hD
        refine lv_aload_n hx hb dX12_take_60 rfl (lv_at hl 0 rfl) ?_
        refine va_get (D := (dC, dI)) (ci := 12) (v := .int v_4) (C := RX12) (T := TX12) (N := 70) hx hb hts hiX12 hown hK hP 0 rfl rfl 31 (by decide) w__fieldLink_RX12_207_ShellHeapModel_next_I_ (fun _ h9 => h9) rfl dX12_take_61 ?_
        refine lv_aload_n hx hb dX12_take_64 rfl (lv_at hl 0 rfl) ?_
        refine va_get (D := (dC, dI)) (ci := 12) (v := .int mst) (C := RX12) (T := TX12) (N := 70) hx hb hts hiX12 hown hK hP 0 rfl rfl 30 (by decide) w__fieldLink_RX12_204_ShellHeapModel_stop_I_ (fun _ h9 => h9) rfl dX12_take_65 ?_
        refine lv_icmp_ne (tgt := 79) hx hb dX12_take_68 (by decide) (fun c_10 => ?_) (fun c_10 => ?_)
        · have k_11 : (v_4).toInt ≠ (mst).toInt := z_ne c_10
          refine lv_aload_n hx hb dX12_take_79 rfl (lv_at hl 0 rfl) ?_
          refine lv_aload_n hx hb dX12_take_80 rfl (lv_at hl 0 rfl) ?_
          refine va_get (D := (dC, dI)) (ci := 12) (v := .int v_4) (C := RX12) (T := TX12) (N := 70) hx hb hts hiX12 hown hK hP 0 rfl rfl 31 (by decide) w__fieldLink_RX12_207_ShellHeapModel_next_I_ (fun _ h9 => h9) rfl dX12_take_81 ?_
          obtain ⟨hPc, hDc⟩ := z_sub2 (ws' := [(h0, .inr (12, [.ref a_te, h0_1, h0_2, h0_3, h0_4, h0_5, h0_6, h0_7, h0_8, h0_9, h0_10, h0_11, h0_12, h0_13, h0_14, h0_15, h0_16, h0_17, h0_18, h0_19, h0_20, h0_21, h0_22, h0_23, h0_24, h0_25, h0_26, .ref a_wd, .int mf, .int mfp, .int mst, .int v_4, .int mkd, .int mwh, .int v_4, h0_35, h0_36, h0_37, h0_38, h0_39, h0_40, h0_41, h0_42, h0_43, h0_44, h0_45, h0_46, h0_47, h0_48, h0_49, h0_50, h0_51, h0_52, h0_53, h0_54, h0_55, h0_56, h0_57, h0_58, h0_59, h0_60, h0_61, h0_62, h0_63, h0_64, h0_65, h0_66, h0_67, h0_68, h0_69])), (a_te, .inl (ca_te, 700, .inl fa_te))]) hP hD [0, 1] (by decide) rfl
          have hKc := hK.sub (tys' := [(ca_te, .int)]) [0] rfl
          have hFc := va_free (ws := []) (wc := []) (z_D0 _) hS hA [] rfl
          refine va_calli (va_runV (As := [.int v_4]) (rest := []) ⟨hx, hb, hml, hown, hts⟩ (s_X12_isSmall l dC dI H_9.size h0 v_4 a_te h0_1 h0_2 h0_3 h0_4 h0_5 h0_6 h0_7 h0_8 h0_9 h0_10 h0_11 h0_12 h0_13 h0_14 h0_15 h0_16 h0_17 h0_18 h0_19 h0_20 h0_21 h0_22 h0_23 h0_24 h0_25 h0_26 a_wd mf mfp mst v_4 mkd mwh v_4 h0_35 h0_36 h0_37 h0_38 h0_39 h0_40 h0_41 h0_42 h0_43 h0_44 h0_45 h0_46 h0_47 h0_48 h0_49 h0_50 h0_51 h0_52 h0_53 h0_54 h0_55 h0_56 h0_57 h0_58 h0_59 h0_60 h0_61 h0_62 h0_63 h0_64 h0_65 h0_66 h0_67 h0_68 h0_69 ca_te fa_te hB_mst hF_5 hB_mkd hF_5 hF_5 hI_a_te) (cwV 1 hts gw_s_X12_take_f_s_X12_isSmall_224 rfl rfl rfl (by decide +kernel) ⟨Nat.le_of_ble_eq_true rfl, Nat.le_of_ble_eq_true rfl⟩) ⟨z_blind, va_recv hKc hPc (ci := 12) (q0 := 0) rfl rfl, z_pre hPc hKc hDc⟩ rfl rfl hl.1 rfl (lv_room (Nat.le_of_ble_eq_true rfl)) dX12_take_84 ⟨Nat.le_of_ble_eq_true rfl, Nat.le_of_ble_eq_true rfl⟩) hS (fun q _ h => hFc q h) hFc (fun r_13 u t H_12 locs ht hvm hw_14 hB hz1 hk1 hS => ?_)
          replace hP := z_pure hP hk1
          clear hPc hDc hKc
          rcases hw_14 with ⟨rfl, hw_14⟩ | ⟨rfl, hw_14⟩
          · have hw_14 : (v_4.toInt < mst.toInt ∧ 97 ≤ (fa_te v_4.toNatClampNeg).toInt ∧ (fa_te v_4.toNatClampNeg).toInt ≤ 122) := hw_14
            refine lv_if_eq (tgt := 240) hx hb dX12_take_87 (by decide) (fun c_15 => absurd c_15 (by decide)) (fun _ => ?_)
            have loop_16 : ∀ (n_17 : Nat) (v_19 : Int32) (H : Heap) (locs : List Loc) (ls : Array Slot), (701 - (v_19).toInt).toNat < n_17 → (((0 : Int) ≤ (v_19).toInt ∧ (v_19).toInt ≤ (700 : Int))) → ((mnx).toInt ≤ (v_19).toInt ∧ (v_19).toInt ≤ (mst).toInt) → ((v_4).toInt ≤ (v_19).toInt) → ((mnx).toInt + 1 ≤ (v_19).toInt ∨ ((v_19).toInt < (mst).toInt ∧ 97 ≤ (fa_te (v_19 : Int32).toNatClampNeg).toInt ∧ (fa_te (v_19 : Int32).toNatClampNeg).toInt ≤ 122)) → va_P (dC, dI) vwCl [(h0, .inr (12, [.ref a_te, h0_1, h0_2, h0_3, h0_4, h0_5, h0_6, h0_7, h0_8, h0_9, h0_10, h0_11, h0_12, h0_13, h0_14, h0_15, h0_16, h0_17, h0_18, h0_19, h0_20, h0_21, h0_22, h0_23, h0_24, h0_25, h0_26, .ref a_wd, .int mf, .int mfp, .int mst, .int v_19, .int mkd, .int mwh, .int v_4, h0_35, h0_36, h0_37, h0_38, h0_39, h0_40, h0_41, h0_42, h0_43, h0_44, h0_45, h0_46, h0_47, h0_48, h0_49, h0_50, h0_51, h0_52, h0_53, h0_54, h0_55, h0_56, h0_57, h0_58, h0_59, h0_60, h0_61, h0_62, h0_63, h0_64, h0_65, h0_66, h0_67, h0_68, h0_69])), (a_te, .inl (ca_te, 700, .inl fa_te)), (a_wd, .inl (ca_wd, 115, .inl fa_wd))] H → va_D A [(h0, .inr (12, [.ref a_te, h0_1, h0_2, h0_3, h0_4, h0_5, h0_6, h0_7, h0_8, h0_9, h0_10, h0_11, h0_12, h0_13, h0_14, h0_15, h0_16, h0_17, h0_18, h0_19, h0_20, h0_21, h0_22, h0_23, h0_24, h0_25, h0_26, .ref a_wd, .int mf, .int mfp, .int mst, .int v_19, .int mkd, .int mwh, .int v_4, h0_35, h0_36, h0_37, h0_38, h0_39, h0_40, h0_41, h0_42, h0_43, h0_44, h0_45, h0_46, h0_47, h0_48, h0_49, h0_50, h0_51, h0_52, h0_53, h0_54, h0_55, h0_56, h0_57, h0_58, h0_59, h0_60, h0_61, h0_62, h0_63, h0_64, h0_65, h0_66, h0_67, h0_68, h0_69])), (a_te, .inl (ca_te, 700, .inl fa_te)), (a_wd, .inl (ca_wd, 115, .inl fa_wd))] → va_S A s.heap H locs → lv_has ls 3 [(0, .ref h0), (1, .int 1)] → W p l e ({ frames := 2, cells := 0, slots := 0, locals := 43 } : Room) s m ([.ref h0, .int 1] : List Value).toArray below meth c H locs 0 0 QQ (F0 m 90 ls []) := by
              intro n_17
              induction n_17 with
              | zero => intro v_19 H locs ls hm; exact absurd hm (Nat.not_lt_zero _)
              | succ n_17 ih_18 =>
                intro v_19 H locs ls hm hF_20 hF_21 hF_22 hF_23 hP hD hS hl
                refine lv_aload_n hx hb dX12_take_90 rfl (lv_at hl 0 rfl) ?_
                refine lv_aload_n hx hb dX12_take_91 rfl (lv_at hl 0 rfl) ?_
                refine va_get (D := (dC, dI)) (ci := 12) (v := .int v_19) (C := RX12) (T := TX12) (N := 70) hx hb hts hiX12 hown hK hP 0 rfl rfl 31 (by decide) w__fieldLink_RX12_207_ShellHeapModel_next_I_ (fun _ h9 => h9) rfl dX12_take_92 ?_
                obtain ⟨hPc, hDc⟩ := z_sub2 (ws' := [(h0, .inr (12, [.ref a_te, h0_1, h0_2, h0_3, h0_4, h0_5, h0_6, h0_7, h0_8, h0_9, h0_10, h0_11, h0_12, h0_13, h0_14, h0_15, h0_16, h0_17, h0_18, h0_19, h0_20, h0_21, h0_22, h0_23, h0_24, h0_25, h0_26, .ref a_wd, .int mf, .int mfp, .int mst, .int v_19, .int mkd, .int mwh, .int v_4, h0_35, h0_36, h0_37, h0_38, h0_39, h0_40, h0_41, h0_42, h0_43, h0_44, h0_45, h0_46, h0_47, h0_48, h0_49, h0_50, h0_51, h0_52, h0_53, h0_54, h0_55, h0_56, h0_57, h0_58, h0_59, h0_60, h0_61, h0_62, h0_63, h0_64, h0_65, h0_66, h0_67, h0_68, h0_69])), (a_te, .inl (ca_te, 700, .inl fa_te))]) hP hD [0, 1] (by decide) rfl
                have hKc := hK.sub (tys' := [(ca_te, .int)]) [0] rfl
                have hFc := va_free (ws := []) (wc := []) (z_D0 _) hS hA [] rfl
                refine va_calli (va_runV (As := [.int v_19]) (rest := []) ⟨hx, hb, hml, hown, hts⟩ (s_X12_isSmall l dC dI H.size h0 v_19 a_te h0_1 h0_2 h0_3 h0_4 h0_5 h0_6 h0_7 h0_8 h0_9 h0_10 h0_11 h0_12 h0_13 h0_14 h0_15 h0_16 h0_17 h0_18 h0_19 h0_20 h0_21 h0_22 h0_23 h0_24 h0_25 h0_26 a_wd mf mfp mst v_19 mkd mwh v_4 h0_35 h0_36 h0_37 h0_38 h0_39 h0_40 h0_41 h0_42 h0_43 h0_44 h0_45 h0_46 h0_47 h0_48 h0_49 h0_50 h0_51 h0_52 h0_53 h0_54 h0_55 h0_56 h0_57 h0_58 h0_59 h0_60 h0_61 h0_62 h0_63 h0_64 h0_65 h0_66 h0_67 h0_68 h0_69 ca_te fa_te hB_mst hF_20 hB_mkd hF_5 hF_20 hI_a_te) (cwV 1 hts gw_s_X12_take_f_s_X12_isSmall_224 rfl rfl rfl (by decide +kernel) ⟨Nat.le_of_ble_eq_true rfl, Nat.le_of_ble_eq_true rfl⟩) ⟨z_blind, va_recv hKc hPc (ci := 12) (q0 := 0) rfl rfl, z_pre hPc hKc hDc⟩ rfl rfl hl.1 rfl (lv_room (Nat.le_of_ble_eq_true rfl)) dX12_take_95 ⟨Nat.le_of_ble_eq_true rfl, Nat.le_of_ble_eq_true rfl⟩) hS (fun q _ h => hFc q h) hFc (fun r_25 u t H_24 locs ht hvm hw_26 hB hz1 hk1 hS => ?_)
                replace hP := z_pure hP hk1
                clear hPc hDc hKc
                rcases hw_26 with ⟨rfl, hw_26⟩ | ⟨rfl, hw_26⟩
                · have hw_26 : (v_19.toInt < mst.toInt ∧ 97 ≤ (fa_te v_19.toNatClampNeg).toInt ∧ (fa_te v_19.toNatClampNeg).toInt ≤ 122) := hw_26
                  refine lv_if_eq (tgt := 114) hx hb dX12_take_98 (by decide) (fun c_27 => absurd c_27 (by decide)) (fun _ => ?_)
                  refine lv_aload_n hx hb dX12_take_101 rfl (lv_at hl 0 rfl) ?_
                  refine lv_dup hx hb dX12_take_102 rfl ?_
                  refine va_get (D := (dC, dI)) (ci := 12) (v := .int v_19) (C := RX12) (T := TX12) (N := 70) hx hb hts hiX12 hown hK hP 0 rfl rfl 31 (by decide) w__fieldLink_RX12_207_ShellHeapModel_next_I_ (fun _ h9 => h9) rfl dX12_take_103 ?_
                  refine lv_iconst (v := 1) hx hb dX12_take_106 (by decide) ?_
                  refine lv_iadd hx hb dX12_take_107 ?_
                  refine lv_topi (fun z_28 ez_28 => ?_)
                  have kz_28 : (z_28).toInt = (v_19).toInt + (1 : Int) := by rw [ez_28]; exact z_add (a := (v_19).toInt) (b := (1 : Int)) rfl rfl (z_al hF_20.1 (by decide)) (z_ah hF_20.2 (by decide))
                  refine va_put (D := (dC, dI)) (ci := 12) (v := .int z_28) (ty := .int) (C := RX12) (T := TX12) (N := 70) hx hb hts hiX12 tyX12 tyX12_ok nmX12 hown hK hP hD hS 0 rfl rfl 31 (by decide) w__fieldLink_RX12_207_ShellHeapModel_next_I_ (fun _ h9 => h9) rfl (by decide +kernel) rfl rfl (Nat.le_of_ble_eq_true rfl) dX12_take_108 (fun H_29 locs hP hD hS => ?_)
                  obtain ⟨hP, hD⟩ := z_s_0_31 hP hD
                  refine lv_goto (tgt := 90) hx hb dX12_take_111 (by decide) ?_
                  exact ih_18 z_28 _ _ _ (show (701 - (z_28).toInt).toNat < n_17 by omega) (show ((0 : Int) ≤ (z_28).toInt ∧ (z_28).toInt ≤ (700 : Int)) by omega) (show (mnx).toInt ≤ (z_28).toInt ∧ (z_28).toInt ≤ (mst).toInt by omega) (show (v_4).toInt ≤ (z_28).toInt by omega) (show (mnx).toInt + 1 ≤ (z_28).toInt ∨ ((z_28).toInt < (mst).toInt ∧ 97 ≤ (fa_te (z_28 : Int32).toNatClampNeg).toInt ∧ (fa_te (z_28 : Int32).toNatClampNeg).toInt ≤ 122) by omega) hP hD hS (lv_sub hl [0, 1] rfl)
                · have hw_26 : ¬ (v_19.toInt < mst.toInt ∧ 97 ≤ (fa_te v_19.toNatClampNeg).toInt ∧ (fa_te v_19.toNatClampNeg).toInt ≤ 122) := hw_26
                  refine lv_if_eq (tgt := 114) hx hb dX12_take_98 (by decide) (fun _ => ?_) (fun c_30 => absurd (by decide) c_30)
                  refine lv_aload_n hx hb dX12_take_114 rfl (lv_at hl 0 rfl) ?_
                  refine va_get (D := (dC, dI)) (ci := 12) (v := .int v_19) (C := RX12) (T := TX12) (N := 70) hx hb hts hiX12 hown hK hP 0 rfl rfl 31 (by decide) w__fieldLink_RX12_207_ShellHeapModel_next_I_ (fun _ h9 => h9) rfl dX12_take_115 ?_
                  refine lv_aload_n hx hb dX12_take_118 rfl (lv_at hl 0 rfl) ?_
                  refine va_get (D := (dC, dI)) (ci := 12) (v := .int v_4) (C := RX12) (T := TX12) (N := 70) hx hb hts hiX12 hown hK hP 0 rfl rfl 34 (by decide) w__fieldLink_RX12_201_ShellHeapModel_place_I_ (fun _ h9 => h9) rfl dX12_take_119 ?_
                  refine lv_isub hx hb dX12_take_122 ?_
                  refine lv_topi (fun z_31 ez_31 => ?_)
                  have kz_31 : (z_31).toInt = (v_19).toInt - (v_4).toInt := by rw [ez_31]; exact z_sub (a := (v_19).toInt) (b := (v_4).toInt) rfl rfl (by omega) (by omega)
                  refine lv_istore_n (lv' := [(2, .int z_31), (0, .ref h0), (1, .int 1)]) hx hb dX12_take_123 rfl hl (by decide) rfl (fun ls hl => ?_)
                  refine lv_aload_n hx hb dX12_take_124 rfl (lv_at hl 1 rfl) ?_
                  refine lv_aload_n hx hb dX12_take_125 rfl (lv_at hl 1 rfl) ?_
                  refine lv_aload_n hx hb dX12_take_126 rfl (lv_at hl 1 rfl) ?_
                  refine va_get (D := (dC, dI)) (ci := 12) (v := .int v_4) (C := RX12) (T := TX12) (N := 70) hx hb hts hiX12 hown hK hP 0 rfl rfl 34 (by decide) w__fieldLink_RX12_201_ShellHeapModel_place_I_ (fun _ h9 => h9) rfl dX12_take_127 ?_
                  refine lv_aload_n hx hb dX12_take_130 rfl (lv_at hl 1 rfl) ?_
                  refine va_get (D := (dC, dI)) (ci := 12) (v := .int v_19) (C := RX12) (T := TX12) (N := 70) hx hb hts hiX12 hown hK hP 0 rfl rfl 31 (by decide) w__fieldLink_RX12_207_ShellHeapModel_next_I_ (fun _ h9 => h9) rfl dX12_take_131 ?_
                  have hPc := hP
                  have hDc := hD
                  have hKc := hK
                  have hFc := va_free (ws := []) (wc := []) (z_D0 _) hS hA [] rfl
                  refine va_calli (va_runV (As := [.int v_4, .int v_19]) (rest := [.ref h0]) ⟨hx, hb, hml, hown, hts⟩ (s_X12_wordAt l dC dI H_24.size h0 v_4 v_19 a_te h0_1 h0_2 h0_3 h0_4 h0_5 h0_6 h0_7 h0_8 h0_9 h0_10 h0_11 h0_12 h0_13 h0_14 h0_15 h0_16 h0_17 h0_18 h0_19 h0_20 h0_21 h0_22 h0_23 h0_24 h0_25 h0_26 a_wd mf mfp mst v_19 mkd mwh v_4 h0_35 h0_36 h0_37 h0_38 h0_39 h0_40 h0_41 h0_42 h0_43 h0_44 h0_45 h0_46 h0_47 h0_48 h0_49 h0_50 h0_51 h0_52 h0_53 h0_54 h0_55 h0_56 h0_57 h0_58 h0_59 h0_60 h0_61 h0_62 h0_63 h0_64 h0_65 h0_66 h0_67 h0_68 h0_69 ca_te fa_te ca_wd fa_wd hF_5 hF_20 hI_a_te hWD (by first | omega | decide)) (cwV 2 hts gw_s_X12_take_f_s_X12_wordAt_227 rfl rfl rfl (by decide +kernel) ⟨Nat.le_of_ble_eq_true rfl, Nat.le_of_ble_eq_true rfl⟩) ⟨z_blind, va_recv hKc hPc (ci := 12) (q0 := 0) rfl rfl, z_pre hPc hKc hDc⟩ rfl rfl hl.1 rfl (lv_room (Nat.le_of_ble_eq_true rfl)) dX12_take_134 ⟨Nat.le_of_ble_eq_true rfl, Nat.le_of_ble_eq_true rfl⟩) hS (fun q _ h => hFc q h) hFc (fun r_33 u t H_32 locs ht hvm hw_34 hB hz1 hk1 hS => ?_)
                  replace hP := z_pure hP hk1
                  clear hPc hDc hKc
                  refine va_put (D := (dC, dI)) (ci := 12) (v := .int r_33) (ty := .int) (C := RX12) (T := TX12) (N := 70) hx hb hts hiX12 tyX12 tyX12_ok nmX12 hown hK hP hD hS 0 rfl rfl 33 (by decide) w__fieldLink_RX12_214_ShellHeapModel_which_I_ (fun _ h9 => h9) rfl (by decide +kernel) rfl rfl (Nat.le_of_ble_eq_true rfl) dX12_take_137 (fun H_35 locs hP hD hS => ?_)
                  obtain ⟨hP, hD⟩ := z_s_0_33 hP hD
                  refine lv_aload_n hx hb dX12_take_140 rfl (lv_at hl 1 rfl) ?_
                  refine lv_aload_n hx hb dX12_take_141 rfl (lv_at hl 1 rfl) ?_
                  refine va_get (D := (dC, dI)) (ci := 12) (v := .int r_33) (C := RX12) (T := TX12) (N := 70) hx hb hts hiX12 hown hK hP 0 rfl rfl 33 (by decide) w__fieldLink_RX12_214_ShellHeapModel_which_I_ (fun _ h9 => h9) rfl dX12_take_142 ?_
                  refine lv_if_lt (tgt := 152) hx hb dX12_take_145 (by decide) (fun c_36 => ?_) (fun c_36 => ?_)
                  · have k_37 : (r_33).toInt < (0 : Int) := z_lt c_36
                    obtain rfl : r_33 = (-1) := z_eq' (show (r_33).toInt = (-1 : Int) by omega)
                    refine lv_iload_n hx hb dX12_take_152 rfl (lv_at hl 0 rfl) ?_
                    refine lv_bipush (v := 8) hx hb dX12_take_153 (by decide) ?_
                    refine lv_icmp_le (tgt := 162) hx hb dX12_take_155 (by decide) (fun c_39 => ?_) (fun c_39 => ?_)
                    · have k_40 : (z_31).toInt ≤ (8 : Int) := z_le c_39
                      refine lv_iconst (v := 2) hx hb dX12_take_162 (by decide) ?_
                      refine va_put (D := (dC, dI)) (ci := 12) (v := .int 2) (ty := .int) (C := RX12) (T := TX12) (N := 70) hx hb hts hiX12 tyX12 tyX12_ok nmX12 hown hK hP hD hS 0 rfl rfl 32 (by decide) w__fieldLink_RX12_221_ShellHeapModel_kindNow_I_ (fun _ h9 => h9) rfl (by decide +kernel) rfl rfl (Nat.le_of_ble_eq_true rfl) dX12_take_163 (fun H_41 locs hP hD hS => ?_)
                      obtain ⟨hP, hD⟩ := z_s_0_32 hP hD
                      refine lv_iload_n hx hb dX12_take_166 rfl (lv_at hl 2 rfl) ?_
                      refine lv_if_eq (tgt := 237) hx hb dX12_take_167 (by decide) (fun c_42 => absurd c_42 (by decide)) (fun _ => ?_)
                      refine lv_aload_n hx hb dX12_take_170 rfl (lv_at hl 1 rfl) ?_
                      refine lv_aload_n hx hb dX12_take_171 rfl (lv_at hl 1 rfl) ?_
                      refine va_get (D := (dC, dI)) (ci := 12) (v := .int v_19) (C := RX12) (T := TX12) (N := 70) hx hb hts hiX12 hown hK hP 0 rfl rfl 31 (by decide) w__fieldLink_RX12_207_ShellHeapModel_next_I_ (fun _ h9 => h9) rfl dX12_take_172 ?_
                      obtain ⟨hPc, hDc⟩ := z_sub2 (ws' := [(h0, .inr (12, [.ref a_te, h0_1, h0_2, h0_3, h0_4, h0_5, h0_6, h0_7, h0_8, h0_9, h0_10, h0_11, h0_12, h0_13, h0_14, h0_15, h0_16, h0_17, h0_18, h0_19, h0_20, h0_21, h0_22, h0_23, h0_24, h0_25, h0_26, .ref a_wd, .int mf, .int mfp, .int mst, .int v_19, .int 2, .int (-1), .int v_4, h0_35, h0_36, h0_37, h0_38, h0_39, h0_40, h0_41, h0_42, h0_43, h0_44, h0_45, h0_46, h0_47, h0_48, h0_49, h0_50, h0_51, h0_52, h0_53, h0_54, h0_55, h0_56, h0_57, h0_58, h0_59, h0_60, h0_61, h0_62, h0_63, h0_64, h0_65, h0_66, h0_67, h0_68, h0_69])), (a_te, .inl (ca_te, 700, .inl fa_te))]) hP hD [0, 1] (by decide) rfl
                      have hKc := hK.sub (tys' := [(ca_te, .int)]) [0] rfl
                      have hFc := va_free (ws := []) (wc := []) (z_D0 _) hS hA [] rfl
                      refine va_calli (va_runV (As := [.int v_19]) (rest := []) ⟨hx, hb, hml, hown, hts⟩ (s_X12_isDigit l dC dI H_41.size h0 v_19 a_te h0_1 h0_2 h0_3 h0_4 h0_5 h0_6 h0_7 h0_8 h0_9 h0_10 h0_11 h0_12 h0_13 h0_14 h0_15 h0_16 h0_17 h0_18 h0_19 h0_20 h0_21 h0_22 h0_23 h0_24 h0_25 h0_26 a_wd mf mfp mst v_19 2 (-1) v_4 h0_35 h0_36 h0_37 h0_38 h0_39 h0_40 h0_41 h0_42 h0_43 h0_44 h0_45 h0_46 h0_47 h0_48 h0_49 h0_50 h0_51 h0_52 h0_53 h0_54 h0_55 h0_56 h0_57 h0_58 h0_59 h0_60 h0_61 h0_62 h0_63 h0_64 h0_65 h0_66 h0_67 h0_68 h0_69 ca_te fa_te hB_mst hF_20 (by decide) hF_5 hF_20 hI_a_te) (cwV 1 hts gw_s_X12_take_f_s_X12_isDigit_217 rfl rfl rfl (by decide +kernel) ⟨Nat.le_of_ble_eq_true rfl, Nat.le_of_ble_eq_true rfl⟩) ⟨z_blind, va_recv hKc hPc (ci := 12) (q0 := 0) rfl rfl, z_pre hPc hKc hDc⟩ rfl rfl hl.1 rfl (lv_room (Nat.le_of_ble_eq_true rfl)) dX12_take_175 ⟨Nat.le_of_ble_eq_true rfl, Nat.le_of_ble_eq_true rfl⟩) hS (fun q _ h => hFc q h) hFc (fun r_44 u t H_43 locs ht hvm hw_45 hB hz1 hk1 hS => ?_)
                      replace hP := z_pure hP hk1
                      clear hPc hDc hKc
                      rcases hw_45 with ⟨rfl, hw_45⟩ | ⟨rfl, hw_45⟩
                      · have hw_45 : (v_19.toInt < mst.toInt ∧ 48 ≤ (fa_te v_19.toNatClampNeg).toInt ∧ (fa_te v_19.toNatClampNeg).toInt ≤ 57) := hw_45
                        refine lv_if_eq (tgt := 237) hx hb dX12_take_178 (by decide) (fun c_46 => absurd c_46 (by decide)) (fun _ => ?_)
                        refine lv_aload_n hx hb dX12_take_181 rfl (lv_at hl 1 rfl) ?_
                        obtain ⟨hPc, hDc, hFc⟩ := z_sub3 (ws' := [(h0, .inr (12, [.ref a_te, h0_1, h0_2, h0_3, h0_4, h0_5, h0_6, h0_7, h0_8, h0_9, h0_10, h0_11, h0_12, h0_13, h0_14, h0_15, h0_16, h0_17, h0_18, h0_19, h0_20, h0_21, h0_22, h0_23, h0_24, h0_25, h0_26, .ref a_wd, .int mf, .int mfp, .int mst, .int v_19, .int 2, .int (-1), .int v_4, h0_35, h0_36, h0_37, h0_38, h0_39, h0_40, h0_41, h0_42, h0_43, h0_44, h0_45, h0_46, h0_47, h0_48, h0_49, h0_50, h0_51, h0_52, h0_53, h0_54, h0_55, h0_56, h0_57, h0_58, h0_59, h0_60, h0_61, h0_62, h0_63, h0_64, h0_65, h0_66, h0_67, h0_68, h0_69])), (a_te, .inl (ca_te, 700, .inl fa_te))]) hP hD hS hA [0, 1] (by decide) rfl
                        have hKc := hK.sub (tys' := [(ca_te, .int)]) [0] rfl
                        refine va_callv (va_runV (As := []) (rest := []) ⟨hx, hb, hml, hown, hts⟩ (s_X12_digits l dC dI H_43.size h0 a_te h0_1 h0_2 h0_3 h0_4 h0_5 h0_6 h0_7 h0_8 h0_9 h0_10 h0_11 h0_12 h0_13 h0_14 h0_15 h0_16 h0_17 h0_18 h0_19 h0_20 h0_21 h0_22 h0_23 h0_24 h0_25 h0_26 a_wd mf mfp mst v_19 2 (-1) v_4 h0_35 h0_36 h0_37 h0_38 h0_39 h0_40 h0_41 h0_42 h0_43 h0_44 h0_45 h0_46 h0_47 h0_48 h0_49 h0_50 h0_51 h0_52 h0_53 h0_54 h0_55 h0_56 h0_57 h0_58 h0_59 h0_60 h0_61 h0_62 h0_63 h0_64 h0_65 h0_66 h0_67 h0_68 h0_69 ca_te fa_te hB_mst hF_20 (by decide) hF_5 hI_a_te (by first | omega | decide)) (cwV 0 hts gw_s_X12_take_f_s_X12_digits_230 rfl rfl rfl (by decide +kernel) ⟨Nat.le_of_ble_eq_true rfl, Nat.le_of_ble_eq_true rfl⟩) ⟨z_blind, va_recv hKc hPc (ci := 12) (q0 := 0) rfl rfl, z_pre hPc hKc hDc⟩ rfl rfl hl.1 rfl (lv_room (Nat.le_of_ble_eq_true rfl)) dX12_take_182 ⟨Nat.le_of_ble_eq_true rfl, Nat.le_of_ble_eq_true rfl⟩) hS (fun q _ h => hFc q h) hFc (fun u t H_47 locs ht hvm hw_49 hB hz1 hk1 hS => ?_)
                        obtain ⟨n_h0_next_50, n_h0_which_51, hp_52, hp_53, hp_54, hP1, hK1, hD1⟩ := hB
                        rw [ht] at hP1
                        have hK1 := va_K.moved hvm.symm hK1
                        obtain ⟨hP, hD⟩ := z_ap_1 (va_join (wr := [(a_wd, .inl (ca_wd, 115, .inl fa_wd))]) hP hD [0, 1] [2] rfl rfl (by decide) (by decide) hk1 hFc hP1 hD1)
                        have hp_54 : v_19.toInt + 1 ≤ n_h0_next_50.toInt ∧ n_h0_next_50.toInt ≤ mst.toInt := hp_54
                        clear hPc hDc hKc
                        refine lv_aload_n hx hb dX12_take_185 rfl (lv_at hl 1 rfl) ?_
                        refine lv_iload_n hx hb dX12_take_186 rfl (lv_at hl 0 rfl) ?_
                        refine lv_iconst (v := 1) hx hb dX12_take_187 (by decide) ?_
                        refine lv_icmp_le (tgt := 195) hx hb dX12_take_188 (by decide) (fun c_55 => ?_) (fun c_55 => ?_)
                        · have k_56 : (z_31).toInt ≤ (1 : Int) := z_le c_55
                          refine lv_aload_n hx hb dX12_take_195 rfl (lv_at hl 1 rfl) ?_
                          refine va_get (D := (dC, dI)) (ci := 12) (v := .ref a_te) (C := RX12) (T := TX12) (N := 70) hx hb hts hiX12 hown hK hP 1 rfl rfl 0 (by decide) w__fieldLink_RX12_7_ShellHeapModel_tape_I_ (fun _ h9 => h9) rfl dX12_take_196 ?_
                          refine lv_aload_n hx hb dX12_take_199 rfl (lv_at hl 1 rfl) ?_
                          refine va_get (D := (dC, dI)) (ci := 12) (v := .int v_4) (C := RX12) (T := TX12) (N := 70) hx hb hts hiX12 hown hK hP 1 rfl rfl 34 (by decide) w__fieldLink_RX12_201_ShellHeapModel_place_I_ (fun _ h9 => h9) rfl dX12_take_200 ?_
                          refine va_iald hx hb hK hP 2 0 rfl rfl (z_vpin (by omega) (by omega)) dX12_take_203 ?_
                          refine lv_topi (fun z_57 ez_57 => ?_)
                          have kz_57 : ((0 : Int) ≤ (z_57).toInt ∧ (z_57).toInt ≤ (255 : Int)) := by rw [ez_57]; exact hI_a_te _
                          refine lv_bipush (v := 107) hx hb dX12_take_204 (by decide) ?_
                          refine lv_icmp_ne (tgt := 214) hx hb dX12_take_206 (by decide) (fun c_58 => ?_) (fun c_58 => ?_)
                          · have k_59 : (z_57).toInt ≠ (107 : Int) := z_ne c_58
                            refine lv_aload_n hx hb dX12_take_214 rfl (lv_at hl 1 rfl) ?_
                            refine va_get (D := (dC, dI)) (ci := 12) (v := .ref a_te) (C := RX12) (T := TX12) (N := 70) hx hb hts hiX12 hown hK hP 1 rfl rfl 0 (by decide) w__fieldLink_RX12_7_ShellHeapModel_tape_I_ (fun _ h9 => h9) rfl dX12_take_215 ?_
                            refine lv_aload_n hx hb dX12_take_218 rfl (lv_at hl 1 rfl) ?_
                            refine va_get (D := (dC, dI)) (ci := 12) (v := .int v_4) (C := RX12) (T := TX12) (N := 70) hx hb hts hiX12 hown hK hP 1 rfl rfl 34 (by decide) w__fieldLink_RX12_201_ShellHeapModel_place_I_ (fun _ h9 => h9) rfl dX12_take_219 ?_
                            refine va_iald hx hb hK hP 2 0 rfl rfl (z_vpin (by omega) (by omega)) dX12_take_222 ?_
                            refine lv_topi (fun z_60 ez_60 => ?_)
                            have kz_60 : ((0 : Int) ≤ (z_60).toInt ∧ (z_60).toInt ≤ (255 : Int)) := by rw [ez_60]; exact hI_a_te _
                            refine lv_bipush (v := 115) hx hb dX12_take_223 (by decide) ?_
                            refine lv_icmp_ne (tgt := 233) hx hb dX12_take_225 (by decide) (fun c_61 => ?_) (fun c_61 => ?_)
                            · have k_62 : (z_60).toInt ≠ (115 : Int) := z_ne c_61
                              refine lv_iconst (v := 5) hx hb dX12_take_233 (by decide) ?_
                              refine va_put (D := (dC, dI)) (ci := 12) (v := .int 5) (ty := .int) (C := RX12) (T := TX12) (N := 70) hx hb hts hiX12 tyX12 tyX12_ok nmX12 hown hK hP hD hS 1 rfl rfl 32 (by decide) w__fieldLink_RX12_221_ShellHeapModel_kindNow_I_ (fun _ h9 => h9) rfl (by decide +kernel) rfl rfl (Nat.le_of_ble_eq_true rfl) dX12_take_234 (fun H_63 locs hP hD hS => ?_)
                              obtain ⟨hP, hD⟩ := z_s_1_32 hP hD
                              refine lv_goto (tgt := 342) hx hb dX12_take_237 (by decide) ?_
                              refine z_backQ hQQ ?_
                              obtain ⟨hP9, hD9⟩ := z_sub2 (ws' := [(h0, .inr (12, [.ref a_te, h0_1, h0_2, h0_3, h0_4, h0_5, h0_6, h0_7, h0_8, h0_9, h0_10, h0_11, h0_12, h0_13, h0_14, h0_15, h0_16, h0_17, h0_18, h0_19, h0_20, h0_21, h0_22, h0_23, h0_24, h0_25, h0_26, .ref a_wd, .int mf, .int mfp, .int mst, .int n_h0_next_50, .int 5, .int n_h0_which_51, .int v_4, h0_35, h0_36, h0_37, h0_38, h0_39, h0_40, h0_41, h0_42, h0_43, h0_44, h0_45, h0_46, h0_47, h0_48, h0_49, h0_50, h0_51, h0_52, h0_53, h0_54, h0_55, h0_56, h0_57, h0_58, h0_59, h0_60, h0_61, h0_62, h0_63, h0_64, h0_65, h0_66, h0_67, h0_68, h0_69])), (a_te, .inl (ca_te, 700, .inl fa_te)), (a_wd, .inl (ca_wd, 115, .inl fa_wd))]) hP hD [1, 2, 0] (by decide) rfl
                              have hK9 := hK.sub (tys' := []) [] rfl
                              refine W.widen (k := 0) (n := 0) (Nat.le_of_ble_eq_true rfl) (Nat.le_of_ble_eq_true rfl) ?_
                              exact W.vret hx hb hr (fun t ht hW => ⟨⟨(), rfl, trivial, ⟨n_h0_next_50, 5, n_h0_which_51, v_4, hp_52, (by decide), hF_5, (show mnx.toInt ≤ n_h0_next_50.toInt ∧ n_h0_next_50.toInt ≤ mst.toInt by omega), (show (5 : Int) ≤ 8 * (n_h0_next_50.toInt - mnx.toInt) by omega), (show v_4.toInt ≤ n_h0_next_50.toInt by omega), (show z_tk8 (5 : Int) n_h0_next_50.toInt v_4.toInt from fun h9 => by omega), (show z_tkw n_h0_which_51.toInt (5 : Int) from fun h9 h8 h7 => by omega), by rw [ht]; exact hP9, va_K.moved hW.alike hK9, hD9⟩⟩, hS.F ht⟩) hS.2.2 dX12_take_342
                            · have k_64 : (z_60).toInt = (115 : Int) := z_eq c_61
                              obtain rfl : z_60 = 115 := z_eq' (show (z_60).toInt = (115 : Int) by omega)
                              refine lv_bipush (v := 7) hx hb dX12_take_228 (by decide) ?_
                              refine lv_goto (tgt := 234) hx hb dX12_take_230 (by decide) ?_
                              refine va_put (D := (dC, dI)) (ci := 12) (v := .int 7) (ty := .int) (C := RX12) (T := TX12) (N := 70) hx hb hts hiX12 tyX12 tyX12_ok nmX12 hown hK hP hD hS 1 rfl rfl 32 (by decide) w__fieldLink_RX12_221_ShellHeapModel_kindNow_I_ (fun _ h9 => h9) rfl (by decide +kernel) rfl rfl (Nat.le_of_ble_eq_true rfl) dX12_take_234 (fun H_66 locs hP hD hS => ?_)
                              obtain ⟨hP, hD⟩ := z_s_1_32 hP hD
                              refine lv_goto (tgt := 342) hx hb dX12_take_237 (by decide) ?_
                              refine z_backQ hQQ ?_
                              obtain ⟨hP9, hD9⟩ := z_sub2 (ws' := [(h0, .inr (12, [.ref a_te, h0_1, h0_2, h0_3, h0_4, h0_5, h0_6, h0_7, h0_8, h0_9, h0_10, h0_11, h0_12, h0_13, h0_14, h0_15, h0_16, h0_17, h0_18, h0_19, h0_20, h0_21, h0_22, h0_23, h0_24, h0_25, h0_26, .ref a_wd, .int mf, .int mfp, .int mst, .int n_h0_next_50, .int 7, .int n_h0_which_51, .int v_4, h0_35, h0_36, h0_37, h0_38, h0_39, h0_40, h0_41, h0_42, h0_43, h0_44, h0_45, h0_46, h0_47, h0_48, h0_49, h0_50, h0_51, h0_52, h0_53, h0_54, h0_55, h0_56, h0_57, h0_58, h0_59, h0_60, h0_61, h0_62, h0_63, h0_64, h0_65, h0_66, h0_67, h0_68, h0_69])), (a_te, .inl (ca_te, 700, .inl fa_te)), (a_wd, .inl (ca_wd, 115, .inl fa_wd))]) hP hD [1, 2, 0] (by decide) rfl
                              have hK9 := hK.sub (tys' := []) [] rfl
                              refine W.widen (k := 0) (n := 0) (Nat.le_of_ble_eq_true rfl) (Nat.le_of_ble_eq_true rfl) ?_
                              exact W.vret hx hb hr (fun t ht hW => ⟨⟨(), rfl, trivial, ⟨n_h0_next_50, 7, n_h0_which_51, v_4, hp_52, (by decide), hF_5, (show mnx.toInt ≤ n_h0_next_50.toInt ∧ n_h0_next_50.toInt ≤ mst.toInt by omega), (show (7 : Int) ≤ 8 * (n_h0_next_50.toInt - mnx.toInt) by omega), (show v_4.toInt ≤ n_h0_next_50.toInt by omega), (show z_tk8 (7 : Int) n_h0_next_50.toInt v_4.toInt from fun h9 => by omega), (show z_tkw n_h0_which_51.toInt (7 : Int) from fun h9 h8 h7 => by omega), by rw [ht]; exact hP9, va_K.moved hW.alike hK9, hD9⟩⟩, hS.F ht⟩) hS.2.2 dX12_take_342
                          · have k_67 : (z_57).toInt = (107 : Int) := z_eq c_58
                            obtain rfl : z_57 = 107 := z_eq' (show (z_57).toInt = (107 : Int) by omega)
                            refine lv_bipush (v := 6) hx hb dX12_take_209 (by decide) ?_
                            refine lv_goto (tgt := 234) hx hb dX12_take_211 (by decide) ?_
                            refine va_put (D := (dC, dI)) (ci := 12) (v := .int 6) (ty := .int) (C := RX12) (T := TX12) (N := 70) hx hb hts hiX12 tyX12 tyX12_ok nmX12 hown hK hP hD hS 1 rfl rfl 32 (by decide) w__fieldLink_RX12_221_ShellHeapModel_kindNow_I_ (fun _ h9 => h9) rfl (by decide +kernel) rfl rfl (Nat.le_of_ble_eq_true rfl) dX12_take_234 (fun H_69 locs hP hD hS => ?_)
                            obtain ⟨hP, hD⟩ := z_s_1_32 hP hD
                            refine lv_goto (tgt := 342) hx hb dX12_take_237 (by decide) ?_
                            refine z_backQ hQQ ?_
                            obtain ⟨hP9, hD9⟩ := z_sub2 (ws' := [(h0, .inr (12, [.ref a_te, h0_1, h0_2, h0_3, h0_4, h0_5, h0_6, h0_7, h0_8, h0_9, h0_10, h0_11, h0_12, h0_13, h0_14, h0_15, h0_16, h0_17, h0_18, h0_19, h0_20, h0_21, h0_22, h0_23, h0_24, h0_25, h0_26, .ref a_wd, .int mf, .int mfp, .int mst, .int n_h0_next_50, .int 6, .int n_h0_which_51, .int v_4, h0_35, h0_36, h0_37, h0_38, h0_39, h0_40, h0_41, h0_42, h0_43, h0_44, h0_45, h0_46, h0_47, h0_48, h0_49, h0_50, h0_51, h0_52, h0_53, h0_54, h0_55, h0_56, h0_57, h0_58, h0_59, h0_60, h0_61, h0_62, h0_63, h0_64, h0_65, h0_66, h0_67, h0_68, h0_69])), (a_te, .inl (ca_te, 700, .inl fa_te)), (a_wd, .inl (ca_wd, 115, .inl fa_wd))]) hP hD [1, 2, 0] (by decide) rfl
                            have hK9 := hK.sub (tys' := []) [] rfl
                            refine W.widen (k := 0) (n := 0) (Nat.le_of_ble_eq_true rfl) (Nat.le_of_ble_eq_true rfl) ?_
                            exact W.vret hx hb hr (fun t ht hW => ⟨⟨(), rfl, trivial, ⟨n_h0_next_50, 6, n_h0_which_51, v_4, hp_52, (by decide), hF_5, (show mnx.toInt ≤ n_h0_next_50.toInt ∧ n_h0_next_50.toInt ≤ mst.toInt by omega), (show (6 : Int) ≤ 8 * (n_h0_next_50.toInt - mnx.toInt) by omega), (show v_4.toInt ≤ n_h0_next_50.toInt by omega), (show z_tk8 (6 : Int) n_h0_next_50.toInt v_4.toInt from fun h9 => by omega), (show z_tkw n_h0_which_51.toInt (6 : Int) from fun h9 h8 h7 => by omega), by rw [ht]; exact hP9, va_K.moved hW.alike hK9, hD9⟩⟩, hS.F ht⟩) hS.2.2 dX12_take_342
                        · have k_70 : (z_31).toInt > (1 : Int) := z_nle c_55
                          refine lv_iconst (v := 5) hx hb dX12_take_191 (by decide) ?_
                          refine lv_goto (tgt := 234) hx hb dX12_take_192 (by decide) ?_
                          refine va_put (D := (dC, dI)) (ci := 12) (v := .int 5) (ty := .int) (C := RX12) (T := TX12) (N := 70) hx hb hts hiX12 tyX12 tyX12_ok nmX12 hown hK hP hD hS 1 rfl rfl 32 (by decide) w__fieldLink_RX12_221_ShellHeapModel_kindNow_I_ (fun _ h9 => h9) rfl (by decide +kernel) rfl rfl (Nat.le_of_ble_eq_true rfl) dX12_take_234 (fun H_71 locs hP hD hS => ?_)
                          obtain ⟨hP, hD⟩ := z_s_1_32 hP hD
                          refine lv_goto (tgt := 342) hx hb dX12_take_237 (by decide) ?_
                          refine z_backQ hQQ ?_
                          obtain ⟨hP9, hD9⟩ := z_sub2 (ws' := [(h0, .inr (12, [.ref a_te, h0_1, h0_2, h0_3, h0_4, h0_5, h0_6, h0_7, h0_8, h0_9, h0_10, h0_11, h0_12, h0_13, h0_14, h0_15, h0_16, h0_17, h0_18, h0_19, h0_20, h0_21, h0_22, h0_23, h0_24, h0_25, h0_26, .ref a_wd, .int mf, .int mfp, .int mst, .int n_h0_next_50, .int 5, .int n_h0_which_51, .int v_4, h0_35, h0_36, h0_37, h0_38, h0_39, h0_40, h0_41, h0_42, h0_43, h0_44, h0_45, h0_46, h0_47, h0_48, h0_49, h0_50, h0_51, h0_52, h0_53, h0_54, h0_55, h0_56, h0_57, h0_58, h0_59, h0_60, h0_61, h0_62, h0_63, h0_64, h0_65, h0_66, h0_67, h0_68, h0_69])), (a_te, .inl (ca_te, 700, .inl fa_te)), (a_wd, .inl (ca_wd, 115, .inl fa_wd))]) hP hD [1, 2, 0] (by decide) rfl
                          have hK9 := hK.sub (tys' := []) [] rfl
                          refine W.widen (k := 0) (n := 0) (Nat.le_of_ble_eq_true rfl) (Nat.le_of_ble_eq_true rfl) ?_
                          exact W.vret hx hb hr (fun t ht hW => ⟨⟨(), rfl, trivial, ⟨n_h0_next_50, 5, n_h0_which_51, v_4, hp_52, (by decide), hF_5, (show mnx.toInt ≤ n_h0_next_50.toInt ∧ n_h0_next_50.toInt ≤ mst.toInt by omega), (show (5 : Int) ≤ 8 * (n_h0_next_50.toInt - mnx.toInt) by omega), (show v_4.toInt ≤ n_h0_next_50.toInt by omega), (show z_tk8 (5 : Int) n_h0_next_50.toInt v_4.toInt from fun h9 => by omega), (show z_tkw n_h0_which_51.toInt (5 : Int) from fun h9 h8 h7 => by omega), by rw [ht]; exact hP9, va_K.moved hW.alike hK9, hD9⟩⟩, hS.F ht⟩) hS.2.2 dX12_take_342
                      · have hw_45 : ¬ (v_19.toInt < mst.toInt ∧ 48 ≤ (fa_te v_19.toNatClampNeg).toInt ∧ (fa_te v_19.toNatClampNeg).toInt ≤ 57) := hw_45
                        refine lv_if_eq (tgt := 237) hx hb dX12_take_178 (by decide) (fun _ => ?_) (fun c_72 => absurd (by decide) c_72)
                        refine lv_goto (tgt := 342) hx hb dX12_take_237 (by decide) ?_
                        refine z_backQ hQQ ?_
                        have hP9 := hP
                        have hD9 := hD
                        have hK9 := hK.sub (tys' := []) [] rfl
                        refine W.widen (k := 0) (n := 0) (Nat.le_of_ble_eq_true rfl) (Nat.le_of_ble_eq_true rfl) ?_
                        exact W.vret hx hb hr (fun t ht hW => ⟨⟨(), rfl, trivial, ⟨v_19, 2, (-1), v_4, hF_20, (by decide), hF_5, (show mnx.toInt ≤ v_19.toInt ∧ v_19.toInt ≤ mst.toInt by omega), (show (2 : Int) ≤ 8 * (v_19.toInt - mnx.toInt) by omega), (show v_4.toInt ≤ v_19.toInt by omega), (show z_tk8 (2 : Int) v_19.toInt v_4.toInt from fun h9 => by omega), (show z_tkw (-1 : Int) (2 : Int) from fun h9 h8 h7 => by omega), by rw [ht]; exact hP9, va_K.moved hW.alike hK9, hD9⟩⟩, hS.F ht⟩) hS.2.2 dX12_take_342
                    · have k_73 : (z_31).toInt > (8 : Int) := z_nle c_39
                      refine lv_iconst (v := 5) hx hb dX12_take_158 (by decide) ?_
                      refine lv_goto (tgt := 163) hx hb dX12_take_159 (by decide) ?_
                      refine va_put (D := (dC, dI)) (ci := 12) (v := .int 5) (ty := .int) (C := RX12) (T := TX12) (N := 70) hx hb hts hiX12 tyX12 tyX12_ok nmX12 hown hK hP hD hS 0 rfl rfl 32 (by decide) w__fieldLink_RX12_221_ShellHeapModel_kindNow_I_ (fun _ h9 => h9) rfl (by decide +kernel) rfl rfl (Nat.le_of_ble_eq_true rfl) dX12_take_163 (fun H_74 locs hP hD hS => ?_)
                      obtain ⟨hP, hD⟩ := z_s_0_32 hP hD
                      refine lv_iload_n hx hb dX12_take_166 rfl (lv_at hl 2 rfl) ?_
                      refine lv_if_eq (tgt := 237) hx hb dX12_take_167 (by decide) (fun c_75 => absurd c_75 (by decide)) (fun _ => ?_)
                      refine lv_aload_n hx hb dX12_take_170 rfl (lv_at hl 1 rfl) ?_
                      refine lv_aload_n hx hb dX12_take_171 rfl (lv_at hl 1 rfl) ?_
                      refine va_get (D := (dC, dI)) (ci := 12) (v := .int v_19) (C := RX12) (T := TX12) (N := 70) hx hb hts hiX12 hown hK hP 0 rfl rfl 31 (by decide) w__fieldLink_RX12_207_ShellHeapModel_next_I_ (fun _ h9 => h9) rfl dX12_take_172 ?_
                      obtain ⟨hPc, hDc⟩ := z_sub2 (ws' := [(h0, .inr (12, [.ref a_te, h0_1, h0_2, h0_3, h0_4, h0_5, h0_6, h0_7, h0_8, h0_9, h0_10, h0_11, h0_12, h0_13, h0_14, h0_15, h0_16, h0_17, h0_18, h0_19, h0_20, h0_21, h0_22, h0_23, h0_24, h0_25, h0_26, .ref a_wd, .int mf, .int mfp, .int mst, .int v_19, .int 5, .int (-1), .int v_4, h0_35, h0_36, h0_37, h0_38, h0_39, h0_40, h0_41, h0_42, h0_43, h0_44, h0_45, h0_46, h0_47, h0_48, h0_49, h0_50, h0_51, h0_52, h0_53, h0_54, h0_55, h0_56, h0_57, h0_58, h0_59, h0_60, h0_61, h0_62, h0_63, h0_64, h0_65, h0_66, h0_67, h0_68, h0_69])), (a_te, .inl (ca_te, 700, .inl fa_te))]) hP hD [0, 1] (by decide) rfl
                      have hKc := hK.sub (tys' := [(ca_te, .int)]) [0] rfl
                      have hFc := va_free (ws := []) (wc := []) (z_D0 _) hS hA [] rfl
                      refine va_calli (va_runV (As := [.int v_19]) (rest := []) ⟨hx, hb, hml, hown, hts⟩ (s_X12_isDigit l dC dI H_74.size h0 v_19 a_te h0_1 h0_2 h0_3 h0_4 h0_5 h0_6 h0_7 h0_8 h0_9 h0_10 h0_11 h0_12 h0_13 h0_14 h0_15 h0_16 h0_17 h0_18 h0_19 h0_20 h0_21 h0_22 h0_23 h0_24 h0_25 h0_26 a_wd mf mfp mst v_19 5 (-1) v_4 h0_35 h0_36 h0_37 h0_38 h0_39 h0_40 h0_41 h0_42 h0_43 h0_44 h0_45 h0_46 h0_47 h0_48 h0_49 h0_50 h0_51 h0_52 h0_53 h0_54 h0_55 h0_56 h0_57 h0_58 h0_59 h0_60 h0_61 h0_62 h0_63 h0_64 h0_65 h0_66 h0_67 h0_68 h0_69 ca_te fa_te hB_mst hF_20 (by decide) hF_5 hF_20 hI_a_te) (cwV 1 hts gw_s_X12_take_f_s_X12_isDigit_217 rfl rfl rfl (by decide +kernel) ⟨Nat.le_of_ble_eq_true rfl, Nat.le_of_ble_eq_true rfl⟩) ⟨z_blind, va_recv hKc hPc (ci := 12) (q0 := 0) rfl rfl, z_pre hPc hKc hDc⟩ rfl rfl hl.1 rfl (lv_room (Nat.le_of_ble_eq_true rfl)) dX12_take_175 ⟨Nat.le_of_ble_eq_true rfl, Nat.le_of_ble_eq_true rfl⟩) hS (fun q _ h => hFc q h) hFc (fun r_77 u t H_76 locs ht hvm hw_78 hB hz1 hk1 hS => ?_)
                      replace hP := z_pure hP hk1
                      clear hPc hDc hKc
                      rcases hw_78 with ⟨rfl, hw_78⟩ | ⟨rfl, hw_78⟩
                      · have hw_78 : (v_19.toInt < mst.toInt ∧ 48 ≤ (fa_te v_19.toNatClampNeg).toInt ∧ (fa_te v_19.toNatClampNeg).toInt ≤ 57) := hw_78
                        refine lv_if_eq (tgt := 237) hx hb dX12_take_178 (by decide) (fun c_79 => absurd c_79 (by decide)) (fun _ => ?_)
                        refine lv_aload_n hx hb dX12_take_181 rfl (lv_at hl 1 rfl) ?_
                        obtain ⟨hPc, hDc, hFc⟩ := z_sub3 (ws' := [(h0, .inr (12, [.ref a_te, h0_1, h0_2, h0_3, h0_4, h0_5, h0_6, h0_7, h0_8, h0_9, h0_10, h0_11, h0_12, h0_13, h0_14, h0_15, h0_16, h0_17, h0_18, h0_19, h0_20, h0_21, h0_22, h0_23, h0_24, h0_25, h0_26, .ref a_wd, .int mf, .int mfp, .int mst, .int v_19, .int 5, .int (-1), .int v_4, h0_35, h0_36, h0_37, h0_38, h0_39, h0_40, h0_41, h0_42, h0_43, h0_44, h0_45, h0_46, h0_47, h0_48, h0_49, h0_50, h0_51, h0_52, h0_53, h0_54, h0_55, h0_56, h0_57, h0_58, h0_59, h0_60, h0_61, h0_62, h0_63, h0_64, h0_65, h0_66, h0_67, h0_68, h0_69])), (a_te, .inl (ca_te, 700, .inl fa_te))]) hP hD hS hA [0, 1] (by decide) rfl
                        have hKc := hK.sub (tys' := [(ca_te, .int)]) [0] rfl
                        refine va_callv (va_runV (As := []) (rest := []) ⟨hx, hb, hml, hown, hts⟩ (s_X12_digits l dC dI H_76.size h0 a_te h0_1 h0_2 h0_3 h0_4 h0_5 h0_6 h0_7 h0_8 h0_9 h0_10 h0_11 h0_12 h0_13 h0_14 h0_15 h0_16 h0_17 h0_18 h0_19 h0_20 h0_21 h0_22 h0_23 h0_24 h0_25 h0_26 a_wd mf mfp mst v_19 5 (-1) v_4 h0_35 h0_36 h0_37 h0_38 h0_39 h0_40 h0_41 h0_42 h0_43 h0_44 h0_45 h0_46 h0_47 h0_48 h0_49 h0_50 h0_51 h0_52 h0_53 h0_54 h0_55 h0_56 h0_57 h0_58 h0_59 h0_60 h0_61 h0_62 h0_63 h0_64 h0_65 h0_66 h0_67 h0_68 h0_69 ca_te fa_te hB_mst hF_20 (by decide) hF_5 hI_a_te (by first | omega | decide)) (cwV 0 hts gw_s_X12_take_f_s_X12_digits_230 rfl rfl rfl (by decide +kernel) ⟨Nat.le_of_ble_eq_true rfl, Nat.le_of_ble_eq_true rfl⟩) ⟨z_blind, va_recv hKc hPc (ci := 12) (q0 := 0) rfl rfl, z_pre hPc hKc hDc⟩ rfl rfl hl.1 rfl (lv_room (Nat.le_of_ble_eq_true rfl)) dX12_take_182 ⟨Nat.le_of_ble_eq_true rfl, Nat.le_of_ble_eq_true rfl⟩) hS (fun q _ h => hFc q h) hFc (fun u t H_80 locs ht hvm hw_82 hB hz1 hk1 hS => ?_)
                        obtain ⟨n_h0_next_83, n_h0_which_84, hp_85, hp_86, hp_87, hP1, hK1, hD1⟩ := hB
                        rw [ht] at hP1
                        have hK1 := va_K.moved hvm.symm hK1
                        obtain ⟨hP, hD⟩ := z_ap_1 (va_join (wr := [(a_wd, .inl (ca_wd, 115, .inl fa_wd))]) hP hD [0, 1] [2] rfl rfl (by decide) (by decide) hk1 hFc hP1 hD1)
                        have hp_87 : v_19.toInt + 1 ≤ n_h0_next_83.toInt ∧ n_h0_next_83.toInt ≤ mst.toInt := hp_87
                        clear hPc hDc hKc
                        refine lv_aload_n hx hb dX12_take_185 rfl (lv_at hl 1 rfl) ?_
                        refine lv_iload_n hx hb dX12_take_186 rfl (lv_at hl 0 rfl) ?_
                        refine lv_iconst (v := 1) hx hb dX12_take_187 (by decide) ?_
                        refine lv_icmp_le (tgt := 195) hx hb dX12_take_188 (by decide) (fun c_88 => ?_) (fun c_88 => ?_)
                        · exfalso
                          have k_89 : (z_31).toInt ≤ (1 : Int) := z_le c_88
                          omega
                        refine lv_iconst (v := 5) hx hb dX12_take_191 (by decide) ?_
                        refine lv_goto (tgt := 234) hx hb dX12_take_192 (by decide) ?_
                        refine va_put (D := (dC, dI)) (ci := 12) (v := .int 5) (ty := .int) (C := RX12) (T := TX12) (N := 70) hx hb hts hiX12 tyX12 tyX12_ok nmX12 hown hK hP hD hS 1 rfl rfl 32 (by decide) w__fieldLink_RX12_221_ShellHeapModel_kindNow_I_ (fun _ h9 => h9) rfl (by decide +kernel) rfl rfl (Nat.le_of_ble_eq_true rfl) dX12_take_234 (fun H_90 locs hP hD hS => ?_)
                        obtain ⟨hP, hD⟩ := z_s_1_32 hP hD
                        refine lv_goto (tgt := 342) hx hb dX12_take_237 (by decide) ?_
                        refine z_backQ hQQ ?_
                        obtain ⟨hP9, hD9⟩ := z_sub2 (ws' := [(h0, .inr (12, [.ref a_te, h0_1, h0_2, h0_3, h0_4, h0_5, h0_6, h0_7, h0_8, h0_9, h0_10, h0_11, h0_12, h0_13, h0_14, h0_15, h0_16, h0_17, h0_18, h0_19, h0_20, h0_21, h0_22, h0_23, h0_24, h0_25, h0_26, .ref a_wd, .int mf, .int mfp, .int mst, .int n_h0_next_83, .int 5, .int n_h0_which_84, .int v_4, h0_35, h0_36, h0_37, h0_38, h0_39, h0_40, h0_41, h0_42, h0_43, h0_44, h0_45, h0_46, h0_47, h0_48, h0_49, h0_50, h0_51, h0_52, h0_53, h0_54, h0_55, h0_56, h0_57, h0_58, h0_59, h0_60, h0_61, h0_62, h0_63, h0_64, h0_65, h0_66, h0_67, h0_68, h0_69])), (a_te, .inl (ca_te, 700, .inl fa_te)), (a_wd, .inl (ca_wd, 115, .inl fa_wd))]) hP hD [1, 2, 0] (by decide) rfl
                        have hK9 := hK.sub (tys' := []) [] rfl
                        refine W.widen (k := 0) (n := 0) (Nat.le_of_ble_eq_true rfl) (Nat.le_of_ble_eq_true rfl) ?_
                        exact W.vret hx hb hr (fun t ht hW => ⟨⟨(), rfl, trivial, ⟨n_h0_next_83, 5, n_h0_which_84, v_4, hp_85, (by decide), hF_5, (show mnx.toInt ≤ n_h0_next_83.toInt ∧ n_h0_next_83.toInt ≤ mst.toInt by omega), (show (5 : Int) ≤ 8 * (n_h0_next_83.toInt - mnx.toInt) by omega), (show v_4.toInt ≤ n_h0_next_83.toInt by omega), (show z_tk8 (5 : Int) n_h0_next_83.toInt v_4.toInt from fun h9 => by omega), (show z_tkw n_h0_which_84.toInt (5 : Int) from fun h9 h8 h7 => by omega), by rw [ht]; exact hP9, va_K.moved hW.alike hK9, hD9⟩⟩, hS.F ht⟩) hS.2.2 dX12_take_342
                      · have hw_78 : ¬ (v_19.toInt < mst.toInt ∧ 48 ≤ (fa_te v_19.toNatClampNeg).toInt ∧ (fa_te v_19.toNatClampNeg).toInt ≤ 57) := hw_78
                        refine lv_if_eq (tgt := 237) hx hb dX12_take_178 (by decide) (fun _ => ?_) (fun c_91 => absurd (by decide) c_91)
                        refine lv_goto (tgt := 342) hx hb dX12_take_237 (by decide) ?_
                        refine z_backQ hQQ ?_
                        have hP9 := hP
                        have hD9 := hD
                        have hK9 := hK.sub (tys' := []) [] rfl
                        refine W.widen (k := 0) (n := 0) (Nat.le_of_ble_eq_true rfl) (Nat.le_of_ble_eq_true rfl) ?_
                        exact W.vret hx hb hr (fun t ht hW => ⟨⟨(), rfl, trivial, ⟨v_19, 5, (-1), v_4, hF_20, (by decide), hF_5, (show mnx.toInt ≤ v_19.toInt ∧ v_19.toInt ≤ mst.toInt by omega), (show (5 : Int) ≤ 8 * (v_19.toInt - mnx.toInt) by omega), (show v_4.toInt ≤ v_19.toInt by omega), (show z_tk8 (5 : Int) v_19.toInt v_4.toInt from fun h9 => by omega), (show z_tkw (-1 : Int) (5 : Int) from fun h9 h8 h7 => by omega), by rw [ht]; exact hP9, va_K.moved hW.alike hK9, hD9⟩⟩, hS.F ht⟩) hS.2.2 dX12_take_342
                  · have k_92 : (r_33).toInt ≥ (0 : Int) := z_nlt c_36
                    refine lv_iconst (v := 1) hx hb dX12_take_148 (by decide) ?_
                    refine lv_goto (tgt := 163) hx hb dX12_take_149 (by decide) ?_
                    refine va_put (D := (dC, dI)) (ci := 12) (v := .int 1) (ty := .int) (C := RX12) (T := TX12) (N := 70) hx hb hts hiX12 tyX12 tyX12_ok nmX12 hown hK hP hD hS 0 rfl rfl 32 (by decide) w__fieldLink_RX12_221_ShellHeapModel_kindNow_I_ (fun _ h9 => h9) rfl (by decide +kernel) rfl rfl (Nat.le_of_ble_eq_true rfl) dX12_take_163 (fun H_93 locs hP hD hS => ?_)
                    obtain ⟨hP, hD⟩ := z_s_0_32 hP hD
                    refine lv_iload_n hx hb dX12_take_166 rfl (lv_at hl 2 rfl) ?_
                    refine lv_if_eq (tgt := 237) hx hb dX12_take_167 (by decide) (fun c_94 => absurd c_94 (by decide)) (fun _ => ?_)
                    refine lv_aload_n hx hb dX12_take_170 rfl (lv_at hl 1 rfl) ?_
                    refine lv_aload_n hx hb dX12_take_171 rfl (lv_at hl 1 rfl) ?_
                    refine va_get (D := (dC, dI)) (ci := 12) (v := .int v_19) (C := RX12) (T := TX12) (N := 70) hx hb hts hiX12 hown hK hP 0 rfl rfl 31 (by decide) w__fieldLink_RX12_207_ShellHeapModel_next_I_ (fun _ h9 => h9) rfl dX12_take_172 ?_
                    obtain ⟨hPc, hDc⟩ := z_sub2 (ws' := [(h0, .inr (12, [.ref a_te, h0_1, h0_2, h0_3, h0_4, h0_5, h0_6, h0_7, h0_8, h0_9, h0_10, h0_11, h0_12, h0_13, h0_14, h0_15, h0_16, h0_17, h0_18, h0_19, h0_20, h0_21, h0_22, h0_23, h0_24, h0_25, h0_26, .ref a_wd, .int mf, .int mfp, .int mst, .int v_19, .int 1, .int r_33, .int v_4, h0_35, h0_36, h0_37, h0_38, h0_39, h0_40, h0_41, h0_42, h0_43, h0_44, h0_45, h0_46, h0_47, h0_48, h0_49, h0_50, h0_51, h0_52, h0_53, h0_54, h0_55, h0_56, h0_57, h0_58, h0_59, h0_60, h0_61, h0_62, h0_63, h0_64, h0_65, h0_66, h0_67, h0_68, h0_69])), (a_te, .inl (ca_te, 700, .inl fa_te))]) hP hD [0, 1] (by decide) rfl
                    have hKc := hK.sub (tys' := [(ca_te, .int)]) [0] rfl
                    have hFc := va_free (ws := []) (wc := []) (z_D0 _) hS hA [] rfl
                    refine va_calli (va_runV (As := [.int v_19]) (rest := []) ⟨hx, hb, hml, hown, hts⟩ (s_X12_isDigit l dC dI H_93.size h0 v_19 a_te h0_1 h0_2 h0_3 h0_4 h0_5 h0_6 h0_7 h0_8 h0_9 h0_10 h0_11 h0_12 h0_13 h0_14 h0_15 h0_16 h0_17 h0_18 h0_19 h0_20 h0_21 h0_22 h0_23 h0_24 h0_25 h0_26 a_wd mf mfp mst v_19 1 r_33 v_4 h0_35 h0_36 h0_37 h0_38 h0_39 h0_40 h0_41 h0_42 h0_43 h0_44 h0_45 h0_46 h0_47 h0_48 h0_49 h0_50 h0_51 h0_52 h0_53 h0_54 h0_55 h0_56 h0_57 h0_58 h0_59 h0_60 h0_61 h0_62 h0_63 h0_64 h0_65 h0_66 h0_67 h0_68 h0_69 ca_te fa_te hB_mst hF_20 (by decide) hF_5 hF_20 hI_a_te) (cwV 1 hts gw_s_X12_take_f_s_X12_isDigit_217 rfl rfl rfl (by decide +kernel) ⟨Nat.le_of_ble_eq_true rfl, Nat.le_of_ble_eq_true rfl⟩) ⟨z_blind, va_recv hKc hPc (ci := 12) (q0 := 0) rfl rfl, z_pre hPc hKc hDc⟩ rfl rfl hl.1 rfl (lv_room (Nat.le_of_ble_eq_true rfl)) dX12_take_175 ⟨Nat.le_of_ble_eq_true rfl, Nat.le_of_ble_eq_true rfl⟩) hS (fun q _ h => hFc q h) hFc (fun r_96 u t H_95 locs ht hvm hw_97 hB hz1 hk1 hS => ?_)
                    replace hP := z_pure hP hk1
                    clear hPc hDc hKc
                    rcases hw_97 with ⟨rfl, hw_97⟩ | ⟨rfl, hw_97⟩
                    · have hw_97 : (v_19.toInt < mst.toInt ∧ 48 ≤ (fa_te v_19.toNatClampNeg).toInt ∧ (fa_te v_19.toNatClampNeg).toInt ≤ 57) := hw_97
                      refine lv_if_eq (tgt := 237) hx hb dX12_take_178 (by decide) (fun c_98 => absurd c_98 (by decide)) (fun _ => ?_)
                      refine lv_aload_n hx hb dX12_take_181 rfl (lv_at hl 1 rfl) ?_
                      obtain ⟨hPc, hDc, hFc⟩ := z_sub3 (ws' := [(h0, .inr (12, [.ref a_te, h0_1, h0_2, h0_3, h0_4, h0_5, h0_6, h0_7, h0_8, h0_9, h0_10, h0_11, h0_12, h0_13, h0_14, h0_15, h0_16, h0_17, h0_18, h0_19, h0_20, h0_21, h0_22, h0_23, h0_24, h0_25, h0_26, .ref a_wd, .int mf, .int mfp, .int mst, .int v_19, .int 1, .int r_33, .int v_4, h0_35, h0_36, h0_37, h0_38, h0_39, h0_40, h0_41, h0_42, h0_43, h0_44, h0_45, h0_46, h0_47, h0_48, h0_49, h0_50, h0_51, h0_52, h0_53, h0_54, h0_55, h0_56, h0_57, h0_58, h0_59, h0_60, h0_61, h0_62, h0_63, h0_64, h0_65, h0_66, h0_67, h0_68, h0_69])), (a_te, .inl (ca_te, 700, .inl fa_te))]) hP hD hS hA [0, 1] (by decide) rfl
                      have hKc := hK.sub (tys' := [(ca_te, .int)]) [0] rfl
                      refine va_callv (va_runV (As := []) (rest := []) ⟨hx, hb, hml, hown, hts⟩ (s_X12_digits l dC dI H_95.size h0 a_te h0_1 h0_2 h0_3 h0_4 h0_5 h0_6 h0_7 h0_8 h0_9 h0_10 h0_11 h0_12 h0_13 h0_14 h0_15 h0_16 h0_17 h0_18 h0_19 h0_20 h0_21 h0_22 h0_23 h0_24 h0_25 h0_26 a_wd mf mfp mst v_19 1 r_33 v_4 h0_35 h0_36 h0_37 h0_38 h0_39 h0_40 h0_41 h0_42 h0_43 h0_44 h0_45 h0_46 h0_47 h0_48 h0_49 h0_50 h0_51 h0_52 h0_53 h0_54 h0_55 h0_56 h0_57 h0_58 h0_59 h0_60 h0_61 h0_62 h0_63 h0_64 h0_65 h0_66 h0_67 h0_68 h0_69 ca_te fa_te hB_mst hF_20 (by decide) hF_5 hI_a_te (by first | omega | decide)) (cwV 0 hts gw_s_X12_take_f_s_X12_digits_230 rfl rfl rfl (by decide +kernel) ⟨Nat.le_of_ble_eq_true rfl, Nat.le_of_ble_eq_true rfl⟩) ⟨z_blind, va_recv hKc hPc (ci := 12) (q0 := 0) rfl rfl, z_pre hPc hKc hDc⟩ rfl rfl hl.1 rfl (lv_room (Nat.le_of_ble_eq_true rfl)) dX12_take_182 ⟨Nat.le_of_ble_eq_true rfl, Nat.le_of_ble_eq_true rfl⟩) hS (fun q _ h => hFc q h) hFc (fun u t H_99 locs ht hvm hw_101 hB hz1 hk1 hS => ?_)
                      obtain ⟨n_h0_next_102, n_h0_which_103, hp_104, hp_105, hp_106, hP1, hK1, hD1⟩ := hB
                      rw [ht] at hP1
                      have hK1 := va_K.moved hvm.symm hK1
                      obtain ⟨hP, hD⟩ := z_ap_1 (va_join (wr := [(a_wd, .inl (ca_wd, 115, .inl fa_wd))]) hP hD [0, 1] [2] rfl rfl (by decide) (by decide) hk1 hFc hP1 hD1)
                      have hp_106 : v_19.toInt + 1 ≤ n_h0_next_102.toInt ∧ n_h0_next_102.toInt ≤ mst.toInt := hp_106
                      clear hPc hDc hKc
                      refine lv_aload_n hx hb dX12_take_185 rfl (lv_at hl 1 rfl) ?_
                      refine lv_iload_n hx hb dX12_take_186 rfl (lv_at hl 0 rfl) ?_
                      refine lv_iconst (v := 1) hx hb dX12_take_187 (by decide) ?_
                      refine lv_icmp_le (tgt := 195) hx hb dX12_take_188 (by decide) (fun c_107 => ?_) (fun c_107 => ?_)
                      · have k_108 : (z_31).toInt ≤ (1 : Int) := z_le c_107
                        refine lv_aload_n hx hb dX12_take_195 rfl (lv_at hl 1 rfl) ?_
                        refine va_get (D := (dC, dI)) (ci := 12) (v := .ref a_te) (C := RX12) (T := TX12) (N := 70) hx hb hts hiX12 hown hK hP 1 rfl rfl 0 (by decide) w__fieldLink_RX12_7_ShellHeapModel_tape_I_ (fun _ h9 => h9) rfl dX12_take_196 ?_
                        refine lv_aload_n hx hb dX12_take_199 rfl (lv_at hl 1 rfl) ?_
                        refine va_get (D := (dC, dI)) (ci := 12) (v := .int v_4) (C := RX12) (T := TX12) (N := 70) hx hb hts hiX12 hown hK hP 1 rfl rfl 34 (by decide) w__fieldLink_RX12_201_ShellHeapModel_place_I_ (fun _ h9 => h9) rfl dX12_take_200 ?_
                        refine va_iald hx hb hK hP 2 0 rfl rfl (z_vpin (by omega) (by omega)) dX12_take_203 ?_
                        refine lv_topi (fun z_109 ez_109 => ?_)
                        have kz_109 : ((0 : Int) ≤ (z_109).toInt ∧ (z_109).toInt ≤ (255 : Int)) := by rw [ez_109]; exact hI_a_te _
                        refine lv_bipush (v := 107) hx hb dX12_take_204 (by decide) ?_
                        refine lv_icmp_ne (tgt := 214) hx hb dX12_take_206 (by decide) (fun c_110 => ?_) (fun c_110 => ?_)
                        · have k_111 : (z_109).toInt ≠ (107 : Int) := z_ne c_110
                          refine lv_aload_n hx hb dX12_take_214 rfl (lv_at hl 1 rfl) ?_
                          refine va_get (D := (dC, dI)) (ci := 12) (v := .ref a_te) (C := RX12) (T := TX12) (N := 70) hx hb hts hiX12 hown hK hP 1 rfl rfl 0 (by decide) w__fieldLink_RX12_7_ShellHeapModel_tape_I_ (fun _ h9 => h9) rfl dX12_take_215 ?_
                          refine lv_aload_n hx hb dX12_take_218 rfl (lv_at hl 1 rfl) ?_
                          refine va_get (D := (dC, dI)) (ci := 12) (v := .int v_4) (C := RX12) (T := TX12) (N := 70) hx hb hts hiX12 hown hK hP 1 rfl rfl 34 (by decide) w__fieldLink_RX12_201_ShellHeapModel_place_I_ (fun _ h9 => h9) rfl dX12_take_219 ?_
                          refine va_iald hx hb hK hP 2 0 rfl rfl (z_vpin (by omega) (by omega)) dX12_take_222 ?_
                          refine lv_topi (fun z_112 ez_112 => ?_)
                          have kz_112 : ((0 : Int) ≤ (z_112).toInt ∧ (z_112).toInt ≤ (255 : Int)) := by rw [ez_112]; exact hI_a_te _
                          refine lv_bipush (v := 115) hx hb dX12_take_223 (by decide) ?_
                          refine lv_icmp_ne (tgt := 233) hx hb dX12_take_225 (by decide) (fun c_113 => ?_) (fun c_113 => ?_)
                          · have k_114 : (z_112).toInt ≠ (115 : Int) := z_ne c_113
                            refine lv_iconst (v := 5) hx hb dX12_take_233 (by decide) ?_
                            refine va_put (D := (dC, dI)) (ci := 12) (v := .int 5) (ty := .int) (C := RX12) (T := TX12) (N := 70) hx hb hts hiX12 tyX12 tyX12_ok nmX12 hown hK hP hD hS 1 rfl rfl 32 (by decide) w__fieldLink_RX12_221_ShellHeapModel_kindNow_I_ (fun _ h9 => h9) rfl (by decide +kernel) rfl rfl (Nat.le_of_ble_eq_true rfl) dX12_take_234 (fun H_115 locs hP hD hS => ?_)
                            obtain ⟨hP, hD⟩ := z_s_1_32 hP hD
                            refine lv_goto (tgt := 342) hx hb dX12_take_237 (by decide) ?_
                            refine z_backQ hQQ ?_
                            obtain ⟨hP9, hD9⟩ := z_sub2 (ws' := [(h0, .inr (12, [.ref a_te, h0_1, h0_2, h0_3, h0_4, h0_5, h0_6, h0_7, h0_8, h0_9, h0_10, h0_11, h0_12, h0_13, h0_14, h0_15, h0_16, h0_17, h0_18, h0_19, h0_20, h0_21, h0_22, h0_23, h0_24, h0_25, h0_26, .ref a_wd, .int mf, .int mfp, .int mst, .int n_h0_next_102, .int 5, .int n_h0_which_103, .int v_4, h0_35, h0_36, h0_37, h0_38, h0_39, h0_40, h0_41, h0_42, h0_43, h0_44, h0_45, h0_46, h0_47, h0_48, h0_49, h0_50, h0_51, h0_52, h0_53, h0_54, h0_55, h0_56, h0_57, h0_58, h0_59, h0_60, h0_61, h0_62, h0_63, h0_64, h0_65, h0_66, h0_67, h0_68, h0_69])), (a_te, .inl (ca_te, 700, .inl fa_te)), (a_wd, .inl (ca_wd, 115, .inl fa_wd))]) hP hD [1, 2, 0] (by decide) rfl
                            have hK9 := hK.sub (tys' := []) [] rfl
                            refine W.widen (k := 0) (n := 0) (Nat.le_of_ble_eq_true rfl) (Nat.le_of_ble_eq_true rfl) ?_
                            exact W.vret hx hb hr (fun t ht hW => ⟨⟨(), rfl, trivial, ⟨n_h0_next_102, 5, n_h0_which_103, v_4, hp_104, (by decide), hF_5, (show mnx.toInt ≤ n_h0_next_102.toInt ∧ n_h0_next_102.toInt ≤ mst.toInt by omega), (show (5 : Int) ≤ 8 * (n_h0_next_102.toInt - mnx.toInt) by omega), (show v_4.toInt ≤ n_h0_next_102.toInt by omega), (show z_tk8 (5 : Int) n_h0_next_102.toInt v_4.toInt from fun h9 => by omega), (show z_tkw n_h0_which_103.toInt (5 : Int) from fun h9 h8 h7 => by omega), by rw [ht]; exact hP9, va_K.moved hW.alike hK9, hD9⟩⟩, hS.F ht⟩) hS.2.2 dX12_take_342
                          · have k_116 : (z_112).toInt = (115 : Int) := z_eq c_113
                            obtain rfl : z_112 = 115 := z_eq' (show (z_112).toInt = (115 : Int) by omega)
                            refine lv_bipush (v := 7) hx hb dX12_take_228 (by decide) ?_
                            refine lv_goto (tgt := 234) hx hb dX12_take_230 (by decide) ?_
                            refine va_put (D := (dC, dI)) (ci := 12) (v := .int 7) (ty := .int) (C := RX12) (T := TX12) (N := 70) hx hb hts hiX12 tyX12 tyX12_ok nmX12 hown hK hP hD hS 1 rfl rfl 32 (by decide) w__fieldLink_RX12_221_ShellHeapModel_kindNow_I_ (fun _ h9 => h9) rfl (by decide +kernel) rfl rfl (Nat.le_of_ble_eq_true rfl) dX12_take_234 (fun H_118 locs hP hD hS => ?_)
                            obtain ⟨hP, hD⟩ := z_s_1_32 hP hD
                            refine lv_goto (tgt := 342) hx hb dX12_take_237 (by decide) ?_
                            refine z_backQ hQQ ?_
                            obtain ⟨hP9, hD9⟩ := z_sub2 (ws' := [(h0, .inr (12, [.ref a_te, h0_1, h0_2, h0_3, h0_4, h0_5, h0_6, h0_7, h0_8, h0_9, h0_10, h0_11, h0_12, h0_13, h0_14, h0_15, h0_16, h0_17, h0_18, h0_19, h0_20, h0_21, h0_22, h0_23, h0_24, h0_25, h0_26, .ref a_wd, .int mf, .int mfp, .int mst, .int n_h0_next_102, .int 7, .int n_h0_which_103, .int v_4, h0_35, h0_36, h0_37, h0_38, h0_39, h0_40, h0_41, h0_42, h0_43, h0_44, h0_45, h0_46, h0_47, h0_48, h0_49, h0_50, h0_51, h0_52, h0_53, h0_54, h0_55, h0_56, h0_57, h0_58, h0_59, h0_60, h0_61, h0_62, h0_63, h0_64, h0_65, h0_66, h0_67, h0_68, h0_69])), (a_te, .inl (ca_te, 700, .inl fa_te)), (a_wd, .inl (ca_wd, 115, .inl fa_wd))]) hP hD [1, 2, 0] (by decide) rfl
                            have hK9 := hK.sub (tys' := []) [] rfl
                            refine W.widen (k := 0) (n := 0) (Nat.le_of_ble_eq_true rfl) (Nat.le_of_ble_eq_true rfl) ?_
                            exact W.vret hx hb hr (fun t ht hW => ⟨⟨(), rfl, trivial, ⟨n_h0_next_102, 7, n_h0_which_103, v_4, hp_104, (by decide), hF_5, (show mnx.toInt ≤ n_h0_next_102.toInt ∧ n_h0_next_102.toInt ≤ mst.toInt by omega), (show (7 : Int) ≤ 8 * (n_h0_next_102.toInt - mnx.toInt) by omega), (show v_4.toInt ≤ n_h0_next_102.toInt by omega), (show z_tk8 (7 : Int) n_h0_next_102.toInt v_4.toInt from fun h9 => by omega), (show z_tkw n_h0_which_103.toInt (7 : Int) from fun h9 h8 h7 => by omega), by rw [ht]; exact hP9, va_K.moved hW.alike hK9, hD9⟩⟩, hS.F ht⟩) hS.2.2 dX12_take_342
                        · have k_119 : (z_109).toInt = (107 : Int) := z_eq c_110
                          obtain rfl : z_109 = 107 := z_eq' (show (z_109).toInt = (107 : Int) by omega)
                          refine lv_bipush (v := 6) hx hb dX12_take_209 (by decide) ?_
                          refine lv_goto (tgt := 234) hx hb dX12_take_211 (by decide) ?_
                          refine va_put (D := (dC, dI)) (ci := 12) (v := .int 6) (ty := .int) (C := RX12) (T := TX12) (N := 70) hx hb hts hiX12 tyX12 tyX12_ok nmX12 hown hK hP hD hS 1 rfl rfl 32 (by decide) w__fieldLink_RX12_221_ShellHeapModel_kindNow_I_ (fun _ h9 => h9) rfl (by decide +kernel) rfl rfl (Nat.le_of_ble_eq_true rfl) dX12_take_234 (fun H_121 locs hP hD hS => ?_)
                          obtain ⟨hP, hD⟩ := z_s_1_32 hP hD
                          refine lv_goto (tgt := 342) hx hb dX12_take_237 (by decide) ?_
                          refine z_backQ hQQ ?_
                          obtain ⟨hP9, hD9⟩ := z_sub2 (ws' := [(h0, .inr (12, [.ref a_te, h0_1, h0_2, h0_3, h0_4, h0_5, h0_6, h0_7, h0_8, h0_9, h0_10, h0_11, h0_12, h0_13, h0_14, h0_15, h0_16, h0_17, h0_18, h0_19, h0_20, h0_21, h0_22, h0_23, h0_24, h0_25, h0_26, .ref a_wd, .int mf, .int mfp, .int mst, .int n_h0_next_102, .int 6, .int n_h0_which_103, .int v_4, h0_35, h0_36, h0_37, h0_38, h0_39, h0_40, h0_41, h0_42, h0_43, h0_44, h0_45, h0_46, h0_47, h0_48, h0_49, h0_50, h0_51, h0_52, h0_53, h0_54, h0_55, h0_56, h0_57, h0_58, h0_59, h0_60, h0_61, h0_62, h0_63, h0_64, h0_65, h0_66, h0_67, h0_68, h0_69])), (a_te, .inl (ca_te, 700, .inl fa_te)), (a_wd, .inl (ca_wd, 115, .inl fa_wd))]) hP hD [1, 2, 0] (by decide) rfl
                          have hK9 := hK.sub (tys' := []) [] rfl
                          refine W.widen (k := 0) (n := 0) (Nat.le_of_ble_eq_true rfl) (Nat.le_of_ble_eq_true rfl) ?_
                          exact W.vret hx hb hr (fun t ht hW => ⟨⟨(), rfl, trivial, ⟨n_h0_next_102, 6, n_h0_which_103, v_4, hp_104, (by decide), hF_5, (show mnx.toInt ≤ n_h0_next_102.toInt ∧ n_h0_next_102.toInt ≤ mst.toInt by omega), (show (6 : Int) ≤ 8 * (n_h0_next_102.toInt - mnx.toInt) by omega), (show v_4.toInt ≤ n_h0_next_102.toInt by omega), (show z_tk8 (6 : Int) n_h0_next_102.toInt v_4.toInt from fun h9 => by omega), (show z_tkw n_h0_which_103.toInt (6 : Int) from fun h9 h8 h7 => by omega), by rw [ht]; exact hP9, va_K.moved hW.alike hK9, hD9⟩⟩, hS.F ht⟩) hS.2.2 dX12_take_342
                      · have k_122 : (z_31).toInt > (1 : Int) := z_nle c_107
                        refine lv_iconst (v := 5) hx hb dX12_take_191 (by decide) ?_
                        refine lv_goto (tgt := 234) hx hb dX12_take_192 (by decide) ?_
                        refine va_put (D := (dC, dI)) (ci := 12) (v := .int 5) (ty := .int) (C := RX12) (T := TX12) (N := 70) hx hb hts hiX12 tyX12 tyX12_ok nmX12 hown hK hP hD hS 1 rfl rfl 32 (by decide) w__fieldLink_RX12_221_ShellHeapModel_kindNow_I_ (fun _ h9 => h9) rfl (by decide +kernel) rfl rfl (Nat.le_of_ble_eq_true rfl) dX12_take_234 (fun H_123 locs hP hD hS => ?_)
                        obtain ⟨hP, hD⟩ := z_s_1_32 hP hD
                        refine lv_goto (tgt := 342) hx hb dX12_take_237 (by decide) ?_
                        refine z_backQ hQQ ?_
                        obtain ⟨hP9, hD9⟩ := z_sub2 (ws' := [(h0, .inr (12, [.ref a_te, h0_1, h0_2, h0_3, h0_4, h0_5, h0_6, h0_7, h0_8, h0_9, h0_10, h0_11, h0_12, h0_13, h0_14, h0_15, h0_16, h0_17, h0_18, h0_19, h0_20, h0_21, h0_22, h0_23, h0_24, h0_25, h0_26, .ref a_wd, .int mf, .int mfp, .int mst, .int n_h0_next_102, .int 5, .int n_h0_which_103, .int v_4, h0_35, h0_36, h0_37, h0_38, h0_39, h0_40, h0_41, h0_42, h0_43, h0_44, h0_45, h0_46, h0_47, h0_48, h0_49, h0_50, h0_51, h0_52, h0_53, h0_54, h0_55, h0_56, h0_57, h0_58, h0_59, h0_60, h0_61, h0_62, h0_63, h0_64, h0_65, h0_66, h0_67, h0_68, h0_69])), (a_te, .inl (ca_te, 700, .inl fa_te)), (a_wd, .inl (ca_wd, 115, .inl fa_wd))]) hP hD [1, 2, 0] (by decide) rfl
                        have hK9 := hK.sub (tys' := []) [] rfl
                        refine W.widen (k := 0) (n := 0) (Nat.le_of_ble_eq_true rfl) (Nat.le_of_ble_eq_true rfl) ?_
                        exact W.vret hx hb hr (fun t ht hW => ⟨⟨(), rfl, trivial, ⟨n_h0_next_102, 5, n_h0_which_103, v_4, hp_104, (by decide), hF_5, (show mnx.toInt ≤ n_h0_next_102.toInt ∧ n_h0_next_102.toInt ≤ mst.toInt by omega), (show (5 : Int) ≤ 8 * (n_h0_next_102.toInt - mnx.toInt) by omega), (show v_4.toInt ≤ n_h0_next_102.toInt by omega), (show z_tk8 (5 : Int) n_h0_next_102.toInt v_4.toInt from fun h9 => by omega), (show z_tkw n_h0_which_103.toInt (5 : Int) from fun h9 h8 h7 => by omega), by rw [ht]; exact hP9, va_K.moved hW.alike hK9, hD9⟩⟩, hS.F ht⟩) hS.2.2 dX12_take_342
                    · have hw_97 : ¬ (v_19.toInt < mst.toInt ∧ 48 ≤ (fa_te v_19.toNatClampNeg).toInt ∧ (fa_te v_19.toNatClampNeg).toInt ≤ 57) := hw_97
                      refine lv_if_eq (tgt := 237) hx hb dX12_take_178 (by decide) (fun _ => ?_) (fun c_124 => absurd (by decide) c_124)
                      refine lv_goto (tgt := 342) hx hb dX12_take_237 (by decide) ?_
                      refine z_backQ hQQ ?_
                      have hP9 := hP
                      have hD9 := hD
                      have hK9 := hK.sub (tys' := []) [] rfl
                      refine W.widen (k := 0) (n := 0) (Nat.le_of_ble_eq_true rfl) (Nat.le_of_ble_eq_true rfl) ?_
                      exact W.vret hx hb hr (fun t ht hW => ⟨⟨(), rfl, trivial, ⟨v_19, 1, r_33, v_4, hF_20, (by decide), hF_5, (show mnx.toInt ≤ v_19.toInt ∧ v_19.toInt ≤ mst.toInt by omega), (show (1 : Int) ≤ 8 * (v_19.toInt - mnx.toInt) by omega), (show v_4.toInt ≤ v_19.toInt by omega), (show z_tk8 (1 : Int) v_19.toInt v_4.toInt from fun h9 => by omega), (show z_tkw r_33.toInt (1 : Int) from fun h9 h8 h7 => by omega), by rw [ht]; exact hP9, va_K.moved hW.alike hK9, hD9⟩⟩, hS.F ht⟩) hS.2.2 dX12_take_342
            exact loop_16 _ v_4 _ _ _ (Nat.lt_succ_self _) (show ((0 : Int) ≤ (v_4).toInt ∧ (v_4).toInt ≤ (700 : Int)) by omega) (show (mnx).toInt ≤ (v_4).toInt ∧ (v_4).toInt ≤ (mst).toInt by omega) (show (v_4).toInt ≤ (v_4).toInt by omega) (show (mnx).toInt + 1 ≤ (v_4).toInt ∨ ((v_4).toInt < (mst).toInt ∧ 97 ≤ (fa_te (v_4 : Int32).toNatClampNeg).toInt ∧ (fa_te (v_4 : Int32).toNatClampNeg).toInt ≤ 122) by omega) hP hD hS hl
          · have hw_14 : ¬ (v_4.toInt < mst.toInt ∧ 97 ≤ (fa_te v_4.toNatClampNeg).toInt ∧ (fa_te v_4.toNatClampNeg).toInt ≤ 122) := hw_14
            refine lv_if_eq (tgt := 240) hx hb dX12_take_87 (by decide) (fun _ => ?_) (fun c_125 => absurd (by decide) c_125)
            refine lv_aload_n hx hb dX12_take_240 rfl (lv_at hl 0 rfl) ?_
            refine lv_aload_n hx hb dX12_take_241 rfl (lv_at hl 0 rfl) ?_
            refine va_get (D := (dC, dI)) (ci := 12) (v := .int v_4) (C := RX12) (T := TX12) (N := 70) hx hb hts hiX12 hown hK hP 0 rfl rfl 31 (by decide) w__fieldLink_RX12_207_ShellHeapModel_next_I_ (fun _ h9 => h9) rfl dX12_take_242 ?_
            obtain ⟨hPc, hDc⟩ := z_sub2 (ws' := [(h0, .inr (12, [.ref a_te, h0_1, h0_2, h0_3, h0_4, h0_5, h0_6, h0_7, h0_8, h0_9, h0_10, h0_11, h0_12, h0_13, h0_14, h0_15, h0_16, h0_17, h0_18, h0_19, h0_20, h0_21, h0_22, h0_23, h0_24, h0_25, h0_26, .ref a_wd, .int mf, .int mfp, .int mst, .int v_4, .int mkd, .int mwh, .int v_4, h0_35, h0_36, h0_37, h0_38, h0_39, h0_40, h0_41, h0_42, h0_43, h0_44, h0_45, h0_46, h0_47, h0_48, h0_49, h0_50, h0_51, h0_52, h0_53, h0_54, h0_55, h0_56, h0_57, h0_58, h0_59, h0_60, h0_61, h0_62, h0_63, h0_64, h0_65, h0_66, h0_67, h0_68, h0_69])), (a_te, .inl (ca_te, 700, .inl fa_te))]) hP hD [0, 1] (by decide) rfl
            have hKc := hK.sub (tys' := [(ca_te, .int)]) [0] rfl
            have hFc := va_free (ws := []) (wc := []) (z_D0 _) hS hA [] rfl
            refine va_calli (va_runV (As := [.int v_4]) (rest := []) ⟨hx, hb, hml, hown, hts⟩ (s_X12_isDigit l dC dI H_12.size h0 v_4 a_te h0_1 h0_2 h0_3 h0_4 h0_5 h0_6 h0_7 h0_8 h0_9 h0_10 h0_11 h0_12 h0_13 h0_14 h0_15 h0_16 h0_17 h0_18 h0_19 h0_20 h0_21 h0_22 h0_23 h0_24 h0_25 h0_26 a_wd mf mfp mst v_4 mkd mwh v_4 h0_35 h0_36 h0_37 h0_38 h0_39 h0_40 h0_41 h0_42 h0_43 h0_44 h0_45 h0_46 h0_47 h0_48 h0_49 h0_50 h0_51 h0_52 h0_53 h0_54 h0_55 h0_56 h0_57 h0_58 h0_59 h0_60 h0_61 h0_62 h0_63 h0_64 h0_65 h0_66 h0_67 h0_68 h0_69 ca_te fa_te hB_mst hF_5 hB_mkd hF_5 hF_5 hI_a_te) (cwV 1 hts gw_s_X12_take_f_s_X12_isDigit_217 rfl rfl rfl (by decide +kernel) ⟨Nat.le_of_ble_eq_true rfl, Nat.le_of_ble_eq_true rfl⟩) ⟨z_blind, va_recv hKc hPc (ci := 12) (q0 := 0) rfl rfl, z_pre hPc hKc hDc⟩ rfl rfl hl.1 rfl (lv_room (Nat.le_of_ble_eq_true rfl)) dX12_take_245 ⟨Nat.le_of_ble_eq_true rfl, Nat.le_of_ble_eq_true rfl⟩) hS (fun q _ h => hFc q h) hFc (fun r_127 u t H_126 locs ht hvm hw_128 hB hz1 hk1 hS => ?_)
            replace hP := z_pure hP hk1
            clear hPc hDc hKc
            rcases hw_128 with ⟨rfl, hw_128⟩ | ⟨rfl, hw_128⟩
            · have hw_128 : (v_4.toInt < mst.toInt ∧ 48 ≤ (fa_te v_4.toNatClampNeg).toInt ∧ (fa_te v_4.toNatClampNeg).toInt ≤ 57) := hw_128
              refine lv_if_eq (tgt := 263) hx hb dX12_take_248 (by decide) (fun c_129 => absurd c_129 (by decide)) (fun _ => ?_)
              refine lv_aload_n hx hb dX12_take_251 rfl (lv_at hl 0 rfl) ?_
              refine lv_iconst (v := 3) hx hb dX12_take_252 (by decide) ?_
              refine va_put (D := (dC, dI)) (ci := 12) (v := .int 3) (ty := .int) (C := RX12) (T := TX12) (N := 70) hx hb hts hiX12 tyX12 tyX12_ok nmX12 hown hK hP hD hS 0 rfl rfl 32 (by decide) w__fieldLink_RX12_221_ShellHeapModel_kindNow_I_ (fun _ h9 => h9) rfl (by decide +kernel) rfl rfl (Nat.le_of_ble_eq_true rfl) dX12_take_253 (fun H_130 locs hP hD hS => ?_)
              obtain ⟨hP, hD⟩ := z_s_0_32 hP hD
              refine lv_aload_n hx hb dX12_take_256 rfl (lv_at hl 0 rfl) ?_
              obtain ⟨hPc, hDc, hFc⟩ := z_sub3 (ws' := [(h0, .inr (12, [.ref a_te, h0_1, h0_2, h0_3, h0_4, h0_5, h0_6, h0_7, h0_8, h0_9, h0_10, h0_11, h0_12, h0_13, h0_14, h0_15, h0_16, h0_17, h0_18, h0_19, h0_20, h0_21, h0_22, h0_23, h0_24, h0_25, h0_26, .ref a_wd, .int mf, .int mfp, .int mst, .int v_4, .int 3, .int mwh, .int v_4, h0_35, h0_36, h0_37, h0_38, h0_39, h0_40, h0_41, h0_42, h0_43, h0_44, h0_45, h0_46, h0_47, h0_48, h0_49, h0_50, h0_51, h0_52, h0_53, h0_54, h0_55, h0_56, h0_57, h0_58, h0_59, h0_60, h0_61, h0_62, h0_63, h0_64, h0_65, h0_66, h0_67, h0_68, h0_69])), (a_te, .inl (ca_te, 700, .inl fa_te))]) hP hD hS hA [0, 1] (by decide) rfl
              have hKc := hK.sub (tys' := [(ca_te, .int)]) [0] rfl
              refine va_callv (va_runV (As := []) (rest := []) ⟨hx, hb, hml, hown, hts⟩ (s_X12_digits l dC dI H_130.size h0 a_te h0_1 h0_2 h0_3 h0_4 h0_5 h0_6 h0_7 h0_8 h0_9 h0_10 h0_11 h0_12 h0_13 h0_14 h0_15 h0_16 h0_17 h0_18 h0_19 h0_20 h0_21 h0_22 h0_23 h0_24 h0_25 h0_26 a_wd mf mfp mst v_4 3 mwh v_4 h0_35 h0_36 h0_37 h0_38 h0_39 h0_40 h0_41 h0_42 h0_43 h0_44 h0_45 h0_46 h0_47 h0_48 h0_49 h0_50 h0_51 h0_52 h0_53 h0_54 h0_55 h0_56 h0_57 h0_58 h0_59 h0_60 h0_61 h0_62 h0_63 h0_64 h0_65 h0_66 h0_67 h0_68 h0_69 ca_te fa_te hB_mst hF_5 (by decide) hF_5 hI_a_te (by first | omega | decide)) (cwV 0 hts gw_s_X12_take_f_s_X12_digits_230 rfl rfl rfl (by decide +kernel) ⟨Nat.le_of_ble_eq_true rfl, Nat.le_of_ble_eq_true rfl⟩) ⟨z_blind, va_recv hKc hPc (ci := 12) (q0 := 0) rfl rfl, z_pre hPc hKc hDc⟩ rfl rfl hl.1 rfl (lv_room (Nat.le_of_ble_eq_true rfl)) dX12_take_257 ⟨Nat.le_of_ble_eq_true rfl, Nat.le_of_ble_eq_true rfl⟩) hS (fun q _ h => hFc q h) hFc (fun u t H_131 locs ht hvm hw_133 hB hz1 hk1 hS => ?_)
              obtain ⟨n_h0_next_134, n_h0_which_135, hp_136, hp_137, hp_138, hP1, hK1, hD1⟩ := hB
              rw [ht] at hP1
              have hK1 := va_K.moved hvm.symm hK1
              obtain ⟨hP, hD⟩ := z_ap_1 (va_join (wr := [(a_wd, .inl (ca_wd, 115, .inl fa_wd))]) hP hD [0, 1] [2] rfl rfl (by decide) (by decide) hk1 hFc hP1 hD1)
              have hp_138 : v_4.toInt + 1 ≤ n_h0_next_134.toInt ∧ n_h0_next_134.toInt ≤ mst.toInt := hp_138
              clear hPc hDc hKc
              refine lv_goto (tgt := 342) hx hb dX12_take_260 (by decide) ?_
              refine z_backQ hQQ ?_
              obtain ⟨hP9, hD9⟩ := z_sub2 (ws' := [(h0, .inr (12, [.ref a_te, h0_1, h0_2, h0_3, h0_4, h0_5, h0_6, h0_7, h0_8, h0_9, h0_10, h0_11, h0_12, h0_13, h0_14, h0_15, h0_16, h0_17, h0_18, h0_19, h0_20, h0_21, h0_22, h0_23, h0_24, h0_25, h0_26, .ref a_wd, .int mf, .int mfp, .int mst, .int n_h0_next_134, .int 3, .int n_h0_which_135, .int v_4, h0_35, h0_36, h0_37, h0_38, h0_39, h0_40, h0_41, h0_42, h0_43, h0_44, h0_45, h0_46, h0_47, h0_48, h0_49, h0_50, h0_51, h0_52, h0_53, h0_54, h0_55, h0_56, h0_57, h0_58, h0_59, h0_60, h0_61, h0_62, h0_63, h0_64, h0_65, h0_66, h0_67, h0_68, h0_69])), (a_te, .inl (ca_te, 700, .inl fa_te)), (a_wd, .inl (ca_wd, 115, .inl fa_wd))]) hP hD [1, 2, 0] (by decide) rfl
              have hK9 := hK.sub (tys' := []) [] rfl
              refine W.widen (k := 0) (n := 0) (Nat.le_of_ble_eq_true rfl) (Nat.le_of_ble_eq_true rfl) ?_
              exact W.vret hx hb hr (fun t ht hW => ⟨⟨(), rfl, trivial, ⟨n_h0_next_134, 3, n_h0_which_135, v_4, hp_136, (by decide), hF_5, (show mnx.toInt ≤ n_h0_next_134.toInt ∧ n_h0_next_134.toInt ≤ mst.toInt by omega), (show (3 : Int) ≤ 8 * (n_h0_next_134.toInt - mnx.toInt) by omega), (show v_4.toInt ≤ n_h0_next_134.toInt by omega), (show z_tk8 (3 : Int) n_h0_next_134.toInt v_4.toInt from fun h9 => by omega), (show z_tkw n_h0_which_135.toInt (3 : Int) from fun h9 h8 h7 => by omega), by rw [ht]; exact hP9, va_K.moved hW.alike hK9, hD9⟩⟩, hS.F ht⟩) hS.2.2 dX12_take_342
            · have hw_128 : ¬ (v_4.toInt < mst.toInt ∧ 48 ≤ (fa_te v_4.toNatClampNeg).toInt ∧ (fa_te v_4.toNatClampNeg).toInt ≤ 57) := hw_128
              refine lv_if_eq (tgt := 263) hx hb dX12_take_248 (by decide) (fun _ => ?_) (fun c_139 => absurd (by decide) c_139)
              refine lv_aload_n hx hb dX12_take_263 rfl (lv_at hl 0 rfl) ?_
              refine va_get (D := (dC, dI)) (ci := 12) (v := .ref a_te) (C := RX12) (T := TX12) (N := 70) hx hb hts hiX12 hown hK hP 0 rfl rfl 0 (by decide) w__fieldLink_RX12_7_ShellHeapModel_tape_I_ (fun _ h9 => h9) rfl dX12_take_264 ?_
              refine lv_aload_n hx hb dX12_take_267 rfl (lv_at hl 0 rfl) ?_
              refine va_get (D := (dC, dI)) (ci := 12) (v := .int v_4) (C := RX12) (T := TX12) (N := 70) hx hb hts hiX12 hown hK hP 0 rfl rfl 31 (by decide) w__fieldLink_RX12_207_ShellHeapModel_next_I_ (fun _ h9 => h9) rfl dX12_take_268 ?_
              refine va_iald hx hb hK hP 1 0 rfl rfl (z_vpin (by omega) (by omega)) dX12_take_271 ?_
              refine lv_topi (fun z_140 ez_140 => ?_)
              have kz_140 : ((0 : Int) ≤ (z_140).toInt ∧ (z_140).toInt ≤ (255 : Int)) := by rw [ez_140]; exact hI_a_te _
              refine lv_istore_n (lv' := [(2, .int z_140), (0, .ref h0), (1, .int 1)]) hx hb dX12_take_272 rfl hl (by decide) rfl (fun ls hl => ?_)
              refine lv_aload_n hx hb dX12_take_273 rfl (lv_at hl 1 rfl) ?_
              refine lv_dup hx hb dX12_take_274 rfl ?_
              refine va_get (D := (dC, dI)) (ci := 12) (v := .int v_4) (C := RX12) (T := TX12) (N := 70) hx hb hts hiX12 hown hK hP 0 rfl rfl 31 (by decide) w__fieldLink_RX12_207_ShellHeapModel_next_I_ (fun _ h9 => h9) rfl dX12_take_275 ?_
              refine lv_iconst (v := 1) hx hb dX12_take_278 (by decide) ?_
              refine lv_iadd hx hb dX12_take_279 ?_
              refine lv_topi (fun z_141 ez_141 => ?_)
              have kz_141 : (z_141).toInt = (v_4).toInt + (1 : Int) := by rw [ez_141]; exact z_add (a := (v_4).toInt) (b := (1 : Int)) rfl rfl (z_al hF_5.1 (by decide)) (z_ah hF_5.2 (by decide))
              refine va_put (D := (dC, dI)) (ci := 12) (v := .int z_141) (ty := .int) (C := RX12) (T := TX12) (N := 70) hx hb hts hiX12 tyX12 tyX12_ok nmX12 hown hK hP hD hS 0 rfl rfl 31 (by decide) w__fieldLink_RX12_207_ShellHeapModel_next_I_ (fun _ h9 => h9) rfl (by decide +kernel) rfl rfl (Nat.le_of_ble_eq_true rfl) dX12_take_280 (fun H_142 locs hP hD hS => ?_)
              obtain ⟨hP, hD⟩ := z_s_0_31 hP hD
              refine lv_aload_n hx hb dX12_take_283 rfl (lv_at hl 1 rfl) ?_
              refine lv_aload_n hx hb dX12_take_284 rfl (lv_at hl 1 rfl) ?_
              refine lv_iload_n hx hb dX12_take_285 rfl (lv_at hl 0 rfl) ?_
              obtain ⟨hPc, hDc⟩ := z_sub2 (ws' := [(h0, .inr (12, [.ref a_te, h0_1, h0_2, h0_3, h0_4, h0_5, h0_6, h0_7, h0_8, h0_9, h0_10, h0_11, h0_12, h0_13, h0_14, h0_15, h0_16, h0_17, h0_18, h0_19, h0_20, h0_21, h0_22, h0_23, h0_24, h0_25, h0_26, .ref a_wd, .int mf, .int mfp, .int mst, .int z_141, .int mkd, .int mwh, .int v_4, h0_35, h0_36, h0_37, h0_38, h0_39, h0_40, h0_41, h0_42, h0_43, h0_44, h0_45, h0_46, h0_47, h0_48, h0_49, h0_50, h0_51, h0_52, h0_53, h0_54, h0_55, h0_56, h0_57, h0_58, h0_59, h0_60, h0_61, h0_62, h0_63, h0_64, h0_65, h0_66, h0_67, h0_68, h0_69])), (a_te, .inl (ca_te, 700, .inl fa_te))]) hP hD [0, 1] (by decide) rfl
              have hKc := hK.sub (tys' := [(ca_te, .int)]) [0] rfl
              have hFc := va_free (ws := []) (wc := []) (z_D0 _) hS hA [] rfl
              refine va_calli (va_runV (As := [.int z_140]) (rest := [.ref h0]) ⟨hx, hb, hml, hown, hts⟩ (s_X12_signOf l dC dI H_142.size h0 z_140 a_te h0_1 h0_2 h0_3 h0_4 h0_5 h0_6 h0_7 h0_8 h0_9 h0_10 h0_11 h0_12 h0_13 h0_14 h0_15 h0_16 h0_17 h0_18 h0_19 h0_20 h0_21 h0_22 h0_23 h0_24 h0_25 h0_26 a_wd mf mfp mst z_141 mkd mwh v_4 h0_35 h0_36 h0_37 h0_38 h0_39 h0_40 h0_41 h0_42 h0_43 h0_44 h0_45 h0_46 h0_47 h0_48 h0_49 h0_50 h0_51 h0_52 h0_53 h0_54 h0_55 h0_56 h0_57 h0_58 h0_59 h0_60 h0_61 h0_62 h0_63 h0_64 h0_65 h0_66 h0_67 h0_68 h0_69 ca_te fa_te hB_mst (by first | omega | decide) hB_mkd hF_5 kz_140 hI_a_te) (cwV 1 hts gw_s_X12_take_f_s_X12_signOf_233 rfl rfl rfl (by decide +kernel) ⟨Nat.le_of_ble_eq_true rfl, Nat.le_of_ble_eq_true rfl⟩) ⟨z_blind, va_recv hKc hPc (ci := 12) (q0 := 0) rfl rfl, z_pre hPc hKc hDc⟩ rfl rfl hl.1 rfl (lv_room (Nat.le_of_ble_eq_true rfl)) dX12_take_286 ⟨Nat.le_of_ble_eq_true rfl, Nat.le_of_ble_eq_true rfl⟩) hS (fun q _ h => hFc q h) hFc (fun r_144 u t H_143 locs ht hvm hw_145 hB hz1 hk1 hS => ?_)
              replace hP := z_pure hP hk1
              clear hPc hDc hKc
              refine va_put (D := (dC, dI)) (ci := 12) (v := .int r_144) (ty := .int) (C := RX12) (T := TX12) (N := 70) hx hb hts hiX12 tyX12 tyX12_ok nmX12 hown hK hP hD hS 0 rfl rfl 33 (by decide) w__fieldLink_RX12_214_ShellHeapModel_which_I_ (fun _ h9 => h9) rfl (by decide +kernel) rfl rfl (Nat.le_of_ble_eq_true rfl) dX12_take_289 (fun H_146 locs hP hD hS => ?_)
              obtain ⟨hP, hD⟩ := z_s_0_33 hP hD
              refine lv_aload_n hx hb dX12_take_292 rfl (lv_at hl 1 rfl) ?_
              refine lv_aload_n hx hb dX12_take_293 rfl (lv_at hl 1 rfl) ?_
              refine va_get (D := (dC, dI)) (ci := 12) (v := .int r_144) (C := RX12) (T := TX12) (N := 70) hx hb hts hiX12 hown hK hP 0 rfl rfl 33 (by decide) w__fieldLink_RX12_214_ShellHeapModel_which_I_ (fun _ h9 => h9) rfl dX12_take_294 ?_
              refine lv_if_ge (tgt := 304) hx hb dX12_take_297 (by decide) (fun c_147 => ?_) (fun c_147 => ?_)
              · have k_148 : (0 : Int) ≤ (r_144).toInt := z_le c_147
                refine lv_iconst (v := 4) hx hb dX12_take_304 (by decide) ?_
                refine va_put (D := (dC, dI)) (ci := 12) (v := .int 4) (ty := .int) (C := RX12) (T := TX12) (N := 70) hx hb hts hiX12 tyX12 tyX12_ok nmX12 hown hK hP hD hS 0 rfl rfl 32 (by decide) w__fieldLink_RX12_221_ShellHeapModel_kindNow_I_ (fun _ h9 => h9) rfl (by decide +kernel) rfl rfl (Nat.le_of_ble_eq_true rfl) dX12_take_305 (fun H_149 locs hP hD hS => ?_)
                obtain ⟨hP, hD⟩ := z_s_0_32 hP hD
                refine lv_aload_n hx hb dX12_take_308 rfl (lv_at hl 1 rfl) ?_
                refine va_get (D := (dC, dI)) (ci := 12) (v := .int r_144) (C := RX12) (T := TX12) (N := 70) hx hb hts hiX12 hown hK hP 0 rfl rfl 33 (by decide) w__fieldLink_RX12_214_ShellHeapModel_which_I_ (fun _ h9 => h9) rfl dX12_take_309 ?_
                refine lv_iconst (v := 2) hx hb dX12_take_312 (by decide) ?_
                refine lv_icmp_eq (tgt := 332) hx hb dX12_take_313 (by decide) (fun c_150 => ?_) (fun c_150 => ?_)
                · have k_151 : (r_144).toInt = (2 : Int) := z_eq c_150
                  obtain rfl : r_144 = 2 := z_eq' (show (r_144).toInt = (2 : Int) by omega)
                  refine lv_aload_n hx hb dX12_take_332 rfl (lv_at hl 1 rfl) ?_
                  refine lv_dup hx hb dX12_take_333 rfl ?_
                  refine va_get (D := (dC, dI)) (ci := 12) (v := .int z_141) (C := RX12) (T := TX12) (N := 70) hx hb hts hiX12 hown hK hP 0 rfl rfl 31 (by decide) w__fieldLink_RX12_207_ShellHeapModel_next_I_ (fun _ h9 => h9) rfl dX12_take_334 ?_
                  refine lv_iconst (v := 1) hx hb dX12_take_337 (by decide) ?_
                  refine lv_iadd hx hb dX12_take_338 ?_
                  refine lv_topi (fun z_153 ez_153 => ?_)
                  have kz_153 : (z_153).toInt = (z_141).toInt + (1 : Int) := by rw [ez_153]; exact z_add (a := (z_141).toInt) (b := (1 : Int)) rfl rfl (by omega) (by omega)
                  refine va_put (D := (dC, dI)) (ci := 12) (v := .int z_153) (ty := .int) (C := RX12) (T := TX12) (N := 70) hx hb hts hiX12 tyX12 tyX12_ok nmX12 hown hK hP hD hS 0 rfl rfl 31 (by decide) w__fieldLink_RX12_207_ShellHeapModel_next_I_ (fun _ h9 => h9) rfl (by decide +kernel) rfl rfl (Nat.le_of_ble_eq_true rfl) dX12_take_339 (fun H_154 locs hP hD hS => ?_)
                  obtain ⟨hP, hD⟩ := z_s_0_31 hP hD
                  refine z_backQ hQQ ?_
                  have hP9 := hP
                  have hD9 := hD
                  have hK9 := hK.sub (tys' := []) [] rfl
                  refine W.widen (k := 0) (n := 0) (Nat.le_of_ble_eq_true rfl) (Nat.le_of_ble_eq_true rfl) ?_
                  exact W.vret hx hb hr (fun t ht hW => ⟨⟨(), rfl, trivial, ⟨z_153, 4, 2, v_4, (by first | omega | decide), (by decide), hF_5, (show mnx.toInt ≤ z_153.toInt ∧ z_153.toInt ≤ mst.toInt by omega), (show (4 : Int) ≤ 8 * (z_153.toInt - mnx.toInt) by omega), (show v_4.toInt ≤ z_153.toInt by omega), (show z_tk8 (4 : Int) z_153.toInt v_4.toInt from fun h9 => by omega), (show z_tkw (2 : Int) (4 : Int) from fun h9 h8 h7 => by omega), by rw [ht]; exact hP9, va_K.moved hW.alike hK9, hD9⟩⟩, hS.F ht⟩) hS.2.2 dX12_take_342
                · have k_155 : (r_144).toInt ≠ (2 : Int) := z_ne c_150
                  refine lv_aload_n hx hb dX12_take_316 rfl (lv_at hl 1 rfl) ?_
                  refine va_get (D := (dC, dI)) (ci := 12) (v := .int r_144) (C := RX12) (T := TX12) (N := 70) hx hb hts hiX12 hown hK hP 0 rfl rfl 33 (by decide) w__fieldLink_RX12_214_ShellHeapModel_which_I_ (fun _ h9 => h9) rfl dX12_take_317 ?_
                  refine lv_iconst (v := 4) hx hb dX12_take_320 (by decide) ?_
                  refine lv_icmp_eq (tgt := 332) hx hb dX12_take_321 (by decide) (fun c_156 => ?_) (fun c_156 => ?_)
                  · have k_157 : (r_144).toInt = (4 : Int) := z_eq c_156
                    obtain rfl : r_144 = 4 := z_eq' (show (r_144).toInt = (4 : Int) by omega)
                    refine lv_aload_n hx hb dX12_take_332 rfl (lv_at hl 1 rfl) ?_
                    refine lv_dup hx hb dX12_take_333 rfl ?_
                    refine va_get (D := (dC, dI)) (ci := 12) (v := .int z_141) (C := RX12) (T := TX12) (N := 70) hx hb hts hiX12 hown hK hP 0 rfl rfl 31 (by decide) w__fieldLink_RX12_207_ShellHeapModel_next_I_ (fun _ h9 => h9) rfl dX12_take_334 ?_
                    refine lv_iconst (v := 1) hx hb dX12_take_337 (by decide) ?_
                    refine lv_iadd hx hb dX12_take_338 ?_
                    refine lv_topi (fun z_159 ez_159 => ?_)
                    have kz_159 : (z_159).toInt = (z_141).toInt + (1 : Int) := by rw [ez_159]; exact z_add (a := (z_141).toInt) (b := (1 : Int)) rfl rfl (by omega) (by omega)
                    refine va_put (D := (dC, dI)) (ci := 12) (v := .int z_159) (ty := .int) (C := RX12) (T := TX12) (N := 70) hx hb hts hiX12 tyX12 tyX12_ok nmX12 hown hK hP hD hS 0 rfl rfl 31 (by decide) w__fieldLink_RX12_207_ShellHeapModel_next_I_ (fun _ h9 => h9) rfl (by decide +kernel) rfl rfl (Nat.le_of_ble_eq_true rfl) dX12_take_339 (fun H_160 locs hP hD hS => ?_)
                    obtain ⟨hP, hD⟩ := z_s_0_31 hP hD
                    refine z_backQ hQQ ?_
                    have hP9 := hP
                    have hD9 := hD
                    have hK9 := hK.sub (tys' := []) [] rfl
                    refine W.widen (k := 0) (n := 0) (Nat.le_of_ble_eq_true rfl) (Nat.le_of_ble_eq_true rfl) ?_
                    exact W.vret hx hb hr (fun t ht hW => ⟨⟨(), rfl, trivial, ⟨z_159, 4, 4, v_4, (by first | omega | decide), (by decide), hF_5, (show mnx.toInt ≤ z_159.toInt ∧ z_159.toInt ≤ mst.toInt by omega), (show (4 : Int) ≤ 8 * (z_159.toInt - mnx.toInt) by omega), (show v_4.toInt ≤ z_159.toInt by omega), (show z_tk8 (4 : Int) z_159.toInt v_4.toInt from fun h9 => by omega), (show z_tkw (4 : Int) (4 : Int) from fun h9 h8 h7 => by omega), by rw [ht]; exact hP9, va_K.moved hW.alike hK9, hD9⟩⟩, hS.F ht⟩) hS.2.2 dX12_take_342
                  · have k_161 : (r_144).toInt ≠ (4 : Int) := z_ne c_156
                    refine lv_aload_n hx hb dX12_take_324 rfl (lv_at hl 1 rfl) ?_
                    refine va_get (D := (dC, dI)) (ci := 12) (v := .int r_144) (C := RX12) (T := TX12) (N := 70) hx hb hts hiX12 hown hK hP 0 rfl rfl 33 (by decide) w__fieldLink_RX12_214_ShellHeapModel_which_I_ (fun _ h9 => h9) rfl dX12_take_325 ?_
                    refine lv_iconst (v := 5) hx hb dX12_take_328 (by decide) ?_
                    refine lv_icmp_ne (tgt := 342) hx hb dX12_take_329 (by decide) (fun c_162 => ?_) (fun c_162 => ?_)
                    · have k_163 : (r_144).toInt ≠ (5 : Int) := z_ne c_162
                      refine z_backQ hQQ ?_
                      have hP9 := hP
                      have hD9 := hD
                      have hK9 := hK.sub (tys' := []) [] rfl
                      refine W.widen (k := 0) (n := 0) (Nat.le_of_ble_eq_true rfl) (Nat.le_of_ble_eq_true rfl) ?_
                      exact W.vret hx hb hr (fun t ht hW => ⟨⟨(), rfl, trivial, ⟨z_141, 4, r_144, v_4, (by first | omega | decide), (by decide), hF_5, (show mnx.toInt ≤ z_141.toInt ∧ z_141.toInt ≤ mst.toInt by omega), (show (4 : Int) ≤ 8 * (z_141.toInt - mnx.toInt) by omega), (show v_4.toInt ≤ z_141.toInt by omega), (show z_tk8 (4 : Int) z_141.toInt v_4.toInt from fun h9 => by omega), (show z_tkw r_144.toInt (4 : Int) from fun h9 h8 h7 => by omega), by rw [ht]; exact hP9, va_K.moved hW.alike hK9, hD9⟩⟩, hS.F ht⟩) hS.2.2 dX12_take_342
                    · have k_164 : (r_144).toInt = (5 : Int) := z_eq c_162
                      obtain rfl : r_144 = 5 := z_eq' (show (r_144).toInt = (5 : Int) by omega)
                      refine lv_aload_n hx hb dX12_take_332 rfl (lv_at hl 1 rfl) ?_
                      refine lv_dup hx hb dX12_take_333 rfl ?_
                      refine va_get (D := (dC, dI)) (ci := 12) (v := .int z_141) (C := RX12) (T := TX12) (N := 70) hx hb hts hiX12 hown hK hP 0 rfl rfl 31 (by decide) w__fieldLink_RX12_207_ShellHeapModel_next_I_ (fun _ h9 => h9) rfl dX12_take_334 ?_
                      refine lv_iconst (v := 1) hx hb dX12_take_337 (by decide) ?_
                      refine lv_iadd hx hb dX12_take_338 ?_
                      refine lv_topi (fun z_166 ez_166 => ?_)
                      have kz_166 : (z_166).toInt = (z_141).toInt + (1 : Int) := by rw [ez_166]; exact z_add (a := (z_141).toInt) (b := (1 : Int)) rfl rfl (by omega) (by omega)
                      refine va_put (D := (dC, dI)) (ci := 12) (v := .int z_166) (ty := .int) (C := RX12) (T := TX12) (N := 70) hx hb hts hiX12 tyX12 tyX12_ok nmX12 hown hK hP hD hS 0 rfl rfl 31 (by decide) w__fieldLink_RX12_207_ShellHeapModel_next_I_ (fun _ h9 => h9) rfl (by decide +kernel) rfl rfl (Nat.le_of_ble_eq_true rfl) dX12_take_339 (fun H_167 locs hP hD hS => ?_)
                      obtain ⟨hP, hD⟩ := z_s_0_31 hP hD
                      refine z_backQ hQQ ?_
                      have hP9 := hP
                      have hD9 := hD
                      have hK9 := hK.sub (tys' := []) [] rfl
                      refine W.widen (k := 0) (n := 0) (Nat.le_of_ble_eq_true rfl) (Nat.le_of_ble_eq_true rfl) ?_
                      exact W.vret hx hb hr (fun t ht hW => ⟨⟨(), rfl, trivial, ⟨z_166, 4, 5, v_4, (by first | omega | decide), (by decide), hF_5, (show mnx.toInt ≤ z_166.toInt ∧ z_166.toInt ≤ mst.toInt by omega), (show (4 : Int) ≤ 8 * (z_166.toInt - mnx.toInt) by omega), (show v_4.toInt ≤ z_166.toInt by omega), (show z_tk8 (4 : Int) z_166.toInt v_4.toInt from fun h9 => by omega), (show z_tkw (5 : Int) (4 : Int) from fun h9 h8 h7 => by omega), by rw [ht]; exact hP9, va_K.moved hW.alike hK9, hD9⟩⟩, hS.F ht⟩) hS.2.2 dX12_take_342
              · have k_168 : (0 : Int) > (r_144).toInt := z_nle c_147
                obtain rfl : r_144 = (-1) := z_eq' (show (r_144).toInt = (-1 : Int) by omega)
                refine lv_iconst (v := 5) hx hb dX12_take_300 (by decide) ?_
                refine lv_goto (tgt := 305) hx hb dX12_take_301 (by decide) ?_
                refine va_put (D := (dC, dI)) (ci := 12) (v := .int 5) (ty := .int) (C := RX12) (T := TX12) (N := 70) hx hb hts hiX12 tyX12 tyX12_ok nmX12 hown hK hP hD hS 0 rfl rfl 32 (by decide) w__fieldLink_RX12_221_ShellHeapModel_kindNow_I_ (fun _ h9 => h9) rfl (by decide +kernel) rfl rfl (Nat.le_of_ble_eq_true rfl) dX12_take_305 (fun H_170 locs hP hD hS => ?_)
                obtain ⟨hP, hD⟩ := z_s_0_32 hP hD
                refine lv_aload_n hx hb dX12_take_308 rfl (lv_at hl 1 rfl) ?_
                refine va_get (D := (dC, dI)) (ci := 12) (v := .int (-1)) (C := RX12) (T := TX12) (N := 70) hx hb hts hiX12 hown hK hP 0 rfl rfl 33 (by decide) w__fieldLink_RX12_214_ShellHeapModel_which_I_ (fun _ h9 => h9) rfl dX12_take_309 ?_
                refine lv_iconst (v := 2) hx hb dX12_take_312 (by decide) ?_
                refine lv_icmp_eq (tgt := 332) hx hb dX12_take_313 (by decide) (fun c_171 => absurd c_171 (by decide)) (fun _ => ?_)
                refine lv_aload_n hx hb dX12_take_316 rfl (lv_at hl 1 rfl) ?_
                refine va_get (D := (dC, dI)) (ci := 12) (v := .int (-1)) (C := RX12) (T := TX12) (N := 70) hx hb hts hiX12 hown hK hP 0 rfl rfl 33 (by decide) w__fieldLink_RX12_214_ShellHeapModel_which_I_ (fun _ h9 => h9) rfl dX12_take_317 ?_
                refine lv_iconst (v := 4) hx hb dX12_take_320 (by decide) ?_
                refine lv_icmp_eq (tgt := 332) hx hb dX12_take_321 (by decide) (fun c_172 => absurd c_172 (by decide)) (fun _ => ?_)
                refine lv_aload_n hx hb dX12_take_324 rfl (lv_at hl 1 rfl) ?_
                refine va_get (D := (dC, dI)) (ci := 12) (v := .int (-1)) (C := RX12) (T := TX12) (N := 70) hx hb hts hiX12 hown hK hP 0 rfl rfl 33 (by decide) w__fieldLink_RX12_214_ShellHeapModel_which_I_ (fun _ h9 => h9) rfl dX12_take_325 ?_
                refine lv_iconst (v := 5) hx hb dX12_take_328 (by decide) ?_
                refine lv_icmp_ne (tgt := 342) hx hb dX12_take_329 (by decide) (fun _ => ?_) (fun c_173 => absurd c_173 (by decide))
                refine z_backQ hQQ ?_
                have hP9 := hP
                have hD9 := hD
                have hK9 := hK.sub (tys' := []) [] rfl
                refine W.widen (k := 0) (n := 0) (Nat.le_of_ble_eq_true rfl) (Nat.le_of_ble_eq_true rfl) ?_
                exact W.vret hx hb hr (fun t ht hW => ⟨⟨(), rfl, trivial, ⟨z_141, 5, (-1), v_4, (by first | omega | decide), (by decide), hF_5, (show mnx.toInt ≤ z_141.toInt ∧ z_141.toInt ≤ mst.toInt by omega), (show (5 : Int) ≤ 8 * (z_141.toInt - mnx.toInt) by omega), (show v_4.toInt ≤ z_141.toInt by omega), (show z_tk8 (5 : Int) z_141.toInt v_4.toInt from fun h9 => by omega), (show z_tkw (-1 : Int) (5 : Int) from fun h9 h8 h7 => by omega), by rw [ht]; exact hP9, va_K.moved hW.alike hK9, hD9⟩⟩, hS.F ht⟩) hS.2.2 dX12_take_342
        · have k_174 : (v_4).toInt = (mst).toInt := z_eq c_10
          refine lv_aload_n hx hb dX12_take_71 rfl (lv_at hl 0 rfl) ?_
          refine lv_iconst (v := 0) hx hb dX12_take_72 (by decide) ?_
          refine va_put (D := (dC, dI)) (ci := 12) (v := .int 0) (ty := .int) (C := RX12) (T := TX12) (N := 70) hx hb hts hiX12 tyX12 tyX12_ok nmX12 hown hK hP hD hS 0 rfl rfl 32 (by decide) w__fieldLink_RX12_221_ShellHeapModel_kindNow_I_ (fun _ h9 => h9) rfl (by decide +kernel) rfl rfl (Nat.le_of_ble_eq_true rfl) dX12_take_73 (fun H_175 locs hP hD hS => ?_)
          obtain ⟨hP, hD⟩ := z_s_0_32 hP hD
          refine lv_goto (tgt := 342) hx hb dX12_take_76 (by decide) ?_
          refine z_backQ hQQ ?_
          have hP9 := hP
          have hD9 := hD
          have hK9 := hK.sub (tys' := []) [] rfl
          refine W.widen (k := 0) (n := 0) (Nat.le_of_ble_eq_true rfl) (Nat.le_of_ble_eq_true rfl) ?_
          exact W.vret hx hb hr (fun t ht hW => ⟨⟨(), rfl, trivial, ⟨v_4, 0, mwh, v_4, hF_5, (by decide), hF_5, (show mnx.toInt ≤ v_4.toInt ∧ v_4.toInt ≤ mst.toInt by omega), (show (0 : Int) ≤ 8 * (v_4.toInt - mnx.toInt) by omega), (show v_4.toInt ≤ v_4.toInt by omega), (show z_tk8 (0 : Int) v_4.toInt v_4.toInt from fun h9 => by omega), (show z_tkw mwh.toInt (0 : Int) from fun h9 h8 h7 => by omega), by rw [ht]; exact hP9, va_K.moved hW.alike hK9, hD9⟩⟩, hS.F ht⟩) hS.2.2 dX12_take_342
      · have k_176 : (mst).toInt > (v_4).toInt := z_nle c_7
        refine lv_aload_n hx hb dX12_take_11 rfl (lv_at hl 0 rfl) ?_
        refine va_get (D := (dC, dI)) (ci := 12) (v := .ref a_te) (C := RX12) (T := TX12) (N := 70) hx hb hts hiX12 hown hK hP 0 rfl rfl 0 (by decide) w__fieldLink_RX12_7_ShellHeapModel_tape_I_ (fun _ h9 => h9) rfl dX12_take_12 ?_
        refine lv_aload_n hx hb dX12_take_15 rfl (lv_at hl 0 rfl) ?_
        refine va_get (D := (dC, dI)) (ci := 12) (v := .int v_4) (C := RX12) (T := TX12) (N := 70) hx hb hts hiX12 hown hK hP 0 rfl rfl 31 (by decide) w__fieldLink_RX12_207_ShellHeapModel_next_I_ (fun _ h9 => h9) rfl dX12_take_16 ?_
        refine va_iald hx hb hK hP 1 0 rfl rfl (z_vpin (by omega) (by omega)) dX12_take_19 ?_
        refine lv_topi (fun z_177 ez_177 => ?_)
        have kz_177 : ((0 : Int) ≤ (z_177).toInt ∧ (z_177).toInt ≤ (255 : Int)) := by rw [ez_177]; exact hI_a_te _
        refine lv_bipush (v := 10) hx hb dX12_take_20 (by decide) ?_
        refine lv_icmp_eq (tgt := 39) hx hb dX12_take_22 (by decide) (fun c_178 => ?_) (fun c_178 => ?_)
        · have k_179 : (z_177).toInt = (10 : Int) := z_eq c_178
          obtain rfl : z_177 = 10 := z_eq' (show (z_177).toInt = (10 : Int) by omega)
          refine lv_aload_n hx hb dX12_take_39 rfl (lv_at hl 0 rfl) ?_
          refine lv_dup hx hb dX12_take_40 rfl ?_
          refine va_get (D := (dC, dI)) (ci := 12) (v := .int v_4) (C := RX12) (T := TX12) (N := 70) hx hb hts hiX12 hown hK hP 0 rfl rfl 31 (by decide) w__fieldLink_RX12_207_ShellHeapModel_next_I_ (fun _ h9 => h9) rfl dX12_take_41 ?_
          refine lv_iconst (v := 1) hx hb dX12_take_44 (by decide) ?_
          refine lv_iadd hx hb dX12_take_45 ?_
          refine lv_topi (fun z_181 ez_181 => ?_)
          have kz_181 : (z_181).toInt = (v_4).toInt + (1 : Int) := by rw [ez_181]; exact z_add (a := (v_4).toInt) (b := (1 : Int)) rfl rfl (z_al hF_5.1 (by decide)) (z_ah hF_5.2 (by decide))
          refine va_put (D := (dC, dI)) (ci := 12) (v := .int z_181) (ty := .int) (C := RX12) (T := TX12) (N := 70) hx hb hts hiX12 tyX12 tyX12_ok nmX12 hown hK hP hD hS 0 rfl rfl 31 (by decide) w__fieldLink_RX12_207_ShellHeapModel_next_I_ (fun _ h9 => h9) rfl (by decide +kernel) rfl rfl (Nat.le_of_ble_eq_true rfl) dX12_take_46 (fun H_182 locs hP hD hS => ?_)
          obtain ⟨hP, hD⟩ := z_s_0_31 hP hD
          refine lv_goto (tgt := 0) hx hb dX12_take_49 (by decide) ?_
          exact ih_3 z_181 _ _ _ (show (701 - (z_181).toInt).toNat < n_2 by omega) (show ((0 : Int) ≤ (z_181).toInt ∧ (z_181).toInt ≤ (700 : Int)) by omega) (show (mnx).toInt ≤ (z_181).toInt ∧ (z_181).toInt ≤ (mst).toInt by omega) hP hD hS (lv_sub hl [0, 1] rfl)
        · have k_183 : (z_177).toInt ≠ (10 : Int) := z_ne c_178
          refine lv_aload_n hx hb dX12_take_25 rfl (lv_at hl 0 rfl) ?_
          refine va_get (D := (dC, dI)) (ci := 12) (v := .ref a_te) (C := RX12) (T := TX12) (N := 70) hx hb hts hiX12 hown hK hP 0 rfl rfl 0 (by decide) w__fieldLink_RX12_7_ShellHeapModel_tape_I_ (fun _ h9 => h9) rfl dX12_take_26 ?_
          refine lv_aload_n hx hb dX12_take_29 rfl (lv_at hl 0 rfl) ?_
          refine va_get (D := (dC, dI)) (ci := 12) (v := .int v_4) (C := RX12) (T := TX12) (N := 70) hx hb hts hiX12 hown hK hP 0 rfl rfl 31 (by decide) w__fieldLink_RX12_207_ShellHeapModel_next_I_ (fun _ h9 => h9) rfl dX12_take_30 ?_
          refine va_iald hx hb hK hP 1 0 rfl rfl (z_vpin (by omega) (by omega)) dX12_take_33 ?_
          refine lv_topi (fun z_184 ez_184 => ?_)
          have kz_184 : ((0 : Int) ≤ (z_184).toInt ∧ (z_184).toInt ≤ (255 : Int)) := by rw [ez_184]; exact hI_a_te _
          refine lv_bipush (v := 32) hx hb dX12_take_34 (by decide) ?_
          refine lv_icmp_ne (tgt := 52) hx hb dX12_take_36 (by decide) (fun c_185 => ?_) (fun c_185 => ?_)
          · have k_186 : (z_184).toInt ≠ (32 : Int) := z_ne c_185
            refine lv_aload_n hx hb dX12_take_52 rfl (lv_at hl 0 rfl) ?_
            refine lv_aload_n hx hb dX12_take_53 rfl (lv_at hl 0 rfl) ?_
            refine va_get (D := (dC, dI)) (ci := 12) (v := .int v_4) (C := RX12) (T := TX12) (N := 70) hx hb hts hiX12 hown hK hP 0 rfl rfl 31 (by decide) w__fieldLink_RX12_207_ShellHeapModel_next_I_ (fun _ h9 => h9) rfl dX12_take_54 ?_
            refine va_put (D := (dC, dI)) (ci := 12) (v := .int v_4) (ty := .int) (C := RX12) (T := TX12) (N := 70) hx hb hts hiX12 tyX12 tyX12_ok nmX12 hown hK hP hD hS 0 rfl rfl 34 (by decide) w__fieldLink_RX12_201_ShellHeapModel_place_I_ (fun _ h9 => h9) rfl (by decide +kernel) rfl rfl (Nat.le_of_ble_eq_true rfl) dX12_take_57 (fun H_187 locs hP hD hS => ?_)
            obtain ⟨hP, hD⟩ := z_s_0_34 hP hD
            refine lv_aload_n hx hb dX12_take_60 rfl (lv_at hl 0 rfl) ?_
            refine va_get (D := (dC, dI)) (ci := 12) (v := .int v_4) (C := RX12) (T := TX12) (N := 70) hx hb hts hiX12 hown hK hP 0 rfl rfl 31 (by decide) w__fieldLink_RX12_207_ShellHeapModel_next_I_ (fun _ h9 => h9) rfl dX12_take_61 ?_
            refine lv_aload_n hx hb dX12_take_64 rfl (lv_at hl 0 rfl) ?_
            refine va_get (D := (dC, dI)) (ci := 12) (v := .int mst) (C := RX12) (T := TX12) (N := 70) hx hb hts hiX12 hown hK hP 0 rfl rfl 30 (by decide) w__fieldLink_RX12_204_ShellHeapModel_stop_I_ (fun _ h9 => h9) rfl dX12_take_65 ?_
            refine lv_icmp_ne (tgt := 79) hx hb dX12_take_68 (by decide) (fun c_188 => ?_) (fun c_188 => ?_)
            · have k_189 : (v_4).toInt ≠ (mst).toInt := z_ne c_188
              refine lv_aload_n hx hb dX12_take_79 rfl (lv_at hl 0 rfl) ?_
              refine lv_aload_n hx hb dX12_take_80 rfl (lv_at hl 0 rfl) ?_
              refine va_get (D := (dC, dI)) (ci := 12) (v := .int v_4) (C := RX12) (T := TX12) (N := 70) hx hb hts hiX12 hown hK hP 0 rfl rfl 31 (by decide) w__fieldLink_RX12_207_ShellHeapModel_next_I_ (fun _ h9 => h9) rfl dX12_take_81 ?_
              obtain ⟨hPc, hDc⟩ := z_sub2 (ws' := [(h0, .inr (12, [.ref a_te, h0_1, h0_2, h0_3, h0_4, h0_5, h0_6, h0_7, h0_8, h0_9, h0_10, h0_11, h0_12, h0_13, h0_14, h0_15, h0_16, h0_17, h0_18, h0_19, h0_20, h0_21, h0_22, h0_23, h0_24, h0_25, h0_26, .ref a_wd, .int mf, .int mfp, .int mst, .int v_4, .int mkd, .int mwh, .int v_4, h0_35, h0_36, h0_37, h0_38, h0_39, h0_40, h0_41, h0_42, h0_43, h0_44, h0_45, h0_46, h0_47, h0_48, h0_49, h0_50, h0_51, h0_52, h0_53, h0_54, h0_55, h0_56, h0_57, h0_58, h0_59, h0_60, h0_61, h0_62, h0_63, h0_64, h0_65, h0_66, h0_67, h0_68, h0_69])), (a_te, .inl (ca_te, 700, .inl fa_te))]) hP hD [0, 1] (by decide) rfl
              have hKc := hK.sub (tys' := [(ca_te, .int)]) [0] rfl
              have hFc := va_free (ws := []) (wc := []) (z_D0 _) hS hA [] rfl
              refine va_calli (va_runV (As := [.int v_4]) (rest := []) ⟨hx, hb, hml, hown, hts⟩ (s_X12_isSmall l dC dI H_187.size h0 v_4 a_te h0_1 h0_2 h0_3 h0_4 h0_5 h0_6 h0_7 h0_8 h0_9 h0_10 h0_11 h0_12 h0_13 h0_14 h0_15 h0_16 h0_17 h0_18 h0_19 h0_20 h0_21 h0_22 h0_23 h0_24 h0_25 h0_26 a_wd mf mfp mst v_4 mkd mwh v_4 h0_35 h0_36 h0_37 h0_38 h0_39 h0_40 h0_41 h0_42 h0_43 h0_44 h0_45 h0_46 h0_47 h0_48 h0_49 h0_50 h0_51 h0_52 h0_53 h0_54 h0_55 h0_56 h0_57 h0_58 h0_59 h0_60 h0_61 h0_62 h0_63 h0_64 h0_65 h0_66 h0_67 h0_68 h0_69 ca_te fa_te hB_mst hF_5 hB_mkd hF_5 hF_5 hI_a_te) (cwV 1 hts gw_s_X12_take_f_s_X12_isSmall_224 rfl rfl rfl (by decide +kernel) ⟨Nat.le_of_ble_eq_true rfl, Nat.le_of_ble_eq_true rfl⟩) ⟨z_blind, va_recv hKc hPc (ci := 12) (q0 := 0) rfl rfl, z_pre hPc hKc hDc⟩ rfl rfl hl.1 rfl (lv_room (Nat.le_of_ble_eq_true rfl)) dX12_take_84 ⟨Nat.le_of_ble_eq_true rfl, Nat.le_of_ble_eq_true rfl⟩) hS (fun q _ h => hFc q h) hFc (fun r_191 u t H_190 locs ht hvm hw_192 hB hz1 hk1 hS => ?_)
              replace hP := z_pure hP hk1
              clear hPc hDc hKc
              rcases hw_192 with ⟨rfl, hw_192⟩ | ⟨rfl, hw_192⟩
              · have hw_192 : (v_4.toInt < mst.toInt ∧ 97 ≤ (fa_te v_4.toNatClampNeg).toInt ∧ (fa_te v_4.toNatClampNeg).toInt ≤ 122) := hw_192
                refine lv_if_eq (tgt := 240) hx hb dX12_take_87 (by decide) (fun c_193 => absurd c_193 (by decide)) (fun _ => ?_)
                have loop_194 : ∀ (n_195 : Nat) (v_197 : Int32) (H : Heap) (locs : List Loc) (ls : Array Slot), (701 - (v_197).toInt).toNat < n_195 → (((0 : Int) ≤ (v_197).toInt ∧ (v_197).toInt ≤ (700 : Int))) → ((mnx).toInt ≤ (v_197).toInt ∧ (v_197).toInt ≤ (mst).toInt) → ((v_4).toInt ≤ (v_197).toInt) → ((mnx).toInt + 1 ≤ (v_197).toInt ∨ ((v_197).toInt < (mst).toInt ∧ 97 ≤ (fa_te (v_197 : Int32).toNatClampNeg).toInt ∧ (fa_te (v_197 : Int32).toNatClampNeg).toInt ≤ 122)) → va_P (dC, dI) vwCl [(h0, .inr (12, [.ref a_te, h0_1, h0_2, h0_3, h0_4, h0_5, h0_6, h0_7, h0_8, h0_9, h0_10, h0_11, h0_12, h0_13, h0_14, h0_15, h0_16, h0_17, h0_18, h0_19, h0_20, h0_21, h0_22, h0_23, h0_24, h0_25, h0_26, .ref a_wd, .int mf, .int mfp, .int mst, .int v_197, .int mkd, .int mwh, .int v_4, h0_35, h0_36, h0_37, h0_38, h0_39, h0_40, h0_41, h0_42, h0_43, h0_44, h0_45, h0_46, h0_47, h0_48, h0_49, h0_50, h0_51, h0_52, h0_53, h0_54, h0_55, h0_56, h0_57, h0_58, h0_59, h0_60, h0_61, h0_62, h0_63, h0_64, h0_65, h0_66, h0_67, h0_68, h0_69])), (a_te, .inl (ca_te, 700, .inl fa_te)), (a_wd, .inl (ca_wd, 115, .inl fa_wd))] H → va_D A [(h0, .inr (12, [.ref a_te, h0_1, h0_2, h0_3, h0_4, h0_5, h0_6, h0_7, h0_8, h0_9, h0_10, h0_11, h0_12, h0_13, h0_14, h0_15, h0_16, h0_17, h0_18, h0_19, h0_20, h0_21, h0_22, h0_23, h0_24, h0_25, h0_26, .ref a_wd, .int mf, .int mfp, .int mst, .int v_197, .int mkd, .int mwh, .int v_4, h0_35, h0_36, h0_37, h0_38, h0_39, h0_40, h0_41, h0_42, h0_43, h0_44, h0_45, h0_46, h0_47, h0_48, h0_49, h0_50, h0_51, h0_52, h0_53, h0_54, h0_55, h0_56, h0_57, h0_58, h0_59, h0_60, h0_61, h0_62, h0_63, h0_64, h0_65, h0_66, h0_67, h0_68, h0_69])), (a_te, .inl (ca_te, 700, .inl fa_te)), (a_wd, .inl (ca_wd, 115, .inl fa_wd))] → va_S A s.heap H locs → lv_has ls 3 [(0, .ref h0), (1, .int 1)] → W p l e ({ frames := 2, cells := 0, slots := 0, locals := 43 } : Room) s m ([.ref h0, .int 1] : List Value).toArray below meth c H locs 0 0 QQ (F0 m 90 ls []) := by
                  intro n_195
                  induction n_195 with
                  | zero => intro v_197 H locs ls hm; exact absurd hm (Nat.not_lt_zero _)
                  | succ n_195 ih_196 =>
                    intro v_197 H locs ls hm hF_198 hF_199 hF_200 hF_201 hP hD hS hl
                    refine lv_aload_n hx hb dX12_take_90 rfl (lv_at hl 0 rfl) ?_
                    refine lv_aload_n hx hb dX12_take_91 rfl (lv_at hl 0 rfl) ?_
                    refine va_get (D := (dC, dI)) (ci := 12) (v := .int v_197) (C := RX12) (T := TX12) (N := 70) hx hb hts hiX12 hown hK hP 0 rfl rfl 31 (by decide) w__fieldLink_RX12_207_ShellHeapModel_next_I_ (fun _ h9 => h9) rfl dX12_take_92 ?_
                    obtain ⟨hPc, hDc⟩ := z_sub2 (ws' := [(h0, .inr (12, [.ref a_te, h0_1, h0_2, h0_3, h0_4, h0_5, h0_6, h0_7, h0_8, h0_9, h0_10, h0_11, h0_12, h0_13, h0_14, h0_15, h0_16, h0_17, h0_18, h0_19, h0_20, h0_21, h0_22, h0_23, h0_24, h0_25, h0_26, .ref a_wd, .int mf, .int mfp, .int mst, .int v_197, .int mkd, .int mwh, .int v_4, h0_35, h0_36, h0_37, h0_38, h0_39, h0_40, h0_41, h0_42, h0_43, h0_44, h0_45, h0_46, h0_47, h0_48, h0_49, h0_50, h0_51, h0_52, h0_53, h0_54, h0_55, h0_56, h0_57, h0_58, h0_59, h0_60, h0_61, h0_62, h0_63, h0_64, h0_65, h0_66, h0_67, h0_68, h0_69])), (a_te, .inl (ca_te, 700, .inl fa_te))]) hP hD [0, 1] (by decide) rfl
                    have hKc := hK.sub (tys' := [(ca_te, .int)]) [0] rfl
                    have hFc := va_free (ws := []) (wc := []) (z_D0 _) hS hA [] rfl
                    refine va_calli (va_runV (As := [.int v_197]) (rest := []) ⟨hx, hb, hml, hown, hts⟩ (s_X12_isSmall l dC dI H.size h0 v_197 a_te h0_1 h0_2 h0_3 h0_4 h0_5 h0_6 h0_7 h0_8 h0_9 h0_10 h0_11 h0_12 h0_13 h0_14 h0_15 h0_16 h0_17 h0_18 h0_19 h0_20 h0_21 h0_22 h0_23 h0_24 h0_25 h0_26 a_wd mf mfp mst v_197 mkd mwh v_4 h0_35 h0_36 h0_37 h0_38 h0_39 h0_40 h0_41 h0_42 h0_43 h0_44 h0_45 h0_46 h0_47 h0_48 h0_49 h0_50 h0_51 h0_52 h0_53 h0_54 h0_55 h0_56 h0_57 h0_58 h0_59 h0_60 h0_61 h0_62 h0_63 h0_64 h0_65 h0_66 h0_67 h0_68 h0_69 ca_te fa_te hB_mst hF_198 hB_mkd hF_5 hF_198 hI_a_te) (cwV 1 hts gw_s_X12_take_f_s_X12_isSmall_224 rfl rfl rfl (by decide +kernel) ⟨Nat.le_of_ble_eq_true rfl, Nat.le_of_ble_eq_true rfl⟩) ⟨z_blind, va_recv hKc hPc (ci := 12) (q0 := 0) rfl rfl, z_pre hPc hKc hDc⟩ rfl rfl hl.1 rfl (lv_room (Nat.le_of_ble_eq_true rfl)) dX12_take_95 ⟨Nat.le_of_ble_eq_true rfl, Nat.le_of_ble_eq_true rfl⟩) hS (fun q _ h => hFc q h) hFc (fun r_203 u t H_202 locs ht hvm hw_204 hB hz1 hk1 hS => ?_)
                    replace hP := z_pure hP hk1
                    clear hPc hDc hKc
                    rcases hw_204 with ⟨rfl, hw_204⟩ | ⟨rfl, hw_204⟩
                    · have hw_204 : (v_197.toInt < mst.toInt ∧ 97 ≤ (fa_te v_197.toNatClampNeg).toInt ∧ (fa_te v_197.toNatClampNeg).toInt ≤ 122) := hw_204
                      refine lv_if_eq (tgt := 114) hx hb dX12_take_98 (by decide) (fun c_205 => absurd c_205 (by decide)) (fun _ => ?_)
                      refine lv_aload_n hx hb dX12_take_101 rfl (lv_at hl 0 rfl) ?_
                      refine lv_dup hx hb dX12_take_102 rfl ?_
                      refine va_get (D := (dC, dI)) (ci := 12) (v := .int v_197) (C := RX12) (T := TX12) (N := 70) hx hb hts hiX12 hown hK hP 0 rfl rfl 31 (by decide) w__fieldLink_RX12_207_ShellHeapModel_next_I_ (fun _ h9 => h9) rfl dX12_take_103 ?_
                      refine lv_iconst (v := 1) hx hb dX12_take_106 (by decide) ?_
                      refine lv_iadd hx hb dX12_take_107 ?_
                      refine lv_topi (fun z_206 ez_206 => ?_)
                      have kz_206 : (z_206).toInt = (v_197).toInt + (1 : Int) := by rw [ez_206]; exact z_add (a := (v_197).toInt) (b := (1 : Int)) rfl rfl (z_al hF_198.1 (by decide)) (z_ah hF_198.2 (by decide))
                      refine va_put (D := (dC, dI)) (ci := 12) (v := .int z_206) (ty := .int) (C := RX12) (T := TX12) (N := 70) hx hb hts hiX12 tyX12 tyX12_ok nmX12 hown hK hP hD hS 0 rfl rfl 31 (by decide) w__fieldLink_RX12_207_ShellHeapModel_next_I_ (fun _ h9 => h9) rfl (by decide +kernel) rfl rfl (Nat.le_of_ble_eq_true rfl) dX12_take_108 (fun H_207 locs hP hD hS => ?_)
                      obtain ⟨hP, hD⟩ := z_s_0_31 hP hD
                      refine lv_goto (tgt := 90) hx hb dX12_take_111 (by decide) ?_
                      exact ih_196 z_206 _ _ _ (show (701 - (z_206).toInt).toNat < n_195 by omega) (show ((0 : Int) ≤ (z_206).toInt ∧ (z_206).toInt ≤ (700 : Int)) by omega) (show (mnx).toInt ≤ (z_206).toInt ∧ (z_206).toInt ≤ (mst).toInt by omega) (show (v_4).toInt ≤ (z_206).toInt by omega) (show (mnx).toInt + 1 ≤ (z_206).toInt ∨ ((z_206).toInt < (mst).toInt ∧ 97 ≤ (fa_te (z_206 : Int32).toNatClampNeg).toInt ∧ (fa_te (z_206 : Int32).toNatClampNeg).toInt ≤ 122) by omega) hP hD hS (lv_sub hl [0, 1] rfl)
                    · have hw_204 : ¬ (v_197.toInt < mst.toInt ∧ 97 ≤ (fa_te v_197.toNatClampNeg).toInt ∧ (fa_te v_197.toNatClampNeg).toInt ≤ 122) := hw_204
                      refine lv_if_eq (tgt := 114) hx hb dX12_take_98 (by decide) (fun _ => ?_) (fun c_208 => absurd (by decide) c_208)
                      refine lv_aload_n hx hb dX12_take_114 rfl (lv_at hl 0 rfl) ?_
                      refine va_get (D := (dC, dI)) (ci := 12) (v := .int v_197) (C := RX12) (T := TX12) (N := 70) hx hb hts hiX12 hown hK hP 0 rfl rfl 31 (by decide) w__fieldLink_RX12_207_ShellHeapModel_next_I_ (fun _ h9 => h9) rfl dX12_take_115 ?_
                      refine lv_aload_n hx hb dX12_take_118 rfl (lv_at hl 0 rfl) ?_
                      refine va_get (D := (dC, dI)) (ci := 12) (v := .int v_4) (C := RX12) (T := TX12) (N := 70) hx hb hts hiX12 hown hK hP 0 rfl rfl 34 (by decide) w__fieldLink_RX12_201_ShellHeapModel_place_I_ (fun _ h9 => h9) rfl dX12_take_119 ?_
                      refine lv_isub hx hb dX12_take_122 ?_
                      refine lv_topi (fun z_209 ez_209 => ?_)
                      have kz_209 : (z_209).toInt = (v_197).toInt - (v_4).toInt := by rw [ez_209]; exact z_sub (a := (v_197).toInt) (b := (v_4).toInt) rfl rfl (by omega) (by omega)
                      refine lv_istore_n (lv' := [(2, .int z_209), (0, .ref h0), (1, .int 1)]) hx hb dX12_take_123 rfl hl (by decide) rfl (fun ls hl => ?_)
                      refine lv_aload_n hx hb dX12_take_124 rfl (lv_at hl 1 rfl) ?_
                      refine lv_aload_n hx hb dX12_take_125 rfl (lv_at hl 1 rfl) ?_
                      refine lv_aload_n hx hb dX12_take_126 rfl (lv_at hl 1 rfl) ?_
                      refine va_get (D := (dC, dI)) (ci := 12) (v := .int v_4) (C := RX12) (T := TX12) (N := 70) hx hb hts hiX12 hown hK hP 0 rfl rfl 34 (by decide) w__fieldLink_RX12_201_ShellHeapModel_place_I_ (fun _ h9 => h9) rfl dX12_take_127 ?_
                      refine lv_aload_n hx hb dX12_take_130 rfl (lv_at hl 1 rfl) ?_
                      refine va_get (D := (dC, dI)) (ci := 12) (v := .int v_197) (C := RX12) (T := TX12) (N := 70) hx hb hts hiX12 hown hK hP 0 rfl rfl 31 (by decide) w__fieldLink_RX12_207_ShellHeapModel_next_I_ (fun _ h9 => h9) rfl dX12_take_131 ?_
                      have hPc := hP
                      have hDc := hD
                      have hKc := hK
                      have hFc := va_free (ws := []) (wc := []) (z_D0 _) hS hA [] rfl
                      refine va_calli (va_runV (As := [.int v_4, .int v_197]) (rest := [.ref h0]) ⟨hx, hb, hml, hown, hts⟩ (s_X12_wordAt l dC dI H_202.size h0 v_4 v_197 a_te h0_1 h0_2 h0_3 h0_4 h0_5 h0_6 h0_7 h0_8 h0_9 h0_10 h0_11 h0_12 h0_13 h0_14 h0_15 h0_16 h0_17 h0_18 h0_19 h0_20 h0_21 h0_22 h0_23 h0_24 h0_25 h0_26 a_wd mf mfp mst v_197 mkd mwh v_4 h0_35 h0_36 h0_37 h0_38 h0_39 h0_40 h0_41 h0_42 h0_43 h0_44 h0_45 h0_46 h0_47 h0_48 h0_49 h0_50 h0_51 h0_52 h0_53 h0_54 h0_55 h0_56 h0_57 h0_58 h0_59 h0_60 h0_61 h0_62 h0_63 h0_64 h0_65 h0_66 h0_67 h0_68 h0_69 ca_te fa_te ca_wd fa_wd hF_5 hF_198 hI_a_te hWD (by first | omega | decide)) (cwV 2 hts gw_s_X12_take_f_s_X12_wordAt_227 rfl rfl rfl (by decide +kernel) ⟨Nat.le_of_ble_eq_true rfl, Nat.le_of_ble_eq_true rfl⟩) ⟨z_blind, va_recv hKc hPc (ci := 12) (q0 := 0) rfl rfl, z_pre hPc hKc hDc⟩ rfl rfl hl.1 rfl (lv_room (Nat.le_of_ble_eq_true rfl)) dX12_take_134 ⟨Nat.le_of_ble_eq_true rfl, Nat.le_of_ble_eq_true rfl⟩) hS (fun q _ h => hFc q h) hFc (fun r_211 u t H_210 locs ht hvm hw_212 hB hz1 hk1 hS => ?_)
                      replace hP := z_pure hP hk1
                      clear hPc hDc hKc
                      refine va_put (D := (dC, dI)) (ci := 12) (v := .int r_211) (ty := .int) (C := RX12) (T := TX12) (N := 70) hx hb hts hiX12 tyX12 tyX12_ok nmX12 hown hK hP hD hS 0 rfl rfl 33 (by decide) w__fieldLink_RX12_214_ShellHeapModel_which_I_ (fun _ h9 => h9) rfl (by decide +kernel) rfl rfl (Nat.le_of_ble_eq_true rfl) dX12_take_137 (fun H_213 locs hP hD hS => ?_)
                      obtain ⟨hP, hD⟩ := z_s_0_33 hP hD
                      refine lv_aload_n hx hb dX12_take_140 rfl (lv_at hl 1 rfl) ?_
                      refine lv_aload_n hx hb dX12_take_141 rfl (lv_at hl 1 rfl) ?_
                      refine va_get (D := (dC, dI)) (ci := 12) (v := .int r_211) (C := RX12) (T := TX12) (N := 70) hx hb hts hiX12 hown hK hP 0 rfl rfl 33 (by decide) w__fieldLink_RX12_214_ShellHeapModel_which_I_ (fun _ h9 => h9) rfl dX12_take_142 ?_
                      refine lv_if_lt (tgt := 152) hx hb dX12_take_145 (by decide) (fun c_214 => ?_) (fun c_214 => ?_)
                      · have k_215 : (r_211).toInt < (0 : Int) := z_lt c_214
                        obtain rfl : r_211 = (-1) := z_eq' (show (r_211).toInt = (-1 : Int) by omega)
                        refine lv_iload_n hx hb dX12_take_152 rfl (lv_at hl 0 rfl) ?_
                        refine lv_bipush (v := 8) hx hb dX12_take_153 (by decide) ?_
                        refine lv_icmp_le (tgt := 162) hx hb dX12_take_155 (by decide) (fun c_217 => ?_) (fun c_217 => ?_)
                        · have k_218 : (z_209).toInt ≤ (8 : Int) := z_le c_217
                          refine lv_iconst (v := 2) hx hb dX12_take_162 (by decide) ?_
                          refine va_put (D := (dC, dI)) (ci := 12) (v := .int 2) (ty := .int) (C := RX12) (T := TX12) (N := 70) hx hb hts hiX12 tyX12 tyX12_ok nmX12 hown hK hP hD hS 0 rfl rfl 32 (by decide) w__fieldLink_RX12_221_ShellHeapModel_kindNow_I_ (fun _ h9 => h9) rfl (by decide +kernel) rfl rfl (Nat.le_of_ble_eq_true rfl) dX12_take_163 (fun H_219 locs hP hD hS => ?_)
                          obtain ⟨hP, hD⟩ := z_s_0_32 hP hD
                          refine lv_iload_n hx hb dX12_take_166 rfl (lv_at hl 2 rfl) ?_
                          refine lv_if_eq (tgt := 237) hx hb dX12_take_167 (by decide) (fun c_220 => absurd c_220 (by decide)) (fun _ => ?_)
                          refine lv_aload_n hx hb dX12_take_170 rfl (lv_at hl 1 rfl) ?_
                          refine lv_aload_n hx hb dX12_take_171 rfl (lv_at hl 1 rfl) ?_
                          refine va_get (D := (dC, dI)) (ci := 12) (v := .int v_197) (C := RX12) (T := TX12) (N := 70) hx hb hts hiX12 hown hK hP 0 rfl rfl 31 (by decide) w__fieldLink_RX12_207_ShellHeapModel_next_I_ (fun _ h9 => h9) rfl dX12_take_172 ?_
                          obtain ⟨hPc, hDc⟩ := z_sub2 (ws' := [(h0, .inr (12, [.ref a_te, h0_1, h0_2, h0_3, h0_4, h0_5, h0_6, h0_7, h0_8, h0_9, h0_10, h0_11, h0_12, h0_13, h0_14, h0_15, h0_16, h0_17, h0_18, h0_19, h0_20, h0_21, h0_22, h0_23, h0_24, h0_25, h0_26, .ref a_wd, .int mf, .int mfp, .int mst, .int v_197, .int 2, .int (-1), .int v_4, h0_35, h0_36, h0_37, h0_38, h0_39, h0_40, h0_41, h0_42, h0_43, h0_44, h0_45, h0_46, h0_47, h0_48, h0_49, h0_50, h0_51, h0_52, h0_53, h0_54, h0_55, h0_56, h0_57, h0_58, h0_59, h0_60, h0_61, h0_62, h0_63, h0_64, h0_65, h0_66, h0_67, h0_68, h0_69])), (a_te, .inl (ca_te, 700, .inl fa_te))]) hP hD [0, 1] (by decide) rfl
                          have hKc := hK.sub (tys' := [(ca_te, .int)]) [0] rfl
                          have hFc := va_free (ws := []) (wc := []) (z_D0 _) hS hA [] rfl
                          refine va_calli (va_runV (As := [.int v_197]) (rest := []) ⟨hx, hb, hml, hown, hts⟩ (s_X12_isDigit l dC dI H_219.size h0 v_197 a_te h0_1 h0_2 h0_3 h0_4 h0_5 h0_6 h0_7 h0_8 h0_9 h0_10 h0_11 h0_12 h0_13 h0_14 h0_15 h0_16 h0_17 h0_18 h0_19 h0_20 h0_21 h0_22 h0_23 h0_24 h0_25 h0_26 a_wd mf mfp mst v_197 2 (-1) v_4 h0_35 h0_36 h0_37 h0_38 h0_39 h0_40 h0_41 h0_42 h0_43 h0_44 h0_45 h0_46 h0_47 h0_48 h0_49 h0_50 h0_51 h0_52 h0_53 h0_54 h0_55 h0_56 h0_57 h0_58 h0_59 h0_60 h0_61 h0_62 h0_63 h0_64 h0_65 h0_66 h0_67 h0_68 h0_69 ca_te fa_te hB_mst hF_198 (by decide) hF_5 hF_198 hI_a_te) (cwV 1 hts gw_s_X12_take_f_s_X12_isDigit_217 rfl rfl rfl (by decide +kernel) ⟨Nat.le_of_ble_eq_true rfl, Nat.le_of_ble_eq_true rfl⟩) ⟨z_blind, va_recv hKc hPc (ci := 12) (q0 := 0) rfl rfl, z_pre hPc hKc hDc⟩ rfl rfl hl.1 rfl (lv_room (Nat.le_of_ble_eq_true rfl)) dX12_take_175 ⟨Nat.le_of_ble_eq_true rfl, Nat.le_of_ble_eq_true rfl⟩) hS (fun q _ h => hFc q h) hFc (fun r_222 u t H_221 locs ht hvm hw_223 hB hz1 hk1 hS => ?_)
                          replace hP := z_pure hP hk1
                          clear hPc hDc hKc
                          rcases hw_223 with ⟨rfl, hw_223⟩ | ⟨rfl, hw_223⟩
                          · have hw_223 : (v_197.toInt < mst.toInt ∧ 48 ≤ (fa_te v_197.toNatClampNeg).toInt ∧ (fa_te v_197.toNatClampNeg).toInt ≤ 57) := hw_223
                            refine lv_if_eq (tgt := 237) hx hb dX12_take_178 (by decide) (fun c_224 => absurd c_224 (by decide)) (fun _ => ?_)
                            refine lv_aload_n hx hb dX12_take_181 rfl (lv_at hl 1 rfl) ?_
                            obtain ⟨hPc, hDc, hFc⟩ := z_sub3 (ws' := [(h0, .inr (12, [.ref a_te, h0_1, h0_2, h0_3, h0_4, h0_5, h0_6, h0_7, h0_8, h0_9, h0_10, h0_11, h0_12, h0_13, h0_14, h0_15, h0_16, h0_17, h0_18, h0_19, h0_20, h0_21, h0_22, h0_23, h0_24, h0_25, h0_26, .ref a_wd, .int mf, .int mfp, .int mst, .int v_197, .int 2, .int (-1), .int v_4, h0_35, h0_36, h0_37, h0_38, h0_39, h0_40, h0_41, h0_42, h0_43, h0_44, h0_45, h0_46, h0_47, h0_48, h0_49, h0_50, h0_51, h0_52, h0_53, h0_54, h0_55, h0_56, h0_57, h0_58, h0_59, h0_60, h0_61, h0_62, h0_63, h0_64, h0_65, h0_66, h0_67, h0_68, h0_69])), (a_te, .inl (ca_te, 700, .inl fa_te))]) hP hD hS hA [0, 1] (by decide) rfl
                            have hKc := hK.sub (tys' := [(ca_te, .int)]) [0] rfl
                            refine va_callv (va_runV (As := []) (rest := []) ⟨hx, hb, hml, hown, hts⟩ (s_X12_digits l dC dI H_221.size h0 a_te h0_1 h0_2 h0_3 h0_4 h0_5 h0_6 h0_7 h0_8 h0_9 h0_10 h0_11 h0_12 h0_13 h0_14 h0_15 h0_16 h0_17 h0_18 h0_19 h0_20 h0_21 h0_22 h0_23 h0_24 h0_25 h0_26 a_wd mf mfp mst v_197 2 (-1) v_4 h0_35 h0_36 h0_37 h0_38 h0_39 h0_40 h0_41 h0_42 h0_43 h0_44 h0_45 h0_46 h0_47 h0_48 h0_49 h0_50 h0_51 h0_52 h0_53 h0_54 h0_55 h0_56 h0_57 h0_58 h0_59 h0_60 h0_61 h0_62 h0_63 h0_64 h0_65 h0_66 h0_67 h0_68 h0_69 ca_te fa_te hB_mst hF_198 (by decide) hF_5 hI_a_te (by first | omega | decide)) (cwV 0 hts gw_s_X12_take_f_s_X12_digits_230 rfl rfl rfl (by decide +kernel) ⟨Nat.le_of_ble_eq_true rfl, Nat.le_of_ble_eq_true rfl⟩) ⟨z_blind, va_recv hKc hPc (ci := 12) (q0 := 0) rfl rfl, z_pre hPc hKc hDc⟩ rfl rfl hl.1 rfl (lv_room (Nat.le_of_ble_eq_true rfl)) dX12_take_182 ⟨Nat.le_of_ble_eq_true rfl, Nat.le_of_ble_eq_true rfl⟩) hS (fun q _ h => hFc q h) hFc (fun u t H_225 locs ht hvm hw_227 hB hz1 hk1 hS => ?_)
                            obtain ⟨n_h0_next_228, n_h0_which_229, hp_230, hp_231, hp_232, hP1, hK1, hD1⟩ := hB
                            rw [ht] at hP1
                            have hK1 := va_K.moved hvm.symm hK1
                            obtain ⟨hP, hD⟩ := z_ap_1 (va_join (wr := [(a_wd, .inl (ca_wd, 115, .inl fa_wd))]) hP hD [0, 1] [2] rfl rfl (by decide) (by decide) hk1 hFc hP1 hD1)
                            have hp_232 : v_197.toInt + 1 ≤ n_h0_next_228.toInt ∧ n_h0_next_228.toInt ≤ mst.toInt := hp_232
                            clear hPc hDc hKc
                            refine lv_aload_n hx hb dX12_take_185 rfl (lv_at hl 1 rfl) ?_
                            refine lv_iload_n hx hb dX12_take_186 rfl (lv_at hl 0 rfl) ?_
                            refine lv_iconst (v := 1) hx hb dX12_take_187 (by decide) ?_
                            refine lv_icmp_le (tgt := 195) hx hb dX12_take_188 (by decide) (fun c_233 => ?_) (fun c_233 => ?_)
                            · have k_234 : (z_209).toInt ≤ (1 : Int) := z_le c_233
                              refine lv_aload_n hx hb dX12_take_195 rfl (lv_at hl 1 rfl) ?_
                              refine va_get (D := (dC, dI)) (ci := 12) (v := .ref a_te) (C := RX12) (T := TX12) (N := 70) hx hb hts hiX12 hown hK hP 1 rfl rfl 0 (by decide) w__fieldLink_RX12_7_ShellHeapModel_tape_I_ (fun _ h9 => h9) rfl dX12_take_196 ?_
                              refine lv_aload_n hx hb dX12_take_199 rfl (lv_at hl 1 rfl) ?_
                              refine va_get (D := (dC, dI)) (ci := 12) (v := .int v_4) (C := RX12) (T := TX12) (N := 70) hx hb hts hiX12 hown hK hP 1 rfl rfl 34 (by decide) w__fieldLink_RX12_201_ShellHeapModel_place_I_ (fun _ h9 => h9) rfl dX12_take_200 ?_
                              refine va_iald hx hb hK hP 2 0 rfl rfl (z_vpin (by omega) (by omega)) dX12_take_203 ?_
                              refine lv_topi (fun z_235 ez_235 => ?_)
                              have kz_235 : ((0 : Int) ≤ (z_235).toInt ∧ (z_235).toInt ≤ (255 : Int)) := by rw [ez_235]; exact hI_a_te _
                              refine lv_bipush (v := 107) hx hb dX12_take_204 (by decide) ?_
                              refine lv_icmp_ne (tgt := 214) hx hb dX12_take_206 (by decide) (fun c_236 => ?_) (fun c_236 => ?_)
                              · have k_237 : (z_235).toInt ≠ (107 : Int) := z_ne c_236
                                refine lv_aload_n hx hb dX12_take_214 rfl (lv_at hl 1 rfl) ?_
                                refine va_get (D := (dC, dI)) (ci := 12) (v := .ref a_te) (C := RX12) (T := TX12) (N := 70) hx hb hts hiX12 hown hK hP 1 rfl rfl 0 (by decide) w__fieldLink_RX12_7_ShellHeapModel_tape_I_ (fun _ h9 => h9) rfl dX12_take_215 ?_
                                refine lv_aload_n hx hb dX12_take_218 rfl (lv_at hl 1 rfl) ?_
                                refine va_get (D := (dC, dI)) (ci := 12) (v := .int v_4) (C := RX12) (T := TX12) (N := 70) hx hb hts hiX12 hown hK hP 1 rfl rfl 34 (by decide) w__fieldLink_RX12_201_ShellHeapModel_place_I_ (fun _ h9 => h9) rfl dX12_take_219 ?_
                                refine va_iald hx hb hK hP 2 0 rfl rfl (z_vpin (by omega) (by omega)) dX12_take_222 ?_
                                refine lv_topi (fun z_238 ez_238 => ?_)
                                have kz_238 : ((0 : Int) ≤ (z_238).toInt ∧ (z_238).toInt ≤ (255 : Int)) := by rw [ez_238]; exact hI_a_te _
                                refine lv_bipush (v := 115) hx hb dX12_take_223 (by decide) ?_
                                refine lv_icmp_ne (tgt := 233) hx hb dX12_take_225 (by decide) (fun c_239 => ?_) (fun c_239 => ?_)
                                · have k_240 : (z_238).toInt ≠ (115 : Int) := z_ne c_239
                                  refine lv_iconst (v := 5) hx hb dX12_take_233 (by decide) ?_
                                  refine va_put (D := (dC, dI)) (ci := 12) (v := .int 5) (ty := .int) (C := RX12) (T := TX12) (N := 70) hx hb hts hiX12 tyX12 tyX12_ok nmX12 hown hK hP hD hS 1 rfl rfl 32 (by decide) w__fieldLink_RX12_221_ShellHeapModel_kindNow_I_ (fun _ h9 => h9) rfl (by decide +kernel) rfl rfl (Nat.le_of_ble_eq_true rfl) dX12_take_234 (fun H_241 locs hP hD hS => ?_)
                                  obtain ⟨hP, hD⟩ := z_s_1_32 hP hD
                                  refine lv_goto (tgt := 342) hx hb dX12_take_237 (by decide) ?_
                                  refine z_backQ hQQ ?_
                                  obtain ⟨hP9, hD9⟩ := z_sub2 (ws' := [(h0, .inr (12, [.ref a_te, h0_1, h0_2, h0_3, h0_4, h0_5, h0_6, h0_7, h0_8, h0_9, h0_10, h0_11, h0_12, h0_13, h0_14, h0_15, h0_16, h0_17, h0_18, h0_19, h0_20, h0_21, h0_22, h0_23, h0_24, h0_25, h0_26, .ref a_wd, .int mf, .int mfp, .int mst, .int n_h0_next_228, .int 5, .int n_h0_which_229, .int v_4, h0_35, h0_36, h0_37, h0_38, h0_39, h0_40, h0_41, h0_42, h0_43, h0_44, h0_45, h0_46, h0_47, h0_48, h0_49, h0_50, h0_51, h0_52, h0_53, h0_54, h0_55, h0_56, h0_57, h0_58, h0_59, h0_60, h0_61, h0_62, h0_63, h0_64, h0_65, h0_66, h0_67, h0_68, h0_69])), (a_te, .inl (ca_te, 700, .inl fa_te)), (a_wd, .inl (ca_wd, 115, .inl fa_wd))]) hP hD [1, 2, 0] (by decide) rfl
                                  have hK9 := hK.sub (tys' := []) [] rfl
                                  refine W.widen (k := 0) (n := 0) (Nat.le_of_ble_eq_true rfl) (Nat.le_of_ble_eq_true rfl) ?_
                                  exact W.vret hx hb hr (fun t ht hW => ⟨⟨(), rfl, trivial, ⟨n_h0_next_228, 5, n_h0_which_229, v_4, hp_230, (by decide), hF_5, (show mnx.toInt ≤ n_h0_next_228.toInt ∧ n_h0_next_228.toInt ≤ mst.toInt by omega), (show (5 : Int) ≤ 8 * (n_h0_next_228.toInt - mnx.toInt) by omega), (show v_4.toInt ≤ n_h0_next_228.toInt by omega), (show z_tk8 (5 : Int) n_h0_next_228.toInt v_4.toInt from fun h9 => by omega), (show z_tkw n_h0_which_229.toInt (5 : Int) from fun h9 h8 h7 => by omega), by rw [ht]; exact hP9, va_K.moved hW.alike hK9, hD9⟩⟩, hS.F ht⟩) hS.2.2 dX12_take_342
                                · have k_242 : (z_238).toInt = (115 : Int) := z_eq c_239
                                  obtain rfl : z_238 = 115 := z_eq' (show (z_238).toInt = (115 : Int) by omega)
                                  refine lv_bipush (v := 7) hx hb dX12_take_228 (by decide) ?_
                                  refine lv_goto (tgt := 234) hx hb dX12_take_230 (by decide) ?_
                                  refine va_put (D := (dC, dI)) (ci := 12) (v := .int 7) (ty := .int) (C := RX12) (T := TX12) (N := 70) hx hb hts hiX12 tyX12 tyX12_ok nmX12 hown hK hP hD hS 1 rfl rfl 32 (by decide) w__fieldLink_RX12_221_ShellHeapModel_kindNow_I_ (fun _ h9 => h9) rfl (by decide +kernel) rfl rfl (Nat.le_of_ble_eq_true rfl) dX12_take_234 (fun H_244 locs hP hD hS => ?_)
                                  obtain ⟨hP, hD⟩ := z_s_1_32 hP hD
                                  refine lv_goto (tgt := 342) hx hb dX12_take_237 (by decide) ?_
                                  refine z_backQ hQQ ?_
                                  obtain ⟨hP9, hD9⟩ := z_sub2 (ws' := [(h0, .inr (12, [.ref a_te, h0_1, h0_2, h0_3, h0_4, h0_5, h0_6, h0_7, h0_8, h0_9, h0_10, h0_11, h0_12, h0_13, h0_14, h0_15, h0_16, h0_17, h0_18, h0_19, h0_20, h0_21, h0_22, h0_23, h0_24, h0_25, h0_26, .ref a_wd, .int mf, .int mfp, .int mst, .int n_h0_next_228, .int 7, .int n_h0_which_229, .int v_4, h0_35, h0_36, h0_37, h0_38, h0_39, h0_40, h0_41, h0_42, h0_43, h0_44, h0_45, h0_46, h0_47, h0_48, h0_49, h0_50, h0_51, h0_52, h0_53, h0_54, h0_55, h0_56, h0_57, h0_58, h0_59, h0_60, h0_61, h0_62, h0_63, h0_64, h0_65, h0_66, h0_67, h0_68, h0_69])), (a_te, .inl (ca_te, 700, .inl fa_te)), (a_wd, .inl (ca_wd, 115, .inl fa_wd))]) hP hD [1, 2, 0] (by decide) rfl
                                  have hK9 := hK.sub (tys' := []) [] rfl
                                  refine W.widen (k := 0) (n := 0) (Nat.le_of_ble_eq_true rfl) (Nat.le_of_ble_eq_true rfl) ?_
                                  exact W.vret hx hb hr (fun t ht hW => ⟨⟨(), rfl, trivial, ⟨n_h0_next_228, 7, n_h0_which_229, v_4, hp_230, (by decide), hF_5, (show mnx.toInt ≤ n_h0_next_228.toInt ∧ n_h0_next_228.toInt ≤ mst.toInt by omega), (show (7 : Int) ≤ 8 * (n_h0_next_228.toInt - mnx.toInt) by omega), (show v_4.toInt ≤ n_h0_next_228.toInt by omega), (show z_tk8 (7 : Int) n_h0_next_228.toInt v_4.toInt from fun h9 => by omega), (show z_tkw n_h0_which_229.toInt (7 : Int) from fun h9 h8 h7 => by omega), by rw [ht]; exact hP9, va_K.moved hW.alike hK9, hD9⟩⟩, hS.F ht⟩) hS.2.2 dX12_take_342
                              · have k_245 : (z_235).toInt = (107 : Int) := z_eq c_236
                                obtain rfl : z_235 = 107 := z_eq' (show (z_235).toInt = (107 : Int) by omega)
                                refine lv_bipush (v := 6) hx hb dX12_take_209 (by decide) ?_
                                refine lv_goto (tgt := 234) hx hb dX12_take_211 (by decide) ?_
                                refine va_put (D := (dC, dI)) (ci := 12) (v := .int 6) (ty := .int) (C := RX12) (T := TX12) (N := 70) hx hb hts hiX12 tyX12 tyX12_ok nmX12 hown hK hP hD hS 1 rfl rfl 32 (by decide) w__fieldLink_RX12_221_ShellHeapModel_kindNow_I_ (fun _ h9 => h9) rfl (by decide +kernel) rfl rfl (Nat.le_of_ble_eq_true rfl) dX12_take_234 (fun H_247 locs hP hD hS => ?_)
                                obtain ⟨hP, hD⟩ := z_s_1_32 hP hD
                                refine lv_goto (tgt := 342) hx hb dX12_take_237 (by decide) ?_
                                refine z_backQ hQQ ?_
                                obtain ⟨hP9, hD9⟩ := z_sub2 (ws' := [(h0, .inr (12, [.ref a_te, h0_1, h0_2, h0_3, h0_4, h0_5, h0_6, h0_7, h0_8, h0_9, h0_10, h0_11, h0_12, h0_13, h0_14, h0_15, h0_16, h0_17, h0_18, h0_19, h0_20, h0_21, h0_22, h0_23, h0_24, h0_25, h0_26, .ref a_wd, .int mf, .int mfp, .int mst, .int n_h0_next_228, .int 6, .int n_h0_which_229, .int v_4, h0_35, h0_36, h0_37, h0_38, h0_39, h0_40, h0_41, h0_42, h0_43, h0_44, h0_45, h0_46, h0_47, h0_48, h0_49, h0_50, h0_51, h0_52, h0_53, h0_54, h0_55, h0_56, h0_57, h0_58, h0_59, h0_60, h0_61, h0_62, h0_63, h0_64, h0_65, h0_66, h0_67, h0_68, h0_69])), (a_te, .inl (ca_te, 700, .inl fa_te)), (a_wd, .inl (ca_wd, 115, .inl fa_wd))]) hP hD [1, 2, 0] (by decide) rfl
                                have hK9 := hK.sub (tys' := []) [] rfl
                                refine W.widen (k := 0) (n := 0) (Nat.le_of_ble_eq_true rfl) (Nat.le_of_ble_eq_true rfl) ?_
                                exact W.vret hx hb hr (fun t ht hW => ⟨⟨(), rfl, trivial, ⟨n_h0_next_228, 6, n_h0_which_229, v_4, hp_230, (by decide), hF_5, (show mnx.toInt ≤ n_h0_next_228.toInt ∧ n_h0_next_228.toInt ≤ mst.toInt by omega), (show (6 : Int) ≤ 8 * (n_h0_next_228.toInt - mnx.toInt) by omega), (show v_4.toInt ≤ n_h0_next_228.toInt by omega), (show z_tk8 (6 : Int) n_h0_next_228.toInt v_4.toInt from fun h9 => by omega), (show z_tkw n_h0_which_229.toInt (6 : Int) from fun h9 h8 h7 => by omega), by rw [ht]; exact hP9, va_K.moved hW.alike hK9, hD9⟩⟩, hS.F ht⟩) hS.2.2 dX12_take_342
                            · have k_248 : (z_209).toInt > (1 : Int) := z_nle c_233
                              refine lv_iconst (v := 5) hx hb dX12_take_191 (by decide) ?_
                              refine lv_goto (tgt := 234) hx hb dX12_take_192 (by decide) ?_
                              refine va_put (D := (dC, dI)) (ci := 12) (v := .int 5) (ty := .int) (C := RX12) (T := TX12) (N := 70) hx hb hts hiX12 tyX12 tyX12_ok nmX12 hown hK hP hD hS 1 rfl rfl 32 (by decide) w__fieldLink_RX12_221_ShellHeapModel_kindNow_I_ (fun _ h9 => h9) rfl (by decide +kernel) rfl rfl (Nat.le_of_ble_eq_true rfl) dX12_take_234 (fun H_249 locs hP hD hS => ?_)
                              obtain ⟨hP, hD⟩ := z_s_1_32 hP hD
                              refine lv_goto (tgt := 342) hx hb dX12_take_237 (by decide) ?_
                              refine z_backQ hQQ ?_
                              obtain ⟨hP9, hD9⟩ := z_sub2 (ws' := [(h0, .inr (12, [.ref a_te, h0_1, h0_2, h0_3, h0_4, h0_5, h0_6, h0_7, h0_8, h0_9, h0_10, h0_11, h0_12, h0_13, h0_14, h0_15, h0_16, h0_17, h0_18, h0_19, h0_20, h0_21, h0_22, h0_23, h0_24, h0_25, h0_26, .ref a_wd, .int mf, .int mfp, .int mst, .int n_h0_next_228, .int 5, .int n_h0_which_229, .int v_4, h0_35, h0_36, h0_37, h0_38, h0_39, h0_40, h0_41, h0_42, h0_43, h0_44, h0_45, h0_46, h0_47, h0_48, h0_49, h0_50, h0_51, h0_52, h0_53, h0_54, h0_55, h0_56, h0_57, h0_58, h0_59, h0_60, h0_61, h0_62, h0_63, h0_64, h0_65, h0_66, h0_67, h0_68, h0_69])), (a_te, .inl (ca_te, 700, .inl fa_te)), (a_wd, .inl (ca_wd, 115, .inl fa_wd))]) hP hD [1, 2, 0] (by decide) rfl
                              have hK9 := hK.sub (tys' := []) [] rfl
                              refine W.widen (k := 0) (n := 0) (Nat.le_of_ble_eq_true rfl) (Nat.le_of_ble_eq_true rfl) ?_
                              exact W.vret hx hb hr (fun t ht hW => ⟨⟨(), rfl, trivial, ⟨n_h0_next_228, 5, n_h0_which_229, v_4, hp_230, (by decide), hF_5, (show mnx.toInt ≤ n_h0_next_228.toInt ∧ n_h0_next_228.toInt ≤ mst.toInt by omega), (show (5 : Int) ≤ 8 * (n_h0_next_228.toInt - mnx.toInt) by omega), (show v_4.toInt ≤ n_h0_next_228.toInt by omega), (show z_tk8 (5 : Int) n_h0_next_228.toInt v_4.toInt from fun h9 => by omega), (show z_tkw n_h0_which_229.toInt (5 : Int) from fun h9 h8 h7 => by omega), by rw [ht]; exact hP9, va_K.moved hW.alike hK9, hD9⟩⟩, hS.F ht⟩) hS.2.2 dX12_take_342
                          · have hw_223 : ¬ (v_197.toInt < mst.toInt ∧ 48 ≤ (fa_te v_197.toNatClampNeg).toInt ∧ (fa_te v_197.toNatClampNeg).toInt ≤ 57) := hw_223
                            refine lv_if_eq (tgt := 237) hx hb dX12_take_178 (by decide) (fun _ => ?_) (fun c_250 => absurd (by decide) c_250)
                            refine lv_goto (tgt := 342) hx hb dX12_take_237 (by decide) ?_
                            refine z_backQ hQQ ?_
                            have hP9 := hP
                            have hD9 := hD
                            have hK9 := hK.sub (tys' := []) [] rfl
                            refine W.widen (k := 0) (n := 0) (Nat.le_of_ble_eq_true rfl) (Nat.le_of_ble_eq_true rfl) ?_
                            exact W.vret hx hb hr (fun t ht hW => ⟨⟨(), rfl, trivial, ⟨v_197, 2, (-1), v_4, hF_198, (by decide), hF_5, (show mnx.toInt ≤ v_197.toInt ∧ v_197.toInt ≤ mst.toInt by omega), (show (2 : Int) ≤ 8 * (v_197.toInt - mnx.toInt) by omega), (show v_4.toInt ≤ v_197.toInt by omega), (show z_tk8 (2 : Int) v_197.toInt v_4.toInt from fun h9 => by omega), (show z_tkw (-1 : Int) (2 : Int) from fun h9 h8 h7 => by omega), by rw [ht]; exact hP9, va_K.moved hW.alike hK9, hD9⟩⟩, hS.F ht⟩) hS.2.2 dX12_take_342
                        · have k_251 : (z_209).toInt > (8 : Int) := z_nle c_217
                          refine lv_iconst (v := 5) hx hb dX12_take_158 (by decide) ?_
                          refine lv_goto (tgt := 163) hx hb dX12_take_159 (by decide) ?_
                          refine va_put (D := (dC, dI)) (ci := 12) (v := .int 5) (ty := .int) (C := RX12) (T := TX12) (N := 70) hx hb hts hiX12 tyX12 tyX12_ok nmX12 hown hK hP hD hS 0 rfl rfl 32 (by decide) w__fieldLink_RX12_221_ShellHeapModel_kindNow_I_ (fun _ h9 => h9) rfl (by decide +kernel) rfl rfl (Nat.le_of_ble_eq_true rfl) dX12_take_163 (fun H_252 locs hP hD hS => ?_)
                          obtain ⟨hP, hD⟩ := z_s_0_32 hP hD
                          refine lv_iload_n hx hb dX12_take_166 rfl (lv_at hl 2 rfl) ?_
                          refine lv_if_eq (tgt := 237) hx hb dX12_take_167 (by decide) (fun c_253 => absurd c_253 (by decide)) (fun _ => ?_)
                          refine lv_aload_n hx hb dX12_take_170 rfl (lv_at hl 1 rfl) ?_
                          refine lv_aload_n hx hb dX12_take_171 rfl (lv_at hl 1 rfl) ?_
                          refine va_get (D := (dC, dI)) (ci := 12) (v := .int v_197) (C := RX12) (T := TX12) (N := 70) hx hb hts hiX12 hown hK hP 0 rfl rfl 31 (by decide) w__fieldLink_RX12_207_ShellHeapModel_next_I_ (fun _ h9 => h9) rfl dX12_take_172 ?_
                          obtain ⟨hPc, hDc⟩ := z_sub2 (ws' := [(h0, .inr (12, [.ref a_te, h0_1, h0_2, h0_3, h0_4, h0_5, h0_6, h0_7, h0_8, h0_9, h0_10, h0_11, h0_12, h0_13, h0_14, h0_15, h0_16, h0_17, h0_18, h0_19, h0_20, h0_21, h0_22, h0_23, h0_24, h0_25, h0_26, .ref a_wd, .int mf, .int mfp, .int mst, .int v_197, .int 5, .int (-1), .int v_4, h0_35, h0_36, h0_37, h0_38, h0_39, h0_40, h0_41, h0_42, h0_43, h0_44, h0_45, h0_46, h0_47, h0_48, h0_49, h0_50, h0_51, h0_52, h0_53, h0_54, h0_55, h0_56, h0_57, h0_58, h0_59, h0_60, h0_61, h0_62, h0_63, h0_64, h0_65, h0_66, h0_67, h0_68, h0_69])), (a_te, .inl (ca_te, 700, .inl fa_te))]) hP hD [0, 1] (by decide) rfl
                          have hKc := hK.sub (tys' := [(ca_te, .int)]) [0] rfl
                          have hFc := va_free (ws := []) (wc := []) (z_D0 _) hS hA [] rfl
                          refine va_calli (va_runV (As := [.int v_197]) (rest := []) ⟨hx, hb, hml, hown, hts⟩ (s_X12_isDigit l dC dI H_252.size h0 v_197 a_te h0_1 h0_2 h0_3 h0_4 h0_5 h0_6 h0_7 h0_8 h0_9 h0_10 h0_11 h0_12 h0_13 h0_14 h0_15 h0_16 h0_17 h0_18 h0_19 h0_20 h0_21 h0_22 h0_23 h0_24 h0_25 h0_26 a_wd mf mfp mst v_197 5 (-1) v_4 h0_35 h0_36 h0_37 h0_38 h0_39 h0_40 h0_41 h0_42 h0_43 h0_44 h0_45 h0_46 h0_47 h0_48 h0_49 h0_50 h0_51 h0_52 h0_53 h0_54 h0_55 h0_56 h0_57 h0_58 h0_59 h0_60 h0_61 h0_62 h0_63 h0_64 h0_65 h0_66 h0_67 h0_68 h0_69 ca_te fa_te hB_mst hF_198 (by decide) hF_5 hF_198 hI_a_te) (cwV 1 hts gw_s_X12_take_f_s_X12_isDigit_217 rfl rfl rfl (by decide +kernel) ⟨Nat.le_of_ble_eq_true rfl, Nat.le_of_ble_eq_true rfl⟩) ⟨z_blind, va_recv hKc hPc (ci := 12) (q0 := 0) rfl rfl, z_pre hPc hKc hDc⟩ rfl rfl hl.1 rfl (lv_room (Nat.le_of_ble_eq_true rfl)) dX12_take_175 ⟨Nat.le_of_ble_eq_true rfl, Nat.le_of_ble_eq_true rfl⟩) hS (fun q _ h => hFc q h) hFc (fun r_255 u t H_254 locs ht hvm hw_256 hB hz1 hk1 hS => ?_)
                          replace hP := z_pure hP hk1
                          clear hPc hDc hKc
                          rcases hw_256 with ⟨rfl, hw_256⟩ | ⟨rfl, hw_256⟩
                          · have hw_256 : (v_197.toInt < mst.toInt ∧ 48 ≤ (fa_te v_197.toNatClampNeg).toInt ∧ (fa_te v_197.toNatClampNeg).toInt ≤ 57) := hw_256
                            refine lv_if_eq (tgt := 237) hx hb dX12_take_178 (by decide) (fun c_257 => absurd c_257 (by decide)) (fun _ => ?_)
                            refine lv_aload_n hx hb dX12_take_181 rfl (lv_at hl 1 rfl) ?_
                            obtain ⟨hPc, hDc, hFc⟩ := z_sub3 (ws' := [(h0, .inr (12, [.ref a_te, h0_1, h0_2, h0_3, h0_4, h0_5, h0_6, h0_7, h0_8, h0_9, h0_10, h0_11, h0_12, h0_13, h0_14, h0_15, h0_16, h0_17, h0_18, h0_19, h0_20, h0_21, h0_22, h0_23, h0_24, h0_25, h0_26, .ref a_wd, .int mf, .int mfp, .int mst, .int v_197, .int 5, .int (-1), .int v_4, h0_35, h0_36, h0_37, h0_38, h0_39, h0_40, h0_41, h0_42, h0_43, h0_44, h0_45, h0_46, h0_47, h0_48, h0_49, h0_50, h0_51, h0_52, h0_53, h0_54, h0_55, h0_56, h0_57, h0_58, h0_59, h0_60, h0_61, h0_62, h0_63, h0_64, h0_65, h0_66, h0_67, h0_68, h0_69])), (a_te, .inl (ca_te, 700, .inl fa_te))]) hP hD hS hA [0, 1] (by decide) rfl
                            have hKc := hK.sub (tys' := [(ca_te, .int)]) [0] rfl
                            refine va_callv (va_runV (As := []) (rest := []) ⟨hx, hb, hml, hown, hts⟩ (s_X12_digits l dC dI H_254.size h0 a_te h0_1 h0_2 h0_3 h0_4 h0_5 h0_6 h0_7 h0_8 h0_9 h0_10 h0_11 h0_12 h0_13 h0_14 h0_15 h0_16 h0_17 h0_18 h0_19 h0_20 h0_21 h0_22 h0_23 h0_24 h0_25 h0_26 a_wd mf mfp mst v_197 5 (-1) v_4 h0_35 h0_36 h0_37 h0_38 h0_39 h0_40 h0_41 h0_42 h0_43 h0_44 h0_45 h0_46 h0_47 h0_48 h0_49 h0_50 h0_51 h0_52 h0_53 h0_54 h0_55 h0_56 h0_57 h0_58 h0_59 h0_60 h0_61 h0_62 h0_63 h0_64 h0_65 h0_66 h0_67 h0_68 h0_69 ca_te fa_te hB_mst hF_198 (by decide) hF_5 hI_a_te (by first | omega | decide)) (cwV 0 hts gw_s_X12_take_f_s_X12_digits_230 rfl rfl rfl (by decide +kernel) ⟨Nat.le_of_ble_eq_true rfl, Nat.le_of_ble_eq_true rfl⟩) ⟨z_blind, va_recv hKc hPc (ci := 12) (q0 := 0) rfl rfl, z_pre hPc hKc hDc⟩ rfl rfl hl.1 rfl (lv_room (Nat.le_of_ble_eq_true rfl)) dX12_take_182 ⟨Nat.le_of_ble_eq_true rfl, Nat.le_of_ble_eq_true rfl⟩) hS (fun q _ h => hFc q h) hFc (fun u t H_258 locs ht hvm hw_260 hB hz1 hk1 hS => ?_)
                            obtain ⟨n_h0_next_261, n_h0_which_262, hp_263, hp_264, hp_265, hP1, hK1, hD1⟩ := hB
                            rw [ht] at hP1
                            have hK1 := va_K.moved hvm.symm hK1
                            obtain ⟨hP, hD⟩ := z_ap_1 (va_join (wr := [(a_wd, .inl (ca_wd, 115, .inl fa_wd))]) hP hD [0, 1] [2] rfl rfl (by decide) (by decide) hk1 hFc hP1 hD1)
                            have hp_265 : v_197.toInt + 1 ≤ n_h0_next_261.toInt ∧ n_h0_next_261.toInt ≤ mst.toInt := hp_265
                            clear hPc hDc hKc
                            refine lv_aload_n hx hb dX12_take_185 rfl (lv_at hl 1 rfl) ?_
                            refine lv_iload_n hx hb dX12_take_186 rfl (lv_at hl 0 rfl) ?_
                            refine lv_iconst (v := 1) hx hb dX12_take_187 (by decide) ?_
                            refine lv_icmp_le (tgt := 195) hx hb dX12_take_188 (by decide) (fun c_266 => ?_) (fun c_266 => ?_)
                            · exfalso
                              have k_267 : (z_209).toInt ≤ (1 : Int) := z_le c_266
                              omega
                            refine lv_iconst (v := 5) hx hb dX12_take_191 (by decide) ?_
                            refine lv_goto (tgt := 234) hx hb dX12_take_192 (by decide) ?_
                            refine va_put (D := (dC, dI)) (ci := 12) (v := .int 5) (ty := .int) (C := RX12) (T := TX12) (N := 70) hx hb hts hiX12 tyX12 tyX12_ok nmX12 hown hK hP hD hS 1 rfl rfl 32 (by decide) w__fieldLink_RX12_221_ShellHeapModel_kindNow_I_ (fun _ h9 => h9) rfl (by decide +kernel) rfl rfl (Nat.le_of_ble_eq_true rfl) dX12_take_234 (fun H_268 locs hP hD hS => ?_)
                            obtain ⟨hP, hD⟩ := z_s_1_32 hP hD
                            refine lv_goto (tgt := 342) hx hb dX12_take_237 (by decide) ?_
                            refine z_backQ hQQ ?_
                            obtain ⟨hP9, hD9⟩ := z_sub2 (ws' := [(h0, .inr (12, [.ref a_te, h0_1, h0_2, h0_3, h0_4, h0_5, h0_6, h0_7, h0_8, h0_9, h0_10, h0_11, h0_12, h0_13, h0_14, h0_15, h0_16, h0_17, h0_18, h0_19, h0_20, h0_21, h0_22, h0_23, h0_24, h0_25, h0_26, .ref a_wd, .int mf, .int mfp, .int mst, .int n_h0_next_261, .int 5, .int n_h0_which_262, .int v_4, h0_35, h0_36, h0_37, h0_38, h0_39, h0_40, h0_41, h0_42, h0_43, h0_44, h0_45, h0_46, h0_47, h0_48, h0_49, h0_50, h0_51, h0_52, h0_53, h0_54, h0_55, h0_56, h0_57, h0_58, h0_59, h0_60, h0_61, h0_62, h0_63, h0_64, h0_65, h0_66, h0_67, h0_68, h0_69])), (a_te, .inl (ca_te, 700, .inl fa_te)), (a_wd, .inl (ca_wd, 115, .inl fa_wd))]) hP hD [1, 2, 0] (by decide) rfl
                            have hK9 := hK.sub (tys' := []) [] rfl
                            refine W.widen (k := 0) (n := 0) (Nat.le_of_ble_eq_true rfl) (Nat.le_of_ble_eq_true rfl) ?_
                            exact W.vret hx hb hr (fun t ht hW => ⟨⟨(), rfl, trivial, ⟨n_h0_next_261, 5, n_h0_which_262, v_4, hp_263, (by decide), hF_5, (show mnx.toInt ≤ n_h0_next_261.toInt ∧ n_h0_next_261.toInt ≤ mst.toInt by omega), (show (5 : Int) ≤ 8 * (n_h0_next_261.toInt - mnx.toInt) by omega), (show v_4.toInt ≤ n_h0_next_261.toInt by omega), (show z_tk8 (5 : Int) n_h0_next_261.toInt v_4.toInt from fun h9 => by omega), (show z_tkw n_h0_which_262.toInt (5 : Int) from fun h9 h8 h7 => by omega), by rw [ht]; exact hP9, va_K.moved hW.alike hK9, hD9⟩⟩, hS.F ht⟩) hS.2.2 dX12_take_342
                          · have hw_256 : ¬ (v_197.toInt < mst.toInt ∧ 48 ≤ (fa_te v_197.toNatClampNeg).toInt ∧ (fa_te v_197.toNatClampNeg).toInt ≤ 57) := hw_256
                            refine lv_if_eq (tgt := 237) hx hb dX12_take_178 (by decide) (fun _ => ?_) (fun c_269 => absurd (by decide) c_269)
                            refine lv_goto (tgt := 342) hx hb dX12_take_237 (by decide) ?_
                            refine z_backQ hQQ ?_
                            have hP9 := hP
                            have hD9 := hD
                            have hK9 := hK.sub (tys' := []) [] rfl
                            refine W.widen (k := 0) (n := 0) (Nat.le_of_ble_eq_true rfl) (Nat.le_of_ble_eq_true rfl) ?_
                            exact W.vret hx hb hr (fun t ht hW => ⟨⟨(), rfl, trivial, ⟨v_197, 5, (-1), v_4, hF_198, (by decide), hF_5, (show mnx.toInt ≤ v_197.toInt ∧ v_197.toInt ≤ mst.toInt by omega), (show (5 : Int) ≤ 8 * (v_197.toInt - mnx.toInt) by omega), (show v_4.toInt ≤ v_197.toInt by omega), (show z_tk8 (5 : Int) v_197.toInt v_4.toInt from fun h9 => by omega), (show z_tkw (-1 : Int) (5 : Int) from fun h9 h8 h7 => by omega), by rw [ht]; exact hP9, va_K.moved hW.alike hK9, hD9⟩⟩, hS.F ht⟩) hS.2.2 dX12_take_342
                      · have k_270 : (r_211).toInt ≥ (0 : Int) := z_nlt c_214
                        refine lv_iconst (v := 1) hx hb dX12_take_148 (by decide) ?_
                        refine lv_goto (tgt := 163) hx hb dX12_take_149 (by decide) ?_
                        refine va_put (D := (dC, dI)) (ci := 12) (v := .int 1) (ty := .int) (C := RX12) (T := TX12) (N := 70) hx hb hts hiX12 tyX12 tyX12_ok nmX12 hown hK hP hD hS 0 rfl rfl 32 (by decide) w__fieldLink_RX12_221_ShellHeapModel_kindNow_I_ (fun _ h9 => h9) rfl (by decide +kernel) rfl rfl (Nat.le_of_ble_eq_true rfl) dX12_take_163 (fun H_271 locs hP hD hS => ?_)
                        obtain ⟨hP, hD⟩ := z_s_0_32 hP hD
                        refine lv_iload_n hx hb dX12_take_166 rfl (lv_at hl 2 rfl) ?_
                        refine lv_if_eq (tgt := 237) hx hb dX12_take_167 (by decide) (fun c_272 => absurd c_272 (by decide)) (fun _ => ?_)
                        refine lv_aload_n hx hb dX12_take_170 rfl (lv_at hl 1 rfl) ?_
                        refine lv_aload_n hx hb dX12_take_171 rfl (lv_at hl 1 rfl) ?_
                        refine va_get (D := (dC, dI)) (ci := 12) (v := .int v_197) (C := RX12) (T := TX12) (N := 70) hx hb hts hiX12 hown hK hP 0 rfl rfl 31 (by decide) w__fieldLink_RX12_207_ShellHeapModel_next_I_ (fun _ h9 => h9) rfl dX12_take_172 ?_
                        obtain ⟨hPc, hDc⟩ := z_sub2 (ws' := [(h0, .inr (12, [.ref a_te, h0_1, h0_2, h0_3, h0_4, h0_5, h0_6, h0_7, h0_8, h0_9, h0_10, h0_11, h0_12, h0_13, h0_14, h0_15, h0_16, h0_17, h0_18, h0_19, h0_20, h0_21, h0_22, h0_23, h0_24, h0_25, h0_26, .ref a_wd, .int mf, .int mfp, .int mst, .int v_197, .int 1, .int r_211, .int v_4, h0_35, h0_36, h0_37, h0_38, h0_39, h0_40, h0_41, h0_42, h0_43, h0_44, h0_45, h0_46, h0_47, h0_48, h0_49, h0_50, h0_51, h0_52, h0_53, h0_54, h0_55, h0_56, h0_57, h0_58, h0_59, h0_60, h0_61, h0_62, h0_63, h0_64, h0_65, h0_66, h0_67, h0_68, h0_69])), (a_te, .inl (ca_te, 700, .inl fa_te))]) hP hD [0, 1] (by decide) rfl
                        have hKc := hK.sub (tys' := [(ca_te, .int)]) [0] rfl
                        have hFc := va_free (ws := []) (wc := []) (z_D0 _) hS hA [] rfl
                        refine va_calli (va_runV (As := [.int v_197]) (rest := []) ⟨hx, hb, hml, hown, hts⟩ (s_X12_isDigit l dC dI H_271.size h0 v_197 a_te h0_1 h0_2 h0_3 h0_4 h0_5 h0_6 h0_7 h0_8 h0_9 h0_10 h0_11 h0_12 h0_13 h0_14 h0_15 h0_16 h0_17 h0_18 h0_19 h0_20 h0_21 h0_22 h0_23 h0_24 h0_25 h0_26 a_wd mf mfp mst v_197 1 r_211 v_4 h0_35 h0_36 h0_37 h0_38 h0_39 h0_40 h0_41 h0_42 h0_43 h0_44 h0_45 h0_46 h0_47 h0_48 h0_49 h0_50 h0_51 h0_52 h0_53 h0_54 h0_55 h0_56 h0_57 h0_58 h0_59 h0_60 h0_61 h0_62 h0_63 h0_64 h0_65 h0_66 h0_67 h0_68 h0_69 ca_te fa_te hB_mst hF_198 (by decide) hF_5 hF_198 hI_a_te) (cwV 1 hts gw_s_X12_take_f_s_X12_isDigit_217 rfl rfl rfl (by decide +kernel) ⟨Nat.le_of_ble_eq_true rfl, Nat.le_of_ble_eq_true rfl⟩) ⟨z_blind, va_recv hKc hPc (ci := 12) (q0 := 0) rfl rfl, z_pre hPc hKc hDc⟩ rfl rfl hl.1 rfl (lv_room (Nat.le_of_ble_eq_true rfl)) dX12_take_175 ⟨Nat.le_of_ble_eq_true rfl, Nat.le_of_ble_eq_true rfl⟩) hS (fun q _ h => hFc q h) hFc (fun r_274 u t H_273 locs ht hvm hw_275 hB hz1 hk1 hS => ?_)
                        replace hP := z_pure hP hk1
                        clear hPc hDc hKc
                        rcases hw_275 with ⟨rfl, hw_275⟩ | ⟨rfl, hw_275⟩
                        · have hw_275 : (v_197.toInt < mst.toInt ∧ 48 ≤ (fa_te v_197.toNatClampNeg).toInt ∧ (fa_te v_197.toNatClampNeg).toInt ≤ 57) := hw_275
                          refine lv_if_eq (tgt := 237) hx hb dX12_take_178 (by decide) (fun c_276 => absurd c_276 (by decide)) (fun _ => ?_)
                          refine lv_aload_n hx hb dX12_take_181 rfl (lv_at hl 1 rfl) ?_
                          obtain ⟨hPc, hDc, hFc⟩ := z_sub3 (ws' := [(h0, .inr (12, [.ref a_te, h0_1, h0_2, h0_3, h0_4, h0_5, h0_6, h0_7, h0_8, h0_9, h0_10, h0_11, h0_12, h0_13, h0_14, h0_15, h0_16, h0_17, h0_18, h0_19, h0_20, h0_21, h0_22, h0_23, h0_24, h0_25, h0_26, .ref a_wd, .int mf, .int mfp, .int mst, .int v_197, .int 1, .int r_211, .int v_4, h0_35, h0_36, h0_37, h0_38, h0_39, h0_40, h0_41, h0_42, h0_43, h0_44, h0_45, h0_46, h0_47, h0_48, h0_49, h0_50, h0_51, h0_52, h0_53, h0_54, h0_55, h0_56, h0_57, h0_58, h0_59, h0_60, h0_61, h0_62, h0_63, h0_64, h0_65, h0_66, h0_67, h0_68, h0_69])), (a_te, .inl (ca_te, 700, .inl fa_te))]) hP hD hS hA [0, 1] (by decide) rfl
                          have hKc := hK.sub (tys' := [(ca_te, .int)]) [0] rfl
                          refine va_callv (va_runV (As := []) (rest := []) ⟨hx, hb, hml, hown, hts⟩ (s_X12_digits l dC dI H_273.size h0 a_te h0_1 h0_2 h0_3 h0_4 h0_5 h0_6 h0_7 h0_8 h0_9 h0_10 h0_11 h0_12 h0_13 h0_14 h0_15 h0_16 h0_17 h0_18 h0_19 h0_20 h0_21 h0_22 h0_23 h0_24 h0_25 h0_26 a_wd mf mfp mst v_197 1 r_211 v_4 h0_35 h0_36 h0_37 h0_38 h0_39 h0_40 h0_41 h0_42 h0_43 h0_44 h0_45 h0_46 h0_47 h0_48 h0_49 h0_50 h0_51 h0_52 h0_53 h0_54 h0_55 h0_56 h0_57 h0_58 h0_59 h0_60 h0_61 h0_62 h0_63 h0_64 h0_65 h0_66 h0_67 h0_68 h0_69 ca_te fa_te hB_mst hF_198 (by decide) hF_5 hI_a_te (by first | omega | decide)) (cwV 0 hts gw_s_X12_take_f_s_X12_digits_230 rfl rfl rfl (by decide +kernel) ⟨Nat.le_of_ble_eq_true rfl, Nat.le_of_ble_eq_true rfl⟩) ⟨z_blind, va_recv hKc hPc (ci := 12) (q0 := 0) rfl rfl, z_pre hPc hKc hDc⟩ rfl rfl hl.1 rfl (lv_room (Nat.le_of_ble_eq_true rfl)) dX12_take_182 ⟨Nat.le_of_ble_eq_true rfl, Nat.le_of_ble_eq_true rfl⟩) hS (fun q _ h => hFc q h) hFc (fun u t H_277 locs ht hvm hw_279 hB hz1 hk1 hS => ?_)
                          obtain ⟨n_h0_next_280, n_h0_which_281, hp_282, hp_283, hp_284, hP1, hK1, hD1⟩ := hB
                          rw [ht] at hP1
                          have hK1 := va_K.moved hvm.symm hK1
                          obtain ⟨hP, hD⟩ := z_ap_1 (va_join (wr := [(a_wd, .inl (ca_wd, 115, .inl fa_wd))]) hP hD [0, 1] [2] rfl rfl (by decide) (by decide) hk1 hFc hP1 hD1)
                          have hp_284 : v_197.toInt + 1 ≤ n_h0_next_280.toInt ∧ n_h0_next_280.toInt ≤ mst.toInt := hp_284
                          clear hPc hDc hKc
                          refine lv_aload_n hx hb dX12_take_185 rfl (lv_at hl 1 rfl) ?_
                          refine lv_iload_n hx hb dX12_take_186 rfl (lv_at hl 0 rfl) ?_
                          refine lv_iconst (v := 1) hx hb dX12_take_187 (by decide) ?_
                          refine lv_icmp_le (tgt := 195) hx hb dX12_take_188 (by decide) (fun c_285 => ?_) (fun c_285 => ?_)
                          · have k_286 : (z_209).toInt ≤ (1 : Int) := z_le c_285
                            refine lv_aload_n hx hb dX12_take_195 rfl (lv_at hl 1 rfl) ?_
                            refine va_get (D := (dC, dI)) (ci := 12) (v := .ref a_te) (C := RX12) (T := TX12) (N := 70) hx hb hts hiX12 hown hK hP 1 rfl rfl 0 (by decide) w__fieldLink_RX12_7_ShellHeapModel_tape_I_ (fun _ h9 => h9) rfl dX12_take_196 ?_
                            refine lv_aload_n hx hb dX12_take_199 rfl (lv_at hl 1 rfl) ?_
                            refine va_get (D := (dC, dI)) (ci := 12) (v := .int v_4) (C := RX12) (T := TX12) (N := 70) hx hb hts hiX12 hown hK hP 1 rfl rfl 34 (by decide) w__fieldLink_RX12_201_ShellHeapModel_place_I_ (fun _ h9 => h9) rfl dX12_take_200 ?_
                            refine va_iald hx hb hK hP 2 0 rfl rfl (z_vpin (by omega) (by omega)) dX12_take_203 ?_
                            refine lv_topi (fun z_287 ez_287 => ?_)
                            have kz_287 : ((0 : Int) ≤ (z_287).toInt ∧ (z_287).toInt ≤ (255 : Int)) := by rw [ez_287]; exact hI_a_te _
                            refine lv_bipush (v := 107) hx hb dX12_take_204 (by decide) ?_
                            refine lv_icmp_ne (tgt := 214) hx hb dX12_take_206 (by decide) (fun c_288 => ?_) (fun c_288 => ?_)
                            · have k_289 : (z_287).toInt ≠ (107 : Int) := z_ne c_288
                              refine lv_aload_n hx hb dX12_take_214 rfl (lv_at hl 1 rfl) ?_
                              refine va_get (D := (dC, dI)) (ci := 12) (v := .ref a_te) (C := RX12) (T := TX12) (N := 70) hx hb hts hiX12 hown hK hP 1 rfl rfl 0 (by decide) w__fieldLink_RX12_7_ShellHeapModel_tape_I_ (fun _ h9 => h9) rfl dX12_take_215 ?_
                              refine lv_aload_n hx hb dX12_take_218 rfl (lv_at hl 1 rfl) ?_
                              refine va_get (D := (dC, dI)) (ci := 12) (v := .int v_4) (C := RX12) (T := TX12) (N := 70) hx hb hts hiX12 hown hK hP 1 rfl rfl 34 (by decide) w__fieldLink_RX12_201_ShellHeapModel_place_I_ (fun _ h9 => h9) rfl dX12_take_219 ?_
                              refine va_iald hx hb hK hP 2 0 rfl rfl (z_vpin (by omega) (by omega)) dX12_take_222 ?_
                              refine lv_topi (fun z_290 ez_290 => ?_)
                              have kz_290 : ((0 : Int) ≤ (z_290).toInt ∧ (z_290).toInt ≤ (255 : Int)) := by rw [ez_290]; exact hI_a_te _
                              refine lv_bipush (v := 115) hx hb dX12_take_223 (by decide) ?_
                              refine lv_icmp_ne (tgt := 233) hx hb dX12_take_225 (by decide) (fun c_291 => ?_) (fun c_291 => ?_)
                              · have k_292 : (z_290).toInt ≠ (115 : Int) := z_ne c_291
                                refine lv_iconst (v := 5) hx hb dX12_take_233 (by decide) ?_
                                refine va_put (D := (dC, dI)) (ci := 12) (v := .int 5) (ty := .int) (C := RX12) (T := TX12) (N := 70) hx hb hts hiX12 tyX12 tyX12_ok nmX12 hown hK hP hD hS 1 rfl rfl 32 (by decide) w__fieldLink_RX12_221_ShellHeapModel_kindNow_I_ (fun _ h9 => h9) rfl (by decide +kernel) rfl rfl (Nat.le_of_ble_eq_true rfl) dX12_take_234 (fun H_293 locs hP hD hS => ?_)
                                obtain ⟨hP, hD⟩ := z_s_1_32 hP hD
                                refine lv_goto (tgt := 342) hx hb dX12_take_237 (by decide) ?_
                                refine z_backQ hQQ ?_
                                obtain ⟨hP9, hD9⟩ := z_sub2 (ws' := [(h0, .inr (12, [.ref a_te, h0_1, h0_2, h0_3, h0_4, h0_5, h0_6, h0_7, h0_8, h0_9, h0_10, h0_11, h0_12, h0_13, h0_14, h0_15, h0_16, h0_17, h0_18, h0_19, h0_20, h0_21, h0_22, h0_23, h0_24, h0_25, h0_26, .ref a_wd, .int mf, .int mfp, .int mst, .int n_h0_next_280, .int 5, .int n_h0_which_281, .int v_4, h0_35, h0_36, h0_37, h0_38, h0_39, h0_40, h0_41, h0_42, h0_43, h0_44, h0_45, h0_46, h0_47, h0_48, h0_49, h0_50, h0_51, h0_52, h0_53, h0_54, h0_55, h0_56, h0_57, h0_58, h0_59, h0_60, h0_61, h0_62, h0_63, h0_64, h0_65, h0_66, h0_67, h0_68, h0_69])), (a_te, .inl (ca_te, 700, .inl fa_te)), (a_wd, .inl (ca_wd, 115, .inl fa_wd))]) hP hD [1, 2, 0] (by decide) rfl
                                have hK9 := hK.sub (tys' := []) [] rfl
                                refine W.widen (k := 0) (n := 0) (Nat.le_of_ble_eq_true rfl) (Nat.le_of_ble_eq_true rfl) ?_
                                exact W.vret hx hb hr (fun t ht hW => ⟨⟨(), rfl, trivial, ⟨n_h0_next_280, 5, n_h0_which_281, v_4, hp_282, (by decide), hF_5, (show mnx.toInt ≤ n_h0_next_280.toInt ∧ n_h0_next_280.toInt ≤ mst.toInt by omega), (show (5 : Int) ≤ 8 * (n_h0_next_280.toInt - mnx.toInt) by omega), (show v_4.toInt ≤ n_h0_next_280.toInt by omega), (show z_tk8 (5 : Int) n_h0_next_280.toInt v_4.toInt from fun h9 => by omega), (show z_tkw n_h0_which_281.toInt (5 : Int) from fun h9 h8 h7 => by omega), by rw [ht]; exact hP9, va_K.moved hW.alike hK9, hD9⟩⟩, hS.F ht⟩) hS.2.2 dX12_take_342
                              · have k_294 : (z_290).toInt = (115 : Int) := z_eq c_291
                                obtain rfl : z_290 = 115 := z_eq' (show (z_290).toInt = (115 : Int) by omega)
                                refine lv_bipush (v := 7) hx hb dX12_take_228 (by decide) ?_
                                refine lv_goto (tgt := 234) hx hb dX12_take_230 (by decide) ?_
                                refine va_put (D := (dC, dI)) (ci := 12) (v := .int 7) (ty := .int) (C := RX12) (T := TX12) (N := 70) hx hb hts hiX12 tyX12 tyX12_ok nmX12 hown hK hP hD hS 1 rfl rfl 32 (by decide) w__fieldLink_RX12_221_ShellHeapModel_kindNow_I_ (fun _ h9 => h9) rfl (by decide +kernel) rfl rfl (Nat.le_of_ble_eq_true rfl) dX12_take_234 (fun H_296 locs hP hD hS => ?_)
                                obtain ⟨hP, hD⟩ := z_s_1_32 hP hD
                                refine lv_goto (tgt := 342) hx hb dX12_take_237 (by decide) ?_
                                refine z_backQ hQQ ?_
                                obtain ⟨hP9, hD9⟩ := z_sub2 (ws' := [(h0, .inr (12, [.ref a_te, h0_1, h0_2, h0_3, h0_4, h0_5, h0_6, h0_7, h0_8, h0_9, h0_10, h0_11, h0_12, h0_13, h0_14, h0_15, h0_16, h0_17, h0_18, h0_19, h0_20, h0_21, h0_22, h0_23, h0_24, h0_25, h0_26, .ref a_wd, .int mf, .int mfp, .int mst, .int n_h0_next_280, .int 7, .int n_h0_which_281, .int v_4, h0_35, h0_36, h0_37, h0_38, h0_39, h0_40, h0_41, h0_42, h0_43, h0_44, h0_45, h0_46, h0_47, h0_48, h0_49, h0_50, h0_51, h0_52, h0_53, h0_54, h0_55, h0_56, h0_57, h0_58, h0_59, h0_60, h0_61, h0_62, h0_63, h0_64, h0_65, h0_66, h0_67, h0_68, h0_69])), (a_te, .inl (ca_te, 700, .inl fa_te)), (a_wd, .inl (ca_wd, 115, .inl fa_wd))]) hP hD [1, 2, 0] (by decide) rfl
                                have hK9 := hK.sub (tys' := []) [] rfl
                                refine W.widen (k := 0) (n := 0) (Nat.le_of_ble_eq_true rfl) (Nat.le_of_ble_eq_true rfl) ?_
                                exact W.vret hx hb hr (fun t ht hW => ⟨⟨(), rfl, trivial, ⟨n_h0_next_280, 7, n_h0_which_281, v_4, hp_282, (by decide), hF_5, (show mnx.toInt ≤ n_h0_next_280.toInt ∧ n_h0_next_280.toInt ≤ mst.toInt by omega), (show (7 : Int) ≤ 8 * (n_h0_next_280.toInt - mnx.toInt) by omega), (show v_4.toInt ≤ n_h0_next_280.toInt by omega), (show z_tk8 (7 : Int) n_h0_next_280.toInt v_4.toInt from fun h9 => by omega), (show z_tkw n_h0_which_281.toInt (7 : Int) from fun h9 h8 h7 => by omega), by rw [ht]; exact hP9, va_K.moved hW.alike hK9, hD9⟩⟩, hS.F ht⟩) hS.2.2 dX12_take_342
                            · have k_297 : (z_287).toInt = (107 : Int) := z_eq c_288
                              obtain rfl : z_287 = 107 := z_eq' (show (z_287).toInt = (107 : Int) by omega)
                              refine lv_bipush (v := 6) hx hb dX12_take_209 (by decide) ?_
                              refine lv_goto (tgt := 234) hx hb dX12_take_211 (by decide) ?_
                              refine va_put (D := (dC, dI)) (ci := 12) (v := .int 6) (ty := .int) (C := RX12) (T := TX12) (N := 70) hx hb hts hiX12 tyX12 tyX12_ok nmX12 hown hK hP hD hS 1 rfl rfl 32 (by decide) w__fieldLink_RX12_221_ShellHeapModel_kindNow_I_ (fun _ h9 => h9) rfl (by decide +kernel) rfl rfl (Nat.le_of_ble_eq_true rfl) dX12_take_234 (fun H_299 locs hP hD hS => ?_)
                              obtain ⟨hP, hD⟩ := z_s_1_32 hP hD
                              refine lv_goto (tgt := 342) hx hb dX12_take_237 (by decide) ?_
                              refine z_backQ hQQ ?_
                              obtain ⟨hP9, hD9⟩ := z_sub2 (ws' := [(h0, .inr (12, [.ref a_te, h0_1, h0_2, h0_3, h0_4, h0_5, h0_6, h0_7, h0_8, h0_9, h0_10, h0_11, h0_12, h0_13, h0_14, h0_15, h0_16, h0_17, h0_18, h0_19, h0_20, h0_21, h0_22, h0_23, h0_24, h0_25, h0_26, .ref a_wd, .int mf, .int mfp, .int mst, .int n_h0_next_280, .int 6, .int n_h0_which_281, .int v_4, h0_35, h0_36, h0_37, h0_38, h0_39, h0_40, h0_41, h0_42, h0_43, h0_44, h0_45, h0_46, h0_47, h0_48, h0_49, h0_50, h0_51, h0_52, h0_53, h0_54, h0_55, h0_56, h0_57, h0_58, h0_59, h0_60, h0_61, h0_62, h0_63, h0_64, h0_65, h0_66, h0_67, h0_68, h0_69])), (a_te, .inl (ca_te, 700, .inl fa_te)), (a_wd, .inl (ca_wd, 115, .inl fa_wd))]) hP hD [1, 2, 0] (by decide) rfl
                              have hK9 := hK.sub (tys' := []) [] rfl
                              refine W.widen (k := 0) (n := 0) (Nat.le_of_ble_eq_true rfl) (Nat.le_of_ble_eq_true rfl) ?_
                              exact W.vret hx hb hr (fun t ht hW => ⟨⟨(), rfl, trivial, ⟨n_h0_next_280, 6, n_h0_which_281, v_4, hp_282, (by decide), hF_5, (show mnx.toInt ≤ n_h0_next_280.toInt ∧ n_h0_next_280.toInt ≤ mst.toInt by omega), (show (6 : Int) ≤ 8 * (n_h0_next_280.toInt - mnx.toInt) by omega), (show v_4.toInt ≤ n_h0_next_280.toInt by omega), (show z_tk8 (6 : Int) n_h0_next_280.toInt v_4.toInt from fun h9 => by omega), (show z_tkw n_h0_which_281.toInt (6 : Int) from fun h9 h8 h7 => by omega), by rw [ht]; exact hP9, va_K.moved hW.alike hK9, hD9⟩⟩, hS.F ht⟩) hS.2.2 dX12_take_342
                          · have k_300 : (z_209).toInt > (1 : Int) := z_nle c_285
                            refine lv_iconst (v := 5) hx hb dX12_take_191 (by decide) ?_
                            refine lv_goto (tgt := 234) hx hb dX12_take_192 (by decide) ?_
                            refine va_put (D := (dC, dI)) (ci := 12) (v := .int 5) (ty := .int) (C := RX12) (T := TX12) (N := 70) hx hb hts hiX12 tyX12 tyX12_ok nmX12 hown hK hP hD hS 1 rfl rfl 32 (by decide) w__fieldLink_RX12_221_ShellHeapModel_kindNow_I_ (fun _ h9 => h9) rfl (by decide +kernel) rfl rfl (Nat.le_of_ble_eq_true rfl) dX12_take_234 (fun H_301 locs hP hD hS => ?_)
                            obtain ⟨hP, hD⟩ := z_s_1_32 hP hD
                            refine lv_goto (tgt := 342) hx hb dX12_take_237 (by decide) ?_
                            refine z_backQ hQQ ?_
                            obtain ⟨hP9, hD9⟩ := z_sub2 (ws' := [(h0, .inr (12, [.ref a_te, h0_1, h0_2, h0_3, h0_4, h0_5, h0_6, h0_7, h0_8, h0_9, h0_10, h0_11, h0_12, h0_13, h0_14, h0_15, h0_16, h0_17, h0_18, h0_19, h0_20, h0_21, h0_22, h0_23, h0_24, h0_25, h0_26, .ref a_wd, .int mf, .int mfp, .int mst, .int n_h0_next_280, .int 5, .int n_h0_which_281, .int v_4, h0_35, h0_36, h0_37, h0_38, h0_39, h0_40, h0_41, h0_42, h0_43, h0_44, h0_45, h0_46, h0_47, h0_48, h0_49, h0_50, h0_51, h0_52, h0_53, h0_54, h0_55, h0_56, h0_57, h0_58, h0_59, h0_60, h0_61, h0_62, h0_63, h0_64, h0_65, h0_66, h0_67, h0_68, h0_69])), (a_te, .inl (ca_te, 700, .inl fa_te)), (a_wd, .inl (ca_wd, 115, .inl fa_wd))]) hP hD [1, 2, 0] (by decide) rfl
                            have hK9 := hK.sub (tys' := []) [] rfl
                            refine W.widen (k := 0) (n := 0) (Nat.le_of_ble_eq_true rfl) (Nat.le_of_ble_eq_true rfl) ?_
                            exact W.vret hx hb hr (fun t ht hW => ⟨⟨(), rfl, trivial, ⟨n_h0_next_280, 5, n_h0_which_281, v_4, hp_282, (by decide), hF_5, (show mnx.toInt ≤ n_h0_next_280.toInt ∧ n_h0_next_280.toInt ≤ mst.toInt by omega), (show (5 : Int) ≤ 8 * (n_h0_next_280.toInt - mnx.toInt) by omega), (show v_4.toInt ≤ n_h0_next_280.toInt by omega), (show z_tk8 (5 : Int) n_h0_next_280.toInt v_4.toInt from fun h9 => by omega), (show z_tkw n_h0_which_281.toInt (5 : Int) from fun h9 h8 h7 => by omega), by rw [ht]; exact hP9, va_K.moved hW.alike hK9, hD9⟩⟩, hS.F ht⟩) hS.2.2 dX12_take_342
                        · have hw_275 : ¬ (v_197.toInt < mst.toInt ∧ 48 ≤ (fa_te v_197.toNatClampNeg).toInt ∧ (fa_te v_197.toNatClampNeg).toInt ≤ 57) := hw_275
                          refine lv_if_eq (tgt := 237) hx hb dX12_take_178 (by decide) (fun _ => ?_) (fun c_302 => absurd (by decide) c_302)
                          refine lv_goto (tgt := 342) hx hb dX12_take_237 (by decide) ?_
                          refine z_backQ hQQ ?_
                          have hP9 := hP
                          have hD9 := hD
                          have hK9 := hK.sub (tys' := []) [] rfl
                          refine W.widen (k := 0) (n := 0) (Nat.le_of_ble_eq_true rfl) (Nat.le_of_ble_eq_true rfl) ?_
                          exact W.vret hx hb hr (fun t ht hW => ⟨⟨(), rfl, trivial, ⟨v_197, 1, r_211, v_4, hF_198, (by decide), hF_5, (show mnx.toInt ≤ v_197.toInt ∧ v_197.toInt ≤ mst.toInt by omega), (show (1 : Int) ≤ 8 * (v_197.toInt - mnx.toInt) by omega), (show v_4.toInt ≤ v_197.toInt by omega), (show z_tk8 (1 : Int) v_197.toInt v_4.toInt from fun h9 => by omega), (show z_tkw r_211.toInt (1 : Int) from fun h9 h8 h7 => by omega), by rw [ht]; exact hP9, va_K.moved hW.alike hK9, hD9⟩⟩, hS.F ht⟩) hS.2.2 dX12_take_342
                exact loop_194 _ v_4 _ _ _ (Nat.lt_succ_self _) (show ((0 : Int) ≤ (v_4).toInt ∧ (v_4).toInt ≤ (700 : Int)) by omega) (show (mnx).toInt ≤ (v_4).toInt ∧ (v_4).toInt ≤ (mst).toInt by omega) (show (v_4).toInt ≤ (v_4).toInt by omega) (show (mnx).toInt + 1 ≤ (v_4).toInt ∨ ((v_4).toInt < (mst).toInt ∧ 97 ≤ (fa_te (v_4 : Int32).toNatClampNeg).toInt ∧ (fa_te (v_4 : Int32).toNatClampNeg).toInt ≤ 122) by omega) hP hD hS hl
              · have hw_192 : ¬ (v_4.toInt < mst.toInt ∧ 97 ≤ (fa_te v_4.toNatClampNeg).toInt ∧ (fa_te v_4.toNatClampNeg).toInt ≤ 122) := hw_192
                refine lv_if_eq (tgt := 240) hx hb dX12_take_87 (by decide) (fun _ => ?_) (fun c_303 => absurd (by decide) c_303)
                refine lv_aload_n hx hb dX12_take_240 rfl (lv_at hl 0 rfl) ?_
                refine lv_aload_n hx hb dX12_take_241 rfl (lv_at hl 0 rfl) ?_
                refine va_get (D := (dC, dI)) (ci := 12) (v := .int v_4) (C := RX12) (T := TX12) (N := 70) hx hb hts hiX12 hown hK hP 0 rfl rfl 31 (by decide) w__fieldLink_RX12_207_ShellHeapModel_next_I_ (fun _ h9 => h9) rfl dX12_take_242 ?_
                obtain ⟨hPc, hDc⟩ := z_sub2 (ws' := [(h0, .inr (12, [.ref a_te, h0_1, h0_2, h0_3, h0_4, h0_5, h0_6, h0_7, h0_8, h0_9, h0_10, h0_11, h0_12, h0_13, h0_14, h0_15, h0_16, h0_17, h0_18, h0_19, h0_20, h0_21, h0_22, h0_23, h0_24, h0_25, h0_26, .ref a_wd, .int mf, .int mfp, .int mst, .int v_4, .int mkd, .int mwh, .int v_4, h0_35, h0_36, h0_37, h0_38, h0_39, h0_40, h0_41, h0_42, h0_43, h0_44, h0_45, h0_46, h0_47, h0_48, h0_49, h0_50, h0_51, h0_52, h0_53, h0_54, h0_55, h0_56, h0_57, h0_58, h0_59, h0_60, h0_61, h0_62, h0_63, h0_64, h0_65, h0_66, h0_67, h0_68, h0_69])), (a_te, .inl (ca_te, 700, .inl fa_te))]) hP hD [0, 1] (by decide) rfl
                have hKc := hK.sub (tys' := [(ca_te, .int)]) [0] rfl
                have hFc := va_free (ws := []) (wc := []) (z_D0 _) hS hA [] rfl
                refine va_calli (va_runV (As := [.int v_4]) (rest := []) ⟨hx, hb, hml, hown, hts⟩ (s_X12_isDigit l dC dI H_190.size h0 v_4 a_te h0_1 h0_2 h0_3 h0_4 h0_5 h0_6 h0_7 h0_8 h0_9 h0_10 h0_11 h0_12 h0_13 h0_14 h0_15 h0_16 h0_17 h0_18 h0_19 h0_20 h0_21 h0_22 h0_23 h0_24 h0_25 h0_26 a_wd mf mfp mst v_4 mkd mwh v_4 h0_35 h0_36 h0_37 h0_38 h0_39 h0_40 h0_41 h0_42 h0_43 h0_44 h0_45 h0_46 h0_47 h0_48 h0_49 h0_50 h0_51 h0_52 h0_53 h0_54 h0_55 h0_56 h0_57 h0_58 h0_59 h0_60 h0_61 h0_62 h0_63 h0_64 h0_65 h0_66 h0_67 h0_68 h0_69 ca_te fa_te hB_mst hF_5 hB_mkd hF_5 hF_5 hI_a_te) (cwV 1 hts gw_s_X12_take_f_s_X12_isDigit_217 rfl rfl rfl (by decide +kernel) ⟨Nat.le_of_ble_eq_true rfl, Nat.le_of_ble_eq_true rfl⟩) ⟨z_blind, va_recv hKc hPc (ci := 12) (q0 := 0) rfl rfl, z_pre hPc hKc hDc⟩ rfl rfl hl.1 rfl (lv_room (Nat.le_of_ble_eq_true rfl)) dX12_take_245 ⟨Nat.le_of_ble_eq_true rfl, Nat.le_of_ble_eq_true rfl⟩) hS (fun q _ h => hFc q h) hFc (fun r_305 u t H_304 locs ht hvm hw_306 hB hz1 hk1 hS => ?_)
                replace hP := z_pure hP hk1
                clear hPc hDc hKc
                rcases hw_306 with ⟨rfl, hw_306⟩ | ⟨rfl, hw_306⟩
                · have hw_306 : (v_4.toInt < mst.toInt ∧ 48 ≤ (fa_te v_4.toNatClampNeg).toInt ∧ (fa_te v_4.toNatClampNeg).toInt ≤ 57) := hw_306
                  refine lv_if_eq (tgt := 263) hx hb dX12_take_248 (by decide) (fun c_307 => absurd c_307 (by decide)) (fun _ => ?_)
                  refine lv_aload_n hx hb dX12_take_251 rfl (lv_at hl 0 rfl) ?_
                  refine lv_iconst (v := 3) hx hb dX12_take_252 (by decide) ?_
                  refine va_put (D := (dC, dI)) (ci := 12) (v := .int 3) (ty := .int) (C := RX12) (T := TX12) (N := 70) hx hb hts hiX12 tyX12 tyX12_ok nmX12 hown hK hP hD hS 0 rfl rfl 32 (by decide) w__fieldLink_RX12_221_ShellHeapModel_kindNow_I_ (fun _ h9 => h9) rfl (by decide +kernel) rfl rfl (Nat.le_of_ble_eq_true rfl) dX12_take_253 (fun H_308 locs hP hD hS => ?_)
                  obtain ⟨hP, hD⟩ := z_s_0_32 hP hD
                  refine lv_aload_n hx hb dX12_take_256 rfl (lv_at hl 0 rfl) ?_
                  obtain ⟨hPc, hDc, hFc⟩ := z_sub3 (ws' := [(h0, .inr (12, [.ref a_te, h0_1, h0_2, h0_3, h0_4, h0_5, h0_6, h0_7, h0_8, h0_9, h0_10, h0_11, h0_12, h0_13, h0_14, h0_15, h0_16, h0_17, h0_18, h0_19, h0_20, h0_21, h0_22, h0_23, h0_24, h0_25, h0_26, .ref a_wd, .int mf, .int mfp, .int mst, .int v_4, .int 3, .int mwh, .int v_4, h0_35, h0_36, h0_37, h0_38, h0_39, h0_40, h0_41, h0_42, h0_43, h0_44, h0_45, h0_46, h0_47, h0_48, h0_49, h0_50, h0_51, h0_52, h0_53, h0_54, h0_55, h0_56, h0_57, h0_58, h0_59, h0_60, h0_61, h0_62, h0_63, h0_64, h0_65, h0_66, h0_67, h0_68, h0_69])), (a_te, .inl (ca_te, 700, .inl fa_te))]) hP hD hS hA [0, 1] (by decide) rfl
                  have hKc := hK.sub (tys' := [(ca_te, .int)]) [0] rfl
                  refine va_callv (va_runV (As := []) (rest := []) ⟨hx, hb, hml, hown, hts⟩ (s_X12_digits l dC dI H_308.size h0 a_te h0_1 h0_2 h0_3 h0_4 h0_5 h0_6 h0_7 h0_8 h0_9 h0_10 h0_11 h0_12 h0_13 h0_14 h0_15 h0_16 h0_17 h0_18 h0_19 h0_20 h0_21 h0_22 h0_23 h0_24 h0_25 h0_26 a_wd mf mfp mst v_4 3 mwh v_4 h0_35 h0_36 h0_37 h0_38 h0_39 h0_40 h0_41 h0_42 h0_43 h0_44 h0_45 h0_46 h0_47 h0_48 h0_49 h0_50 h0_51 h0_52 h0_53 h0_54 h0_55 h0_56 h0_57 h0_58 h0_59 h0_60 h0_61 h0_62 h0_63 h0_64 h0_65 h0_66 h0_67 h0_68 h0_69 ca_te fa_te hB_mst hF_5 (by decide) hF_5 hI_a_te (by first | omega | decide)) (cwV 0 hts gw_s_X12_take_f_s_X12_digits_230 rfl rfl rfl (by decide +kernel) ⟨Nat.le_of_ble_eq_true rfl, Nat.le_of_ble_eq_true rfl⟩) ⟨z_blind, va_recv hKc hPc (ci := 12) (q0 := 0) rfl rfl, z_pre hPc hKc hDc⟩ rfl rfl hl.1 rfl (lv_room (Nat.le_of_ble_eq_true rfl)) dX12_take_257 ⟨Nat.le_of_ble_eq_true rfl, Nat.le_of_ble_eq_true rfl⟩) hS (fun q _ h => hFc q h) hFc (fun u t H_309 locs ht hvm hw_311 hB hz1 hk1 hS => ?_)
                  obtain ⟨n_h0_next_312, n_h0_which_313, hp_314, hp_315, hp_316, hP1, hK1, hD1⟩ := hB
                  rw [ht] at hP1
                  have hK1 := va_K.moved hvm.symm hK1
                  obtain ⟨hP, hD⟩ := z_ap_1 (va_join (wr := [(a_wd, .inl (ca_wd, 115, .inl fa_wd))]) hP hD [0, 1] [2] rfl rfl (by decide) (by decide) hk1 hFc hP1 hD1)
                  have hp_316 : v_4.toInt + 1 ≤ n_h0_next_312.toInt ∧ n_h0_next_312.toInt ≤ mst.toInt := hp_316
                  clear hPc hDc hKc
                  refine lv_goto (tgt := 342) hx hb dX12_take_260 (by decide) ?_
                  refine z_backQ hQQ ?_
                  obtain ⟨hP9, hD9⟩ := z_sub2 (ws' := [(h0, .inr (12, [.ref a_te, h0_1, h0_2, h0_3, h0_4, h0_5, h0_6, h0_7, h0_8, h0_9, h0_10, h0_11, h0_12, h0_13, h0_14, h0_15, h0_16, h0_17, h0_18, h0_19, h0_20, h0_21, h0_22, h0_23, h0_24, h0_25, h0_26, .ref a_wd, .int mf, .int mfp, .int mst, .int n_h0_next_312, .int 3, .int n_h0_which_313, .int v_4, h0_35, h0_36, h0_37, h0_38, h0_39, h0_40, h0_41, h0_42, h0_43, h0_44, h0_45, h0_46, h0_47, h0_48, h0_49, h0_50, h0_51, h0_52, h0_53, h0_54, h0_55, h0_56, h0_57, h0_58, h0_59, h0_60, h0_61, h0_62, h0_63, h0_64, h0_65, h0_66, h0_67, h0_68, h0_69])), (a_te, .inl (ca_te, 700, .inl fa_te)), (a_wd, .inl (ca_wd, 115, .inl fa_wd))]) hP hD [1, 2, 0] (by decide) rfl
                  have hK9 := hK.sub (tys' := []) [] rfl
                  refine W.widen (k := 0) (n := 0) (Nat.le_of_ble_eq_true rfl) (Nat.le_of_ble_eq_true rfl) ?_
                  exact W.vret hx hb hr (fun t ht hW => ⟨⟨(), rfl, trivial, ⟨n_h0_next_312, 3, n_h0_which_313, v_4, hp_314, (by decide), hF_5, (show mnx.toInt ≤ n_h0_next_312.toInt ∧ n_h0_next_312.toInt ≤ mst.toInt by omega), (show (3 : Int) ≤ 8 * (n_h0_next_312.toInt - mnx.toInt) by omega), (show v_4.toInt ≤ n_h0_next_312.toInt by omega), (show z_tk8 (3 : Int) n_h0_next_312.toInt v_4.toInt from fun h9 => by omega), (show z_tkw n_h0_which_313.toInt (3 : Int) from fun h9 h8 h7 => by omega), by rw [ht]; exact hP9, va_K.moved hW.alike hK9, hD9⟩⟩, hS.F ht⟩) hS.2.2 dX12_take_342
                · have hw_306 : ¬ (v_4.toInt < mst.toInt ∧ 48 ≤ (fa_te v_4.toNatClampNeg).toInt ∧ (fa_te v_4.toNatClampNeg).toInt ≤ 57) := hw_306
                  refine lv_if_eq (tgt := 263) hx hb dX12_take_248 (by decide) (fun _ => ?_) (fun c_317 => absurd (by decide) c_317)
                  refine lv_aload_n hx hb dX12_take_263 rfl (lv_at hl 0 rfl) ?_
                  refine va_get (D := (dC, dI)) (ci := 12) (v := .ref a_te) (C := RX12) (T := TX12) (N := 70) hx hb hts hiX12 hown hK hP 0 rfl rfl 0 (by decide) w__fieldLink_RX12_7_ShellHeapModel_tape_I_ (fun _ h9 => h9) rfl dX12_take_264 ?_
                  refine lv_aload_n hx hb dX12_take_267 rfl (lv_at hl 0 rfl) ?_
                  refine va_get (D := (dC, dI)) (ci := 12) (v := .int v_4) (C := RX12) (T := TX12) (N := 70) hx hb hts hiX12 hown hK hP 0 rfl rfl 31 (by decide) w__fieldLink_RX12_207_ShellHeapModel_next_I_ (fun _ h9 => h9) rfl dX12_take_268 ?_
                  refine va_iald hx hb hK hP 1 0 rfl rfl (z_vpin (by omega) (by omega)) dX12_take_271 ?_
                  refine lv_topi (fun z_318 ez_318 => ?_)
                  have kz_318 : ((0 : Int) ≤ (z_318).toInt ∧ (z_318).toInt ≤ (255 : Int)) := by rw [ez_318]; exact hI_a_te _
                  refine lv_istore_n (lv' := [(2, .int z_318), (0, .ref h0), (1, .int 1)]) hx hb dX12_take_272 rfl hl (by decide) rfl (fun ls hl => ?_)
                  refine lv_aload_n hx hb dX12_take_273 rfl (lv_at hl 1 rfl) ?_
                  refine lv_dup hx hb dX12_take_274 rfl ?_
                  refine va_get (D := (dC, dI)) (ci := 12) (v := .int v_4) (C := RX12) (T := TX12) (N := 70) hx hb hts hiX12 hown hK hP 0 rfl rfl 31 (by decide) w__fieldLink_RX12_207_ShellHeapModel_next_I_ (fun _ h9 => h9) rfl dX12_take_275 ?_
                  refine lv_iconst (v := 1) hx hb dX12_take_278 (by decide) ?_
                  refine lv_iadd hx hb dX12_take_279 ?_
                  refine lv_topi (fun z_319 ez_319 => ?_)
                  have kz_319 : (z_319).toInt = (v_4).toInt + (1 : Int) := by rw [ez_319]; exact z_add (a := (v_4).toInt) (b := (1 : Int)) rfl rfl (z_al hF_5.1 (by decide)) (z_ah hF_5.2 (by decide))
                  refine va_put (D := (dC, dI)) (ci := 12) (v := .int z_319) (ty := .int) (C := RX12) (T := TX12) (N := 70) hx hb hts hiX12 tyX12 tyX12_ok nmX12 hown hK hP hD hS 0 rfl rfl 31 (by decide) w__fieldLink_RX12_207_ShellHeapModel_next_I_ (fun _ h9 => h9) rfl (by decide +kernel) rfl rfl (Nat.le_of_ble_eq_true rfl) dX12_take_280 (fun H_320 locs hP hD hS => ?_)
                  obtain ⟨hP, hD⟩ := z_s_0_31 hP hD
                  refine lv_aload_n hx hb dX12_take_283 rfl (lv_at hl 1 rfl) ?_
                  refine lv_aload_n hx hb dX12_take_284 rfl (lv_at hl 1 rfl) ?_
                  refine lv_iload_n hx hb dX12_take_285 rfl (lv_at hl 0 rfl) ?_
                  obtain ⟨hPc, hDc⟩ := z_sub2 (ws' := [(h0, .inr (12, [.ref a_te, h0_1, h0_2, h0_3, h0_4, h0_5, h0_6, h0_7, h0_8, h0_9, h0_10, h0_11, h0_12, h0_13, h0_14, h0_15, h0_16, h0_17, h0_18, h0_19, h0_20, h0_21, h0_22, h0_23, h0_24, h0_25, h0_26, .ref a_wd, .int mf, .int mfp, .int mst, .int z_319, .int mkd, .int mwh, .int v_4, h0_35, h0_36, h0_37, h0_38, h0_39, h0_40, h0_41, h0_42, h0_43, h0_44, h0_45, h0_46, h0_47, h0_48, h0_49, h0_50, h0_51, h0_52, h0_53, h0_54, h0_55, h0_56, h0_57, h0_58, h0_59, h0_60, h0_61, h0_62, h0_63, h0_64, h0_65, h0_66, h0_67, h0_68, h0_69])), (a_te, .inl (ca_te, 700, .inl fa_te))]) hP hD [0, 1] (by decide) rfl
                  have hKc := hK.sub (tys' := [(ca_te, .int)]) [0] rfl
                  have hFc := va_free (ws := []) (wc := []) (z_D0 _) hS hA [] rfl
                  refine va_calli (va_runV (As := [.int z_318]) (rest := [.ref h0]) ⟨hx, hb, hml, hown, hts⟩ (s_X12_signOf l dC dI H_320.size h0 z_318 a_te h0_1 h0_2 h0_3 h0_4 h0_5 h0_6 h0_7 h0_8 h0_9 h0_10 h0_11 h0_12 h0_13 h0_14 h0_15 h0_16 h0_17 h0_18 h0_19 h0_20 h0_21 h0_22 h0_23 h0_24 h0_25 h0_26 a_wd mf mfp mst z_319 mkd mwh v_4 h0_35 h0_36 h0_37 h0_38 h0_39 h0_40 h0_41 h0_42 h0_43 h0_44 h0_45 h0_46 h0_47 h0_48 h0_49 h0_50 h0_51 h0_52 h0_53 h0_54 h0_55 h0_56 h0_57 h0_58 h0_59 h0_60 h0_61 h0_62 h0_63 h0_64 h0_65 h0_66 h0_67 h0_68 h0_69 ca_te fa_te hB_mst (by first | omega | decide) hB_mkd hF_5 kz_318 hI_a_te) (cwV 1 hts gw_s_X12_take_f_s_X12_signOf_233 rfl rfl rfl (by decide +kernel) ⟨Nat.le_of_ble_eq_true rfl, Nat.le_of_ble_eq_true rfl⟩) ⟨z_blind, va_recv hKc hPc (ci := 12) (q0 := 0) rfl rfl, z_pre hPc hKc hDc⟩ rfl rfl hl.1 rfl (lv_room (Nat.le_of_ble_eq_true rfl)) dX12_take_286 ⟨Nat.le_of_ble_eq_true rfl, Nat.le_of_ble_eq_true rfl⟩) hS (fun q _ h => hFc q h) hFc (fun r_322 u t H_321 locs ht hvm hw_323 hB hz1 hk1 hS => ?_)
                  replace hP := z_pure hP hk1
                  clear hPc hDc hKc
                  refine va_put (D := (dC, dI)) (ci := 12) (v := .int r_322) (ty := .int) (C := RX12) (T := TX12) (N := 70) hx hb hts hiX12 tyX12 tyX12_ok nmX12 hown hK hP hD hS 0 rfl rfl 33 (by decide) w__fieldLink_RX12_214_ShellHeapModel_which_I_ (fun _ h9 => h9) rfl (by decide +kernel) rfl rfl (Nat.le_of_ble_eq_true rfl) dX12_take_289 (fun H_324 locs hP hD hS => ?_)
                  obtain ⟨hP, hD⟩ := z_s_0_33 hP hD
                  refine lv_aload_n hx hb dX12_take_292 rfl (lv_at hl 1 rfl) ?_
                  refine lv_aload_n hx hb dX12_take_293 rfl (lv_at hl 1 rfl) ?_
                  refine va_get (D := (dC, dI)) (ci := 12) (v := .int r_322) (C := RX12) (T := TX12) (N := 70) hx hb hts hiX12 hown hK hP 0 rfl rfl 33 (by decide) w__fieldLink_RX12_214_ShellHeapModel_which_I_ (fun _ h9 => h9) rfl dX12_take_294 ?_
                  refine lv_if_ge (tgt := 304) hx hb dX12_take_297 (by decide) (fun c_325 => ?_) (fun c_325 => ?_)
                  · have k_326 : (0 : Int) ≤ (r_322).toInt := z_le c_325
                    refine lv_iconst (v := 4) hx hb dX12_take_304 (by decide) ?_
                    refine va_put (D := (dC, dI)) (ci := 12) (v := .int 4) (ty := .int) (C := RX12) (T := TX12) (N := 70) hx hb hts hiX12 tyX12 tyX12_ok nmX12 hown hK hP hD hS 0 rfl rfl 32 (by decide) w__fieldLink_RX12_221_ShellHeapModel_kindNow_I_ (fun _ h9 => h9) rfl (by decide +kernel) rfl rfl (Nat.le_of_ble_eq_true rfl) dX12_take_305 (fun H_327 locs hP hD hS => ?_)
                    obtain ⟨hP, hD⟩ := z_s_0_32 hP hD
                    refine lv_aload_n hx hb dX12_take_308 rfl (lv_at hl 1 rfl) ?_
                    refine va_get (D := (dC, dI)) (ci := 12) (v := .int r_322) (C := RX12) (T := TX12) (N := 70) hx hb hts hiX12 hown hK hP 0 rfl rfl 33 (by decide) w__fieldLink_RX12_214_ShellHeapModel_which_I_ (fun _ h9 => h9) rfl dX12_take_309 ?_
                    refine lv_iconst (v := 2) hx hb dX12_take_312 (by decide) ?_
                    refine lv_icmp_eq (tgt := 332) hx hb dX12_take_313 (by decide) (fun c_328 => ?_) (fun c_328 => ?_)
                    · have k_329 : (r_322).toInt = (2 : Int) := z_eq c_328
                      obtain rfl : r_322 = 2 := z_eq' (show (r_322).toInt = (2 : Int) by omega)
                      refine lv_aload_n hx hb dX12_take_332 rfl (lv_at hl 1 rfl) ?_
                      refine lv_dup hx hb dX12_take_333 rfl ?_
                      refine va_get (D := (dC, dI)) (ci := 12) (v := .int z_319) (C := RX12) (T := TX12) (N := 70) hx hb hts hiX12 hown hK hP 0 rfl rfl 31 (by decide) w__fieldLink_RX12_207_ShellHeapModel_next_I_ (fun _ h9 => h9) rfl dX12_take_334 ?_
                      refine lv_iconst (v := 1) hx hb dX12_take_337 (by decide) ?_
                      refine lv_iadd hx hb dX12_take_338 ?_
                      refine lv_topi (fun z_331 ez_331 => ?_)
                      have kz_331 : (z_331).toInt = (z_319).toInt + (1 : Int) := by rw [ez_331]; exact z_add (a := (z_319).toInt) (b := (1 : Int)) rfl rfl (by omega) (by omega)
                      refine va_put (D := (dC, dI)) (ci := 12) (v := .int z_331) (ty := .int) (C := RX12) (T := TX12) (N := 70) hx hb hts hiX12 tyX12 tyX12_ok nmX12 hown hK hP hD hS 0 rfl rfl 31 (by decide) w__fieldLink_RX12_207_ShellHeapModel_next_I_ (fun _ h9 => h9) rfl (by decide +kernel) rfl rfl (Nat.le_of_ble_eq_true rfl) dX12_take_339 (fun H_332 locs hP hD hS => ?_)
                      obtain ⟨hP, hD⟩ := z_s_0_31 hP hD
                      refine z_backQ hQQ ?_
                      have hP9 := hP
                      have hD9 := hD
                      have hK9 := hK.sub (tys' := []) [] rfl
                      refine W.widen (k := 0) (n := 0) (Nat.le_of_ble_eq_true rfl) (Nat.le_of_ble_eq_true rfl) ?_
                      exact W.vret hx hb hr (fun t ht hW => ⟨⟨(), rfl, trivial, ⟨z_331, 4, 2, v_4, (by first | omega | decide), (by decide), hF_5, (show mnx.toInt ≤ z_331.toInt ∧ z_331.toInt ≤ mst.toInt by omega), (show (4 : Int) ≤ 8 * (z_331.toInt - mnx.toInt) by omega), (show v_4.toInt ≤ z_331.toInt by omega), (show z_tk8 (4 : Int) z_331.toInt v_4.toInt from fun h9 => by omega), (show z_tkw (2 : Int) (4 : Int) from fun h9 h8 h7 => by omega), by rw [ht]; exact hP9, va_K.moved hW.alike hK9, hD9⟩⟩, hS.F ht⟩) hS.2.2 dX12_take_342
                    · have k_333 : (r_322).toInt ≠ (2 : Int) := z_ne c_328
                      refine lv_aload_n hx hb dX12_take_316 rfl (lv_at hl 1 rfl) ?_
                      refine va_get (D := (dC, dI)) (ci := 12) (v := .int r_322) (C := RX12) (T := TX12) (N := 70) hx hb hts hiX12 hown hK hP 0 rfl rfl 33 (by decide) w__fieldLink_RX12_214_ShellHeapModel_which_I_ (fun _ h9 => h9) rfl dX12_take_317 ?_
                      refine lv_iconst (v := 4) hx hb dX12_take_320 (by decide) ?_
                      refine lv_icmp_eq (tgt := 332) hx hb dX12_take_321 (by decide) (fun c_334 => ?_) (fun c_334 => ?_)
                      · have k_335 : (r_322).toInt = (4 : Int) := z_eq c_334
                        obtain rfl : r_322 = 4 := z_eq' (show (r_322).toInt = (4 : Int) by omega)
                        refine lv_aload_n hx hb dX12_take_332 rfl (lv_at hl 1 rfl) ?_
                        refine lv_dup hx hb dX12_take_333 rfl ?_
                        refine va_get (D := (dC, dI)) (ci := 12) (v := .int z_319) (C := RX12) (T := TX12) (N := 70) hx hb hts hiX12 hown hK hP 0 rfl rfl 31 (by decide) w__fieldLink_RX12_207_ShellHeapModel_next_I_ (fun _ h9 => h9) rfl dX12_take_334 ?_
                        refine lv_iconst (v := 1) hx hb dX12_take_337 (by decide) ?_
                        refine lv_iadd hx hb dX12_take_338 ?_
                        refine lv_topi (fun z_337 ez_337 => ?_)
                        have kz_337 : (z_337).toInt = (z_319).toInt + (1 : Int) := by rw [ez_337]; exact z_add (a := (z_319).toInt) (b := (1 : Int)) rfl rfl (by omega) (by omega)
                        refine va_put (D := (dC, dI)) (ci := 12) (v := .int z_337) (ty := .int) (C := RX12) (T := TX12) (N := 70) hx hb hts hiX12 tyX12 tyX12_ok nmX12 hown hK hP hD hS 0 rfl rfl 31 (by decide) w__fieldLink_RX12_207_ShellHeapModel_next_I_ (fun _ h9 => h9) rfl (by decide +kernel) rfl rfl (Nat.le_of_ble_eq_true rfl) dX12_take_339 (fun H_338 locs hP hD hS => ?_)
                        obtain ⟨hP, hD⟩ := z_s_0_31 hP hD
                        refine z_backQ hQQ ?_
                        have hP9 := hP
                        have hD9 := hD
                        have hK9 := hK.sub (tys' := []) [] rfl
                        refine W.widen (k := 0) (n := 0) (Nat.le_of_ble_eq_true rfl) (Nat.le_of_ble_eq_true rfl) ?_
                        exact W.vret hx hb hr (fun t ht hW => ⟨⟨(), rfl, trivial, ⟨z_337, 4, 4, v_4, (by first | omega | decide), (by decide), hF_5, (show mnx.toInt ≤ z_337.toInt ∧ z_337.toInt ≤ mst.toInt by omega), (show (4 : Int) ≤ 8 * (z_337.toInt - mnx.toInt) by omega), (show v_4.toInt ≤ z_337.toInt by omega), (show z_tk8 (4 : Int) z_337.toInt v_4.toInt from fun h9 => by omega), (show z_tkw (4 : Int) (4 : Int) from fun h9 h8 h7 => by omega), by rw [ht]; exact hP9, va_K.moved hW.alike hK9, hD9⟩⟩, hS.F ht⟩) hS.2.2 dX12_take_342
                      · have k_339 : (r_322).toInt ≠ (4 : Int) := z_ne c_334
                        refine lv_aload_n hx hb dX12_take_324 rfl (lv_at hl 1 rfl) ?_
                        refine va_get (D := (dC, dI)) (ci := 12) (v := .int r_322) (C := RX12) (T := TX12) (N := 70) hx hb hts hiX12 hown hK hP 0 rfl rfl 33 (by decide) w__fieldLink_RX12_214_ShellHeapModel_which_I_ (fun _ h9 => h9) rfl dX12_take_325 ?_
                        refine lv_iconst (v := 5) hx hb dX12_take_328 (by decide) ?_
                        refine lv_icmp_ne (tgt := 342) hx hb dX12_take_329 (by decide) (fun c_340 => ?_) (fun c_340 => ?_)
                        · have k_341 : (r_322).toInt ≠ (5 : Int) := z_ne c_340
                          refine z_backQ hQQ ?_
                          have hP9 := hP
                          have hD9 := hD
                          have hK9 := hK.sub (tys' := []) [] rfl
                          refine W.widen (k := 0) (n := 0) (Nat.le_of_ble_eq_true rfl) (Nat.le_of_ble_eq_true rfl) ?_
                          exact W.vret hx hb hr (fun t ht hW => ⟨⟨(), rfl, trivial, ⟨z_319, 4, r_322, v_4, (by first | omega | decide), (by decide), hF_5, (show mnx.toInt ≤ z_319.toInt ∧ z_319.toInt ≤ mst.toInt by omega), (show (4 : Int) ≤ 8 * (z_319.toInt - mnx.toInt) by omega), (show v_4.toInt ≤ z_319.toInt by omega), (show z_tk8 (4 : Int) z_319.toInt v_4.toInt from fun h9 => by omega), (show z_tkw r_322.toInt (4 : Int) from fun h9 h8 h7 => by omega), by rw [ht]; exact hP9, va_K.moved hW.alike hK9, hD9⟩⟩, hS.F ht⟩) hS.2.2 dX12_take_342
                        · have k_342 : (r_322).toInt = (5 : Int) := z_eq c_340
                          obtain rfl : r_322 = 5 := z_eq' (show (r_322).toInt = (5 : Int) by omega)
                          refine lv_aload_n hx hb dX12_take_332 rfl (lv_at hl 1 rfl) ?_
                          refine lv_dup hx hb dX12_take_333 rfl ?_
                          refine va_get (D := (dC, dI)) (ci := 12) (v := .int z_319) (C := RX12) (T := TX12) (N := 70) hx hb hts hiX12 hown hK hP 0 rfl rfl 31 (by decide) w__fieldLink_RX12_207_ShellHeapModel_next_I_ (fun _ h9 => h9) rfl dX12_take_334 ?_
                          refine lv_iconst (v := 1) hx hb dX12_take_337 (by decide) ?_
                          refine lv_iadd hx hb dX12_take_338 ?_
                          refine lv_topi (fun z_344 ez_344 => ?_)
                          have kz_344 : (z_344).toInt = (z_319).toInt + (1 : Int) := by rw [ez_344]; exact z_add (a := (z_319).toInt) (b := (1 : Int)) rfl rfl (by omega) (by omega)
                          refine va_put (D := (dC, dI)) (ci := 12) (v := .int z_344) (ty := .int) (C := RX12) (T := TX12) (N := 70) hx hb hts hiX12 tyX12 tyX12_ok nmX12 hown hK hP hD hS 0 rfl rfl 31 (by decide) w__fieldLink_RX12_207_ShellHeapModel_next_I_ (fun _ h9 => h9) rfl (by decide +kernel) rfl rfl (Nat.le_of_ble_eq_true rfl) dX12_take_339 (fun H_345 locs hP hD hS => ?_)
                          obtain ⟨hP, hD⟩ := z_s_0_31 hP hD
                          refine z_backQ hQQ ?_
                          have hP9 := hP
                          have hD9 := hD
                          have hK9 := hK.sub (tys' := []) [] rfl
                          refine W.widen (k := 0) (n := 0) (Nat.le_of_ble_eq_true rfl) (Nat.le_of_ble_eq_true rfl) ?_
                          exact W.vret hx hb hr (fun t ht hW => ⟨⟨(), rfl, trivial, ⟨z_344, 4, 5, v_4, (by first | omega | decide), (by decide), hF_5, (show mnx.toInt ≤ z_344.toInt ∧ z_344.toInt ≤ mst.toInt by omega), (show (4 : Int) ≤ 8 * (z_344.toInt - mnx.toInt) by omega), (show v_4.toInt ≤ z_344.toInt by omega), (show z_tk8 (4 : Int) z_344.toInt v_4.toInt from fun h9 => by omega), (show z_tkw (5 : Int) (4 : Int) from fun h9 h8 h7 => by omega), by rw [ht]; exact hP9, va_K.moved hW.alike hK9, hD9⟩⟩, hS.F ht⟩) hS.2.2 dX12_take_342
                  · have k_346 : (0 : Int) > (r_322).toInt := z_nle c_325
                    obtain rfl : r_322 = (-1) := z_eq' (show (r_322).toInt = (-1 : Int) by omega)
                    refine lv_iconst (v := 5) hx hb dX12_take_300 (by decide) ?_
                    refine lv_goto (tgt := 305) hx hb dX12_take_301 (by decide) ?_
                    refine va_put (D := (dC, dI)) (ci := 12) (v := .int 5) (ty := .int) (C := RX12) (T := TX12) (N := 70) hx hb hts hiX12 tyX12 tyX12_ok nmX12 hown hK hP hD hS 0 rfl rfl 32 (by decide) w__fieldLink_RX12_221_ShellHeapModel_kindNow_I_ (fun _ h9 => h9) rfl (by decide +kernel) rfl rfl (Nat.le_of_ble_eq_true rfl) dX12_take_305 (fun H_348 locs hP hD hS => ?_)
                    obtain ⟨hP, hD⟩ := z_s_0_32 hP hD
                    refine lv_aload_n hx hb dX12_take_308 rfl (lv_at hl 1 rfl) ?_
                    refine va_get (D := (dC, dI)) (ci := 12) (v := .int (-1)) (C := RX12) (T := TX12) (N := 70) hx hb hts hiX12 hown hK hP 0 rfl rfl 33 (by decide) w__fieldLink_RX12_214_ShellHeapModel_which_I_ (fun _ h9 => h9) rfl dX12_take_309 ?_
                    refine lv_iconst (v := 2) hx hb dX12_take_312 (by decide) ?_
                    refine lv_icmp_eq (tgt := 332) hx hb dX12_take_313 (by decide) (fun c_349 => absurd c_349 (by decide)) (fun _ => ?_)
                    refine lv_aload_n hx hb dX12_take_316 rfl (lv_at hl 1 rfl) ?_
                    refine va_get (D := (dC, dI)) (ci := 12) (v := .int (-1)) (C := RX12) (T := TX12) (N := 70) hx hb hts hiX12 hown hK hP 0 rfl rfl 33 (by decide) w__fieldLink_RX12_214_ShellHeapModel_which_I_ (fun _ h9 => h9) rfl dX12_take_317 ?_
                    refine lv_iconst (v := 4) hx hb dX12_take_320 (by decide) ?_
                    refine lv_icmp_eq (tgt := 332) hx hb dX12_take_321 (by decide) (fun c_350 => absurd c_350 (by decide)) (fun _ => ?_)
                    refine lv_aload_n hx hb dX12_take_324 rfl (lv_at hl 1 rfl) ?_
                    refine va_get (D := (dC, dI)) (ci := 12) (v := .int (-1)) (C := RX12) (T := TX12) (N := 70) hx hb hts hiX12 hown hK hP 0 rfl rfl 33 (by decide) w__fieldLink_RX12_214_ShellHeapModel_which_I_ (fun _ h9 => h9) rfl dX12_take_325 ?_
                    refine lv_iconst (v := 5) hx hb dX12_take_328 (by decide) ?_
                    refine lv_icmp_ne (tgt := 342) hx hb dX12_take_329 (by decide) (fun _ => ?_) (fun c_351 => absurd c_351 (by decide))
                    refine z_backQ hQQ ?_
                    have hP9 := hP
                    have hD9 := hD
                    have hK9 := hK.sub (tys' := []) [] rfl
                    refine W.widen (k := 0) (n := 0) (Nat.le_of_ble_eq_true rfl) (Nat.le_of_ble_eq_true rfl) ?_
                    exact W.vret hx hb hr (fun t ht hW => ⟨⟨(), rfl, trivial, ⟨z_319, 5, (-1), v_4, (by first | omega | decide), (by decide), hF_5, (show mnx.toInt ≤ z_319.toInt ∧ z_319.toInt ≤ mst.toInt by omega), (show (5 : Int) ≤ 8 * (z_319.toInt - mnx.toInt) by omega), (show v_4.toInt ≤ z_319.toInt by omega), (show z_tk8 (5 : Int) z_319.toInt v_4.toInt from fun h9 => by omega), (show z_tkw (-1 : Int) (5 : Int) from fun h9 h8 h7 => by omega), by rw [ht]; exact hP9, va_K.moved hW.alike hK9, hD9⟩⟩, hS.F ht⟩) hS.2.2 dX12_take_342
            · have k_352 : (v_4).toInt = (mst).toInt := z_eq c_188
              refine lv_aload_n hx hb dX12_take_71 rfl (lv_at hl 0 rfl) ?_
              refine lv_iconst (v := 0) hx hb dX12_take_72 (by decide) ?_
              refine va_put (D := (dC, dI)) (ci := 12) (v := .int 0) (ty := .int) (C := RX12) (T := TX12) (N := 70) hx hb hts hiX12 tyX12 tyX12_ok nmX12 hown hK hP hD hS 0 rfl rfl 32 (by decide) w__fieldLink_RX12_221_ShellHeapModel_kindNow_I_ (fun _ h9 => h9) rfl (by decide +kernel) rfl rfl (Nat.le_of_ble_eq_true rfl) dX12_take_73 (fun H_353 locs hP hD hS => ?_)
              obtain ⟨hP, hD⟩ := z_s_0_32 hP hD
              refine lv_goto (tgt := 342) hx hb dX12_take_76 (by decide) ?_
              refine z_backQ hQQ ?_
              have hP9 := hP
              have hD9 := hD
              have hK9 := hK.sub (tys' := []) [] rfl
              refine W.widen (k := 0) (n := 0) (Nat.le_of_ble_eq_true rfl) (Nat.le_of_ble_eq_true rfl) ?_
              exact W.vret hx hb hr (fun t ht hW => ⟨⟨(), rfl, trivial, ⟨v_4, 0, mwh, v_4, hF_5, (by decide), hF_5, (show mnx.toInt ≤ v_4.toInt ∧ v_4.toInt ≤ mst.toInt by omega), (show (0 : Int) ≤ 8 * (v_4.toInt - mnx.toInt) by omega), (show v_4.toInt ≤ v_4.toInt by omega), (show z_tk8 (0 : Int) v_4.toInt v_4.toInt from fun h9 => by omega), (show z_tkw mwh.toInt (0 : Int) from fun h9 h8 h7 => by omega), by rw [ht]; exact hP9, va_K.moved hW.alike hK9, hD9⟩⟩, hS.F ht⟩) hS.2.2 dX12_take_342
          · have k_354 : (z_184).toInt = (32 : Int) := z_eq c_185
            obtain rfl : z_184 = 32 := z_eq' (show (z_184).toInt = (32 : Int) by omega)
            refine lv_aload_n hx hb dX12_take_39 rfl (lv_at hl 0 rfl) ?_
            refine lv_dup hx hb dX12_take_40 rfl ?_
            refine va_get (D := (dC, dI)) (ci := 12) (v := .int v_4) (C := RX12) (T := TX12) (N := 70) hx hb hts hiX12 hown hK hP 0 rfl rfl 31 (by decide) w__fieldLink_RX12_207_ShellHeapModel_next_I_ (fun _ h9 => h9) rfl dX12_take_41 ?_
            refine lv_iconst (v := 1) hx hb dX12_take_44 (by decide) ?_
            refine lv_iadd hx hb dX12_take_45 ?_
            refine lv_topi (fun z_356 ez_356 => ?_)
            have kz_356 : (z_356).toInt = (v_4).toInt + (1 : Int) := by rw [ez_356]; exact z_add (a := (v_4).toInt) (b := (1 : Int)) rfl rfl (z_al hF_5.1 (by decide)) (z_ah hF_5.2 (by decide))
            refine va_put (D := (dC, dI)) (ci := 12) (v := .int z_356) (ty := .int) (C := RX12) (T := TX12) (N := 70) hx hb hts hiX12 tyX12 tyX12_ok nmX12 hown hK hP hD hS 0 rfl rfl 31 (by decide) w__fieldLink_RX12_207_ShellHeapModel_next_I_ (fun _ h9 => h9) rfl (by decide +kernel) rfl rfl (Nat.le_of_ble_eq_true rfl) dX12_take_46 (fun H_357 locs hP hD hS => ?_)
            obtain ⟨hP, hD⟩ := z_s_0_31 hP hD
            refine lv_goto (tgt := 0) hx hb dX12_take_49 (by decide) ?_
            exact ih_3 z_356 _ _ _ (show (701 - (z_356).toInt).toNat < n_2 by omega) (show ((0 : Int) ≤ (z_356).toInt ∧ (z_356).toInt ≤ (700 : Int)) by omega) (show (mnx).toInt ≤ (z_356).toInt ∧ (z_356).toInt ≤ (mst).toInt by omega) hP hD hS (lv_sub hl [0, 1] rfl)
  exact loop_1 _ mnx _ _ _ (Nat.lt_succ_self _) (show ((0 : Int) ≤ (mnx).toInt ∧ (mnx).toInt ≤ (700 : Int)) by omega) (show (mnx).toInt ≤ (mnx).toInt ∧ (mnx).toInt ≤ (mst).toInt by omega) hP hD hS hl
