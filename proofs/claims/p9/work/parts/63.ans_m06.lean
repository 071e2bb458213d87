def u_s_X12_take3 : List Cond := .code yX12_take cX12_take 3 none :: ([.fieldLink RX12 207 "ShellHeapModel" "next" "I", .fieldLink RX12 204 "ShellHeapModel" "stop" "I", .fieldLink RX12 201 "ShellHeapModel" "place" "I", .methodLink RX12 224 yX12_isSmall, .instanceMethod yX12_isSmall, .selects RX12 yX12_isSmall yX12_isSmall, .initialized RX12, .methodLink RX12 227 yX12_wordAt, .instanceMethod yX12_wordAt, .selects RX12 yX12_wordAt yX12_wordAt, .fieldLink RX12 214 "ShellHeapModel" "which" "I", .fieldLink RX12 221 "ShellHeapModel" "kindNow" "I", .methodLink RX12 217 yX12_isDigit, .instanceMethod yX12_isDigit, .selects RX12 yX12_isDigit yX12_isDigit, .methodLink RX12 230 yX12_digits, .instanceMethod yX12_digits, .selects RX12 yX12_digits yX12_digits, .fieldLink RX12 7 "ShellHeapModel" "tape" "[I", .methodLink RX12 233 yX12_signOf, .instanceMethod yX12_signOf, .selects RX12 yX12_signOf yX12_signOf] ++ (wsX120 ++ (u_s_X12_isSmall ++ (u_s_X12_wordAt3 ++ (u_s_X12_isDigit ++ (u_s_X12_digits3 ++ (u_s_X12_signOf3 ++ [])))))))
theorem gd_s_X12_take3 : z_gd u_s_X12_take3 := z_gdc (by decide +kernel) (z_gda gdX12 (z_gda gd_s_X12_isSmall (z_gda gd_s_X12_wordAt3 (z_gda gd_s_X12_isDigit (z_gda gd_s_X12_digits3 (z_gda gd_s_X12_signOf3 (z_gd0)))))))
set_option maxRecDepth 20000 in
theorem gw_s_X12_take3_s_X12_isSmall_224 : GoodIn u_s_X12_take3 (wsV RX12 224 RX12 yX12_isSmall u_s_X12_isSmall) := z_gV (z_gr _ [4, 5, 6, 7] rfl (by decide +kernel)) (fun w h => ⟨z_mc (z_mr (z_mr (z_ml h))), gd_s_X12_isSmall w h⟩)
set_option maxRecDepth 20000 in
theorem gw_s_X12_take3_s_X12_wordAt3_227 : GoodIn u_s_X12_take3 (wsV RX12 227 RX12 yX12_wordAt u_s_X12_wordAt3) := z_gV (z_gr _ [8, 9, 10, 7] rfl (by decide +kernel)) (fun w h => ⟨z_mc (z_mr (z_mr (z_mr (z_ml h)))), gd_s_X12_wordAt3 w h⟩)
set_option maxRecDepth 20000 in
theorem gw_s_X12_take3_s_X12_isDigit_217 : GoodIn u_s_X12_take3 (wsV RX12 217 RX12 yX12_isDigit u_s_X12_isDigit) := z_gV (z_gr _ [13, 14, 15, 7] rfl (by decide +kernel)) (fun w h => ⟨z_mc (z_mr (z_mr (z_mr (z_mr (z_ml h))))), gd_s_X12_isDigit w h⟩)
set_option maxRecDepth 20000 in
theorem gw_s_X12_take3_s_X12_digits3_230 : GoodIn u_s_X12_take3 (wsV RX12 230 RX12 yX12_digits u_s_X12_digits3) := z_gV (z_gr _ [16, 17, 18, 7] rfl (by decide +kernel)) (fun w h => ⟨z_mc (z_mr (z_mr (z_mr (z_mr (z_mr (z_ml h)))))), gd_s_X12_digits3 w h⟩)
set_option maxRecDepth 20000 in
theorem gw_s_X12_take3_s_X12_signOf3_233 : GoodIn u_s_X12_take3 (wsV RX12 233 RX12 yX12_signOf u_s_X12_signOf3) := z_gV (z_gr _ [20, 21, 22, 7] rfl (by decide +kernel)) (fun w h => ⟨z_mc (z_mr (z_mr (z_mr (z_mr (z_mr (z_mr (z_ml h))))))), gd_s_X12_signOf3 w h⟩)
set_option maxHeartbeats 4000000 in
set_option maxRecDepth 100000 in
theorem s_X12_take3 (l : Launch) (dC : Nat → ClassId) (dI : Nat → Nat → Nat) (sz : Nat) (h0 : Nat) (a_te : Nat) (h0_1 : Value) (h0_2 : Value) (h0_3 : Value) (h0_4 : Value) (h0_5 : Value) (h0_6 : Value) (h0_7 : Value) (h0_8 : Value) (h0_9 : Value) (h0_10 : Value) (h0_11 : Value) (h0_12 : Value) (h0_13 : Value) (h0_14 : Value) (h0_15 : Value) (h0_16 : Value) (h0_17 : Value) (h0_18 : Value) (h0_19 : Value) (h0_20 : Value) (h0_21 : Value) (h0_22 : Value) (h0_23 : Value) (h0_24 : Value) (h0_25 : Value) (h0_26 : Value) (a_wd : Nat) (mf : Int32) (mfp : Int32) (mst : Int32) (mnx : Int32) (mkd : Int32) (mwh : Int32) (mpl : Int32) (h0_35 : Value) (h0_36 : Value) (h0_37 : Value) (h0_38 : Value) (h0_39 : Value) (h0_40 : Value) (h0_41 : Value) (h0_42 : Value) (h0_43 : Value) (h0_44 : Value) (h0_45 : Value) (h0_46 : Value) (h0_47 : Value) (h0_48 : Value) (h0_49 : Value) (h0_50 : Value) (h0_51 : Value) (h0_52 : Value) (h0_53 : Value) (h0_54 : Value) (h0_55 : Value) (h0_56 : Value) (h0_57 : Value) (h0_58 : Value) (h0_59 : Value) (h0_60 : Value) (h0_61 : Value) (h0_62 : Value) (h0_63 : Value) (h0_64 : Value) (h0_65 : Value) (h0_66 : Value) (h0_67 : Value) (h0_68 : Value) (h0_69 : Value) (ca_te : ClassId) (fa_te : Nat → Int32) (ca_wd : ClassId) (fa_wd : Nat → Int32) (hB_mst : ((0 : Int) ≤ (mst).toInt ∧ (mst).toInt ≤ (700 : Int))) (hB_mnx : ((0 : Int) ≤ (mnx).toInt ∧ (mnx).toInt ≤ (700 : Int))) (hB_mkd : ((0 : Int) ≤ (mkd).toInt ∧ (mkd).toInt ≤ (7 : Int))) (hB_mpl : ((0 : Int) ≤ (mpl).toInt ∧ (mpl).toInt ≤ (700 : Int))) (hI_a_te : ∀ j : Nat, ((0 : Int) ≤ (fa_te j).toInt ∧ (fa_te j).toInt ≤ (255 : Int))) (hWD : z_wd fa_wd) (hWX : ∀ j : Nat, j < 115 → fa_wd j = z_words j) (hle : mnx.toInt ≤ mst.toInt) : Met l yX12_take u_s_X12_take3 ({ frames := 2, cells := 0, slots := 0, locals := 43 }) (va_Pc [.ref h0, .int 1] (z_C (dC, dI) vwCl [(h0, .inr (12, [.ref a_te, h0_1, h0_2, h0_3, h0_4, h0_5, h0_6, h0_7, h0_8, h0_9, h0_10, h0_11, h0_12, h0_13, h0_14, h0_15, h0_16, h0_17, h0_18, h0_19, h0_20, h0_21, h0_22, h0_23, h0_24, h0_25, h0_26, .ref a_wd, .int mf, .int mfp, .int mst, .int mnx, .int mkd, .int mwh, .int mpl, h0_35, h0_36, h0_37, h0_38, h0_39, h0_40, h0_41, h0_42, h0_43, h0_44, h0_45, h0_46, h0_47, h0_48, h0_49, h0_50, h0_51, h0_52, h0_53, h0_54, h0_55, h0_56, h0_57, h0_58, h0_59, h0_60, h0_61, h0_62, h0_63, h0_64, h0_65, h0_66, h0_67, h0_68, h0_69])), (a_te, .inl (ca_te, 700, .inl fa_te)), (a_wd, .inl (ca_wd, 115, .inl fa_wd))] [(ca_te, .int), (ca_wd, .int)] sz)) (va_Qv (fun (_ : Unit) => True) (fun (_ : Unit) (t : State) => ∃ (n_h0_next : Int32), ∃ (n_h0_kindNow : Int32), ∃ (n_h0_which : Int32), ∃ (n_h0_place : Int32), ((0 : Int) ≤ (n_h0_next).toInt ∧ (n_h0_next).toInt ≤ (700 : Int)) ∧ ((0 : Int) ≤ (n_h0_kindNow).toInt ∧ (n_h0_kindNow).toInt ≤ (7 : Int)) ∧ ((0 : Int) ≤ (n_h0_place).toInt ∧ (n_h0_place).toInt ≤ (700 : Int)) ∧ (mnx.toInt ≤ n_h0_next.toInt ∧ n_h0_next.toInt ≤ mst.toInt) ∧ (n_h0_kindNow.toInt ≤ 8 * (n_h0_next.toInt - mnx.toInt)) ∧ (n_h0_place.toInt ≤ n_h0_next.toInt) ∧ (z_tk8 n_h0_kindNow.toInt n_h0_next.toInt n_h0_place.toInt) ∧ (z_tkw n_h0_which.toInt n_h0_kindNow.toInt) ∧ (f_M fa_te mst.toInt mnx.toInt n_h0_kindNow.toInt n_h0_which.toInt n_h0_next.toInt) ∧ va_P (dC, dI) vwCl [(h0, .inr (12, [.ref a_te, h0_1, h0_2, h0_3, h0_4, h0_5, h0_6, h0_7, h0_8, h0_9, h0_10, h0_11, h0_12, h0_13, h0_14, h0_15, h0_16, h0_17, h0_18, h0_19, h0_20, h0_21, h0_22, h0_23, h0_24, h0_25, h0_26, .ref a_wd, .int mf, .int mfp, .int mst, .int n_h0_next, .int n_h0_kindNow, .int n_h0_which, .int n_h0_place, h0_35, h0_36, h0_37, h0_38, h0_39, h0_40, h0_41, h0_42, h0_43, h0_44, h0_45, h0_46, h0_47, h0_48, h0_49, h0_50, h0_51, h0_52, h0_53, h0_54, h0_55, h0_56, h0_57, h0_58, h0_59, h0_60, h0_61, h0_62, h0_63, h0_64, h0_65, h0_66, h0_67, h0_68, h0_69])), (a_te, .inl (ca_te, 700, .inl fa_te)), (a_wd, .inl (ca_wd, 115, .inl fa_wd))] t.heap ∧ va_K (dC, dI) vwCl [] t ∧ va_D (va_A [(h0, .inr (12, [.ref a_te, h0_1, h0_2, h0_3, h0_4, h0_5, h0_6, h0_7, h0_8, h0_9, h0_10, h0_11, h0_12, h0_13, h0_14, h0_15, h0_16, h0_17, h0_18, h0_19, h0_20, h0_21, h0_22, h0_23, h0_24, h0_25, h0_26, .ref a_wd, .int mf, .int mfp, .int mst, .int mnx, .int mkd, .int mwh, .int mpl, h0_35, h0_36, h0_37, h0_38, h0_39, h0_40, h0_41, h0_42, h0_43, h0_44, h0_45, h0_46, h0_47, h0_48, h0_49, h0_50, h0_51, h0_52, h0_53, h0_54, h0_55, h0_56, h0_57, h0_58, h0_59, h0_60, h0_61, h0_62, h0_63, h0_64, h0_65, h0_66, h0_67, h0_68, h0_69])), (a_te, .inl (ca_te, 700, .inl fa_te)), (a_wd, .inl (ca_wd, 115, .inl fa_wd))] sz) [(h0, .inr (12, [.ref a_te, h0_1, h0_2, h0_3, h0_4, h0_5, h0_6, h0_7, h0_8, h0_9, h0_10, h0_11, h0_12, h0_13, h0_14, h0_15, h0_16, h0_17, h0_18, h0_19, h0_20, h0_21, h0_22, h0_23, h0_24, h0_25, h0_26, .ref a_wd, .int mf, .int mfp, .int mst, .int n_h0_next, .int n_h0_kindNow, .int n_h0_which, .int n_h0_place, h0_35, h0_36, h0_37, h0_38, h0_39, h0_40, h0_41, h0_42, h0_43, h0_44, h0_45, h0_46, h0_47, h0_48, h0_49, h0_50, h0_51, h0_52, h0_53, h0_54, h0_55, h0_56, h0_57, h0_58, h0_59, h0_60, h0_61, h0_62, h0_63, h0_64, h0_65, h0_66, h0_67, h0_68, h0_69])), (a_te, .inl (ca_te, 700, .inl fa_te)), (a_wd, .inl (ca_wd, 115, .inl fa_wd))]) (va_A [(h0, .inr (12, [.ref a_te, h0_1, h0_2, h0_3, h0_4, h0_5, h0_6, h0_7, h0_8, h0_9, h0_10, h0_11, h0_12, h0_13, h0_14, h0_15, h0_16, h0_17, h0_18, h0_19, h0_20, h0_21, h0_22, h0_23, h0_24, h0_25, h0_26, .ref a_wd, .int mf, .int mfp, .int mst, .int mnx, .int mkd, .int mwh, .int mpl, h0_35, h0_36, h0_37, h0_38, h0_39, h0_40, h0_41, h0_42, h0_43, h0_44, h0_45, h0_46, h0_47, h0_48, h0_49, h0_50, h0_51, h0_52, h0_53, h0_54, h0_55, h0_56, h0_57, h0_58, h0_59, h0_60, h0_61, h0_62, h0_63, h0_64, h0_65, h0_66, h0_67, h0_68, h0_69])), (a_te, .inl (ca_te, 700, .inl fa_te)), (a_wd, .inl (ca_wd, 115, .inl fa_wd))] sz)) 0 0 (va_A [(h0, .inr (12, [.ref a_te, h0_1, h0_2, h0_3, h0_4, h0_5, h0_6, h0_7, h0_8, h0_9, h0_10, h0_11, h0_12, h0_13, h0_14, h0_15, h0_16, h0_17, h0_18, h0_19, h0_20, h0_21, h0_22, h0_23, h0_24, h0_25, h0_26, .ref a_wd, .int mf, .int mfp, .int mst, .int mnx, .int mkd, .int mwh, .int mpl, h0_35, h0_36, h0_37, h0_38, h0_39, h0_40, h0_41, h0_42, h0_43, h0_44, h0_45, h0_46, h0_47, h0_48, h0_49, h0_50, h0_51, h0_52, h0_53, h0_54, h0_55, h0_56, h0_57, h0_58, h0_59, h0_60, h0_61, h0_62, h0_63, h0_64, h0_65, h0_66, h0_67, h0_68, h0_69])), (a_te, .inl (ca_te, 700, .inl fa_te)), (a_wd, .inl (ca_wd, 115, .inl fa_wd))] sz) := by
  refine Met.ofW (cc := cX12_take) (maxL := 3) (ret := none) (by decide) rfl ?_
  intro p e s m args below meth c s₁ B hml hv
  obtain ⟨rfl, hsz, hP, hK, hD0⟩ := hv
  have hx := B.exec
  have hb := B.bytes
  have hr := B.returns
  have hts := atoms_spec (ws := u_s_X12_take3) B.pre
  have hown : s.vm.findClass RX12 = some m.cls := findClass_of_methodNamed B.named
  have hlocks := B.notSynchronized
  subst hsz
  have hD := hD0.self (sz := s.heap.size)
  generalize hAe : va_A [(h0, .inr (12, [.ref a_te, h0_1, h0_2, h0_3, h0_4, h0_5, h0_6, h0_7, h0_8, h0_9, h0_10, h0_11, h0_12, h0_13, h0_14, h0_15, h0_16, h0_17, h0_18, h0_19, h0_20, h0_21, h0_22, h0_23, h0_24, h0_25, h0_26, .ref a_wd, .int mf, .int mfp, .int mst, .int mnx, .int mkd, .int mwh, .int mpl, h0_35, h0_36, h0_37, h0_38, h0_39, h0_40, h0_41, h0_42, h0_43, h0_44, h0_45, h0_46, h0_47, h0_48, h0_49, h0_50, h0_51, h0_52, h0_53, h0_54, h0_55, h0_56, h0_57, h0_58, h0_59, h0_60, h0_61, h0_62, h0_63, h0_64, h0_65, h0_66, h0_67, h0_68, h0_69])), (a_te, .inl (ca_te, 700, .inl fa_te)), (a_wd, .inl (ca_wd, 115, .inl fa_wd))] s.heap.size = A at hD ⊢
  have hA : ∀ q : Nat, s.heap.size ≤ q → A q := fun q h => by rw [← hAe]; exact Or.inr h
  have hS : va_S A s.heap s.heap [] := va_S.rf
  have hP : va_P (dC, dI) vwCl [(h0, .inr (12, [.ref a_te, h0_1, h0_2, h0_3, h0_4, h0_5, h0_6, h0_7, h0_8, h0_9, h0_10, h0_11, h0_12, h0_13, h0_14, h0_15, h0_16, h0_17, h0_18, h0_19, h0_20, h0_21, h0_22, h0_23, h0_24, h0_25, h0_26, .ref a_wd, .int mf, .int mfp, .int mst, .int mnx, .int mkd, .int mwh, .int mpl, h0_35, h0_36, h0_37, h0_38, h0_39, h0_40, h0_41, h0_42, h0_43, h0_44, h0_45, h0_46, h0_47, h0_48, h0_49, h0_50, h0_51, h0_52, h0_53, h0_54, h0_55, h0_56, h0_57, h0_58, h0_59, h0_60, h0_61, h0_62, h0_63, h0_64, h0_65, h0_66, h0_67, h0_68, h0_69])), (a_te, .inl (ca_te, 700, .inl fa_te)), (a_wd, .inl (ca_wd, 115, .inl fa_wd))] s.heap := hP
  have w__fieldLink_RX12_207_ShellHeapModel_next_I_ := hts (.fieldLink RX12 207 "ShellHeapModel" "next" "I") (z_mc (z_ml z_m0))
  have hiX12 := show ∀ w ∈ u_ws RX12 TX12 70, w ∈ u_s_X12_take3 from fun w h => z_mc (z_mr (z_ml h))
  have w__fieldLink_RX12_204_ShellHeapModel_stop_I_ := hts (.fieldLink RX12 204 "ShellHeapModel" "stop" "I") (z_mc (z_ml z_m1))
  have w__fieldLink_RX12_201_ShellHeapModel_place_I_ := hts (.fieldLink RX12 201 "ShellHeapModel" "place" "I") (z_mc (z_ml z_m2))
  have w__fieldLink_RX12_214_ShellHeapModel_which_I_ := hts (.fieldLink RX12 214 "ShellHeapModel" "which" "I") (z_mc (z_ml z_m10))
  have w__fieldLink_RX12_221_ShellHeapModel_kindNow_I_ := hts (.fieldLink RX12 221 "ShellHeapModel" "kindNow" "I") (z_mc (z_ml z_m11))
  have w__fieldLink_RX12_7_ShellHeapModel_tape_I_ := hts (.fieldLink RX12 7 "ShellHeapModel" "tape" "[I") (z_mc (z_ml z_m18))
  have hl := lv_entry ([.ref h0, .int 1]) (n := 3) (Nat.le_of_ble_eq_true rfl)
  rw [lg_entry_eq]
  generalize (lg_sl ([.ref h0, .int 1]) ++ List.replicate (3 - (lg_sl ([.ref h0, .int 1])).length) Slot.unset).toArray = ls at hl ⊢
  have hl : lv_has ls 3 [(0, .ref h0), (1, .int 1)] := hl
  refine z_nameQ (fun QQ hQQ => ?_)
  have loop_1 : ∀ (n_2 : Nat) (v_4 : Int32) (H : Heap) (locs : List Loc) (ls : Array Slot), (701 - (v_4).toInt).toNat < n_2 → (((0 : Int) ≤ (v_4).toInt ∧ (v_4).toInt ≤ (700 : Int))) → (f_pre f_bl fa_te (mst).toInt (mnx).toInt (v_4).toInt) → ((mnx).toInt ≤ (v_4).toInt ∧ (v_4).toInt ≤ (mst).toInt) → va_P (dC, dI) vwCl [(h0, .inr (12, [.ref a_te, h0_1, h0_2, h0_3, h0_4, h0_5, h0_6, h0_7, h0_8, h0_9, h0_10, h0_11, h0_12, h0_13, h0_14, h0_15, h0_16, h0_17, h0_18, h0_19, h0_20, h0_21, h0_22, h0_23, h0_24, h0_25, h0_26, .ref a_wd, .int mf, .int mfp, .int mst, .int v_4, .int mkd, .int mwh, .int mpl, h0_35, h0_36, h0_37, h0_38, h0_39, h0_40, h0_41, h0_42, h0_43, h0_44, h0_45, h0_46, h0_47, h0_48, h0_49, h0_50, h0_51, h0_52, h0_53, h0_54, h0_55, h0_56, h0_57, h0_58, h0_59, h0_60, h0_61, h0_62, h0_63, h0_64, h0_65, h0_66, h0_67, h0_68, h0_69])), (a_te, .inl (ca_te, 700, .inl fa_te)), (a_wd, .inl (ca_wd, 115, .inl fa_wd))] H → va_D A [(h0, .inr (12, [.ref a_te, h0_1, h0_2, h0_3, h0_4, h0_5, h0_6, h0_7, h0_8, h0_9, h0_10, h0_11, h0_12, h0_13, h0_14, h0_15, h0_16, h0_17, h0_18, h0_19, h0_20, h0_21, h0_22, h0_23, h0_24, h0_25, h0_26, .ref a_wd, .int mf, .int mfp, .int mst, .int v_4, .int mkd, .int mwh, .int mpl, h0_35, h0_36, h0_37, h0_38, h0_39, h0_40, h0_41, h0_42, h0_43, h0_44, h0_45, h0_46, h0_47, h0_48, h0_49, h0_50, h0_51, h0_52, h0_53, h0_54, h0_55, h0_56, h0_57, h0_58, h0_59, h0_60, h0_61, h0_62, h0_63, h0_64, h0_65, h0_66, h0_67, h0_68, h0_69])), (a_te, .inl (ca_te, 700, .inl fa_te)), (a_wd, .inl (ca_wd, 115, .inl fa_wd))] → va_S A s.heap H locs → lv_has ls 3 [(0, .ref h0), (1, .int 1)] → W p l e ({ frames := 2, cells := 0, slots := 0, locals := 43 } : Room) s m ([.ref h0, .int 1] : List Value).toArray below meth c H locs 0 0 QQ (F0 m 0 ls []) := by
    intro n_2
    induction n_2 with
    | zero => intro v_4 H locs ls hm; exact absurd hm (Nat.not_lt_zero _)
    | succ n_2 ih_3 =>
      intro v_4 H locs ls hm hF_5 hF_6 hF_7 hP hD hS hl
      refine lv_aload_n hx hb dX12_take_0 rfl (lv_at hl 0 rfl) ?_
      refine va_get (D := (dC, dI)) (ci := 12) (v := .int v_4) (C := RX12) (T := TX12) (N := 70) hx hb hts hiX12 hown hK hP 0 rfl rfl 31 (by decide) w__fieldLink_RX12_207_ShellHeapModel_next_I_ (fun _ h9 => h9) rfl dX12_take_1 ?_
      refine lv_aload_n hx hb dX12_take_4 rfl (lv_at hl 0 rfl) ?_
      refine va_get (D := (dC, dI)) (ci := 12) (v := .int mst) (C := RX12) (T := TX12) (N := 70) hx hb hts hiX12 hown hK hP 0 rfl rfl 30 (by decide) w__fieldLink_RX12_204_ShellHeapModel_stop_I_ (fun _ h9 => h9) rfl dX12_take_5 ?_
      refine lv_icmp_ge (tgt := 52) hx hb dX12_take_8 (by decide) (fun c_8 => ?_) (fun c_8 => ?_)
      · have k_9 : (mst).toInt ≤ (v_4).toInt := z_le c_8
        have hrn : f_run f_bl fa_te (mst).toInt (mnx).toInt (v_4).toInt := f_run_of hF_6 (fun h9 => absurd h9 (by omega))
        refine lv_aload_n hx hb dX12_take_52 rfl (lv_at hl 0 rfl) ?_
        refine lv_aload_n hx hb dX12_take_53 rfl (lv_at hl 0 rfl) ?_
        refine va_get (D := (dC, dI)) (ci := 12) (v := .int v_4) (C := RX12) (T := TX12) (N := 70) hx hb hts hiX12 hown hK hP 0 rfl rfl 31 (by decide) w__fieldLink_RX12_207_ShellHeapModel_next_I_ (fun _ h9 => h9) rfl dX12_take_54 ?_
        refine va_put (D := (dC, dI)) (ci := 12) (v := .int v_4) (ty := .int) (C := RX12) (T := TX12) (N := 70) hx hb hts hiX12 tyX12 tyX12_ok nmX12 hown hK hP hD hS 0 rfl rfl 34 (by decide) w__fieldLink_RX12_201_ShellHeapModel_place_I_ (fun _ h9 => h9) rfl (by decide +kernel) rfl rfl (Nat.le_of_ble_eq_true rfl) dX12_take_57 (fun H_10 locs hP hD hS => ?_)
        obtain ⟨hP, hD⟩ := z_s_0_34 hP hD
        refine lv_aload_n hx hb dX12_take_60 rfl (lv_at hl 0 rfl) ?_
        refine va_get (D := (dC, dI)) (ci := 12) (v := .int v_4) (C := RX12) (T := TX12) (N := 70) hx hb hts hiX12 hown hK hP 0 rfl rfl 31 (by decide) w__fieldLink_RX12_207_ShellHeapModel_next_I_ (fun _ h9 => h9) rfl dX12_take_61 ?_
        refine lv_aload_n hx hb dX12_take_64 rfl (lv_at hl 0 rfl) ?_
        refine va_get (D := (dC, dI)) (ci := 12) (v := .int mst) (C := RX12) (T := TX12) (N := 70) hx hb hts hiX12 hown hK hP 0 rfl rfl 30 (by decide) w__fieldLink_RX12_204_ShellHeapModel_stop_I_ (fun _ h9 => h9) rfl dX12_take_65 ?_
        refine lv_icmp_ne (tgt := 79) hx hb dX12_take_68 (by decide) (fun c_11 => ?_) (fun c_11 => ?_)
        · have k_12 : (v_4).toInt ≠ (mst).toInt := z_ne c_11
          refine lv_aload_n hx hb dX12_take_79 rfl (lv_at hl 0 rfl) ?_
          refine lv_aload_n hx hb dX12_take_80 rfl (lv_at hl 0 rfl) ?_
          refine va_get (D := (dC, dI)) (ci := 12) (v := .int v_4) (C := RX12) (T := TX12) (N := 70) hx hb hts hiX12 hown hK hP 0 rfl rfl 31 (by decide) w__fieldLink_RX12_207_ShellHeapModel_next_I_ (fun _ h9 => h9) rfl dX12_take_81 ?_
          obtain ⟨hPc, hDc⟩ := z_sub2 (ws' := [(h0, .inr (12, [.ref a_te, h0_1, h0_2, h0_3, h0_4, h0_5, h0_6, h0_7, h0_8, h0_9, h0_10, h0_11, h0_12, h0_13, h0_14, h0_15, h0_16, h0_17, h0_18, h0_19, h0_20, h0_21, h0_22, h0_23, h0_24, h0_25, h0_26, .ref a_wd, .int mf, .int mfp, .int mst, .int v_4, .int mkd, .int mwh, .int v_4, h0_35, h0_36, h0_37, h0_38, h0_39, h0_40, h0_41, h0_42, h0_43, h0_44, h0_45, h0_46, h0_47, h0_48, h0_49, h0_50, h0_51, h0_52, h0_53, h0_54, h0_55, h0_56, h0_57, h0_58, h0_59, h0_60, h0_61, h0_62, h0_63, h0_64, h0_65, h0_66, h0_67, h0_68, h0_69])), (a_te, .inl (ca_te, 700, .inl fa_te))]) hP hD [0, 1] (by decide) rfl
          have hKc := hK.sub (tys' := [(ca_te, .int)]) [0] rfl
          have hFc := va_free (ws := []) (wc := []) (z_D0 _) hS hA [] rfl
          refine va_calli (va_runV (As := [.int v_4]) (rest := []) ⟨hx, hb, hml, hown, hts⟩ (s_X12_isSmall l dC dI H_10.size h0 v_4 a_te h0_1 h0_2 h0_3 h0_4 h0_5 h0_6 h0_7 h0_8 h0_9 h0_10 h0_11 h0_12 h0_13 h0_14 h0_15 h0_16 h0_17 h0_18 h0_19 h0_20 h0_21 h0_22 h0_23 h0_24 h0_25 h0_26 a_wd mf mfp mst v_4 mkd mwh v_4 h0_35 h0_36 h0_37 h0_38 h0_39 h0_40 h0_41 h0_42 h0_43 h0_44 h0_45 h0_46 h0_47 h0_48 h0_49 h0_50 h0_51 h0_52 h0_53 h0_54 h0_55 h0_56 h0_57 h0_58 h0_59 h0_60 h0_61 h0_62 h0_63 h0_64 h0_65 h0_66 h0_67 h0_68 h0_69 ca_te fa_te hB_mst hF_5 hB_mkd hF_5 hF_5 hI_a_te) (cwV 1 hts gw_s_X12_take3_s_X12_isSmall_224 rfl rfl rfl (by decide +kernel) ⟨Nat.le_of_ble_eq_true rfl, Nat.le_of_ble_eq_true rfl⟩) ⟨z_blind, va_recv hKc hPc (ci := 12) (q0 := 0) rfl rfl, z_pre hPc hKc hDc⟩ rfl rfl hl.1 rfl (lv_room (Nat.le_of_ble_eq_true rfl)) dX12_take_84 ⟨Nat.le_of_ble_eq_true rfl, Nat.le_of_ble_eq_true rfl⟩) hS (fun q _ h => hFc q h) hFc (fun r_14 u t H_13 locs ht hvm hw_15 hB hz1 hk1 hS => ?_)
          replace hP := z_pure hP hk1
          clear hPc hDc hKc
          rcases hw_15 with ⟨rfl, hw_15⟩ | ⟨rfl, hw_15⟩
          · have hw_15 : (v_4.toInt < mst.toInt ∧ 97 ≤ (fa_te v_4.toNatClampNeg).toInt ∧ (fa_te v_4.toNatClampNeg).toInt ≤ 122) := hw_15
            have hsm0 := hw_15
            refine lv_if_eq (tgt := 240) hx hb dX12_take_87 (by decide) (fun c_16 => absurd c_16 (by decide)) (fun _ => ?_)
            have loop_17 : ∀ (n_18 : Nat) (v_20 : Int32) (H : Heap) (locs : List Loc) (ls : Array Slot), (701 - (v_20).toInt).toNat < n_18 → (((0 : Int) ≤ (v_20).toInt ∧ (v_20).toInt ≤ (700 : Int))) → (f_pre f_le fa_te (mst).toInt (v_4).toInt (v_20).toInt) → ((mnx).toInt ≤ (v_20).toInt ∧ (v_20).toInt ≤ (mst).toInt) → ((v_4).toInt ≤ (v_20).toInt) → ((mnx).toInt + 1 ≤ (v_20).toInt ∨ ((v_20).toInt < (mst).toInt ∧ 97 ≤ (fa_te (v_20 : Int32).toNatClampNeg).toInt ∧ (fa_te (v_20 : Int32).toNatClampNeg).toInt ≤ 122)) → va_P (dC, dI) vwCl [(h0, .inr (12, [.ref a_te, h0_1, h0_2, h0_3, h0_4, h0_5, h0_6, h0_7, h0_8, h0_9, h0_10, h0_11, h0_12, h0_13, h0_14, h0_15, h0_16, h0_17, h0_18, h0_19, h0_20, h0_21, h0_22, h0_23, h0_24, h0_25, h0_26, .ref a_wd, .int mf, .int mfp, .int mst, .int v_20, .int mkd, .int mwh, .int v_4, h0_35, h0_36, h0_37, h0_38, h0_39, h0_40, h0_41, h0_42, h0_43, h0_44, h0_45, h0_46, h0_47, h0_48, h0_49, h0_50, h0_51, h0_52, h0_53, h0_54, h0_55, h0_56, h0_57, h0_58, h0_59, h0_60, h0_61, h0_62, h0_63, h0_64, h0_65, h0_66, h0_67, h0_68, h0_69])), (a_te, .inl (ca_te, 700, .inl fa_te)), (a_wd, .inl (ca_wd, 115, .inl fa_wd))] H → va_D A [(h0, .inr (12, [.ref a_te, h0_1, h0_2, h0_3, h0_4, h0_5, h0_6, h0_7, h0_8, h0_9, h0_10, h0_11, h0_12, h0_13, h0_14, h0_15, h0_16, h0_17, h0_18, h0_19, h0_20, h0_21, h0_22, h0_23, h0_24, h0_25, h0_26, .ref a_wd, .int mf, .int mfp, .int mst, .int v_20, .int mkd, .int mwh, .int v_4, h0_35, h0_36, h0_37, h0_38, h0_39, h0_40, h0_41, h0_42, h0_43, h0_44, h0_45, h0_46, h0_47, h0_48, h0_49, h0_50, h0_51, h0_52, h0_53, h0_54, h0_55, h0_56, h0_57, h0_58, h0_59, h0_60, h0_61, h0_62, h0_63, h0_64, h0_65, h0_66, h0_67, h0_68, h0_69])), (a_te, .inl (ca_te, 700, .inl fa_te)), (a_wd, .inl (ca_wd, 115, .inl fa_wd))] → va_S A s.heap H locs → lv_has ls 3 [(0, .ref h0), (1, .int 1)] → W p l e ({ frames := 2, cells := 0, slots := 0, locals := 43 } : Room) s m ([.ref h0, .int 1] : List Value).toArray below meth c H locs 0 0 QQ (F0 m 90 ls []) := by
              intro n_18
              induction n_18 with
              | zero => intro v_20 H locs ls hm; exact absurd hm (Nat.not_lt_zero _)
              | succ n_18 ih_19 =>
                intro v_20 H locs ls hm hF_21 hF_22 hF_23 hF_24 hF_25 hP hD hS hl
                refine lv_aload_n hx hb dX12_take_90 rfl (lv_at hl 0 rfl) ?_
                refine lv_aload_n hx hb dX12_take_91 rfl (lv_at hl 0 rfl) ?_
                refine va_get (D := (dC, dI)) (ci := 12) (v := .int v_20) (C := RX12) (T := TX12) (N := 70) hx hb hts hiX12 hown hK hP 0 rfl rfl 31 (by decide) w__fieldLink_RX12_207_ShellHeapModel_next_I_ (fun _ h9 => h9) rfl dX12_take_92 ?_
                obtain ⟨hPc, hDc⟩ := z_sub2 (ws' := [(h0, .inr (12, [.ref a_te, h0_1, h0_2, h0_3, h0_4, h0_5, h0_6, h0_7, h0_8, h0_9, h0_10, h0_11, h0_12, h0_13, h0_14, h0_15, h0_16, h0_17, h0_18, h0_19, h0_20, h0_21, h0_22, h0_23, h0_24, h0_25, h0_26, .ref a_wd, .int mf, .int mfp, .int mst, .int v_20, .int mkd, .int mwh, .int v_4, h0_35, h0_36, h0_37, h0_38, h0_39, h0_40, h0_41, h0_42, h0_43, h0_44, h0_45, h0_46, h0_47, h0_48, h0_49, h0_50, h0_51, h0_52, h0_53, h0_54, h0_55, h0_56, h0_57, h0_58, h0_59, h0_60, h0_61, h0_62, h0_63, h0_64, h0_65, h0_66, h0_67, h0_68, h0_69])), (a_te, .inl (ca_te, 700, .inl fa_te))]) hP hD [0, 1] (by decide) rfl
                have hKc := hK.sub (tys' := [(ca_te, .int)]) [0] rfl
                have hFc := va_free (ws := []) (wc := []) (z_D0 _) hS hA [] rfl
                refine va_calli (va_runV (As := [.int v_20]) (rest := []) ⟨hx, hb, hml, hown, hts⟩ (s_X12_isSmall l dC dI H.size h0 v_20 a_te h0_1 h0_2 h0_3 h0_4 h0_5 h0_6 h0_7 h0_8 h0_9 h0_10 h0_11 h0_12 h0_13 h0_14 h0_15 h0_16 h0_17 h0_18 h0_19 h0_20 h0_21 h0_22 h0_23 h0_24 h0_25 h0_26 a_wd mf mfp mst v_20 mkd mwh v_4 h0_35 h0_36 h0_37 h0_38 h0_39 h0_40 h0_41 h0_42 h0_43 h0_44 h0_45 h0_46 h0_47 h0_48 h0_49 h0_50 h0_51 h0_52 h0_53 h0_54 h0_55 h0_56 h0_57 h0_58 h0_59 h0_60 h0_61 h0_62 h0_63 h0_64 h0_65 h0_66 h0_67 h0_68 h0_69 ca_te fa_te hB_mst hF_21 hB_mkd hF_5 hF_21 hI_a_te) (cwV 1 hts gw_s_X12_take3_s_X12_isSmall_224 rfl rfl rfl (by decide +kernel) ⟨Nat.le_of_ble_eq_true rfl, Nat.le_of_ble_eq_true rfl⟩) ⟨z_blind, va_recv hKc hPc (ci := 12) (q0 := 0) rfl rfl, z_pre hPc hKc hDc⟩ rfl rfl hl.1 rfl (lv_room (Nat.le_of_ble_eq_true rfl)) dX12_take_95 ⟨Nat.le_of_ble_eq_true rfl, Nat.le_of_ble_eq_true rfl⟩) hS (fun q _ h => hFc q h) hFc (fun r_27 u t H_26 locs ht hvm hw_28 hB hz1 hk1 hS => ?_)
                replace hP := z_pure hP hk1
                clear hPc hDc hKc
                rcases hw_28 with ⟨rfl, hw_28⟩ | ⟨rfl, hw_28⟩
                · have hw_28 : (v_20.toInt < mst.toInt ∧ 97 ≤ (fa_te v_20.toNatClampNeg).toInt ∧ (fa_te v_20.toNatClampNeg).toInt ≤ 122) := hw_28
                  refine lv_if_eq (tgt := 114) hx hb dX12_take_98 (by decide) (fun c_29 => absurd c_29 (by decide)) (fun _ => ?_)
                  refine lv_aload_n hx hb dX12_take_101 rfl (lv_at hl 0 rfl) ?_
                  refine lv_dup hx hb dX12_take_102 rfl ?_
                  refine va_get (D := (dC, dI)) (ci := 12) (v := .int v_20) (C := RX12) (T := TX12) (N := 70) hx hb hts hiX12 hown hK hP 0 rfl rfl 31 (by decide) w__fieldLink_RX12_207_ShellHeapModel_next_I_ (fun _ h9 => h9) rfl dX12_take_103 ?_
                  refine lv_iconst (v := 1) hx hb dX12_take_106 (by decide) ?_
                  refine lv_iadd hx hb dX12_take_107 ?_
                  refine lv_topi (fun z_30 ez_30 => ?_)
                  have kz_30 : (z_30).toInt = (v_20).toInt + (1 : Int) := by rw [ez_30]; exact z_add (a := (v_20).toInt) (b := (1 : Int)) rfl rfl (z_al hF_21.1 (by decide)) (z_ah hF_21.2 (by decide))
                  refine va_put (D := (dC, dI)) (ci := 12) (v := .int z_30) (ty := .int) (C := RX12) (T := TX12) (N := 70) hx hb hts hiX12 tyX12 tyX12_ok nmX12 hown hK hP hD hS 0 rfl rfl 31 (by decide) w__fieldLink_RX12_207_ShellHeapModel_next_I_ (fun _ h9 => h9) rfl (by decide +kernel) rfl rfl (Nat.le_of_ble_eq_true rfl) dX12_take_108 (fun H_31 locs hP hD hS => ?_)
                  obtain ⟨hP, hD⟩ := z_s_0_31 hP hD
                  refine lv_goto (tgt := 90) hx hb dX12_take_111 (by decide) ?_
                  exact ih_19 z_30 _ _ _ (show (701 - (z_30).toInt).toNat < n_18 by omega) (show ((0 : Int) ≤ (z_30).toInt ∧ (z_30).toInt ≤ (700 : Int)) by omega) (show f_pre f_le fa_te (mst).toInt (v_4).toInt (z_30).toInt from f_pre1 (i := v_20) hF_22 (by omega) (by omega) (show f_le _ from ⟨hw_28.2.1, hw_28.2.2⟩) (by omega)) (show (mnx).toInt ≤ (z_30).toInt ∧ (z_30).toInt ≤ (mst).toInt by omega) (show (v_4).toInt ≤ (z_30).toInt by omega) (show (mnx).toInt + 1 ≤ (z_30).toInt ∨ ((z_30).toInt < (mst).toInt ∧ 97 ≤ (fa_te (z_30 : Int32).toNatClampNeg).toInt ∧ (fa_te (z_30 : Int32).toNatClampNeg).toInt ≤ 122) by omega) hP hD hS (lv_sub hl [0, 1] rfl)
                · have hw_28 : ¬ (v_20.toInt < mst.toInt ∧ 97 ≤ (fa_te v_20.toNatClampNeg).toInt ∧ (fa_te v_20.toNatClampNeg).toInt ≤ 122) := hw_28
                  refine lv_if_eq (tgt := 114) hx hb dX12_take_98 (by decide) (fun _ => ?_) (fun c_32 => absurd (by decide) c_32)
                  have hlr : f_run f_le fa_te (mst).toInt (v_4).toInt (v_20).toInt := f_run_of hF_22 (fun h8 h9 => hw_28 ⟨h8, h9.1, h9.2⟩)
                  have hlp := f_run_pos hlr (by omega) (show f_le _ from ⟨hsm0.2.1, hsm0.2.2⟩)
                  refine lv_aload_n hx hb dX12_take_114 rfl (lv_at hl 0 rfl) ?_
                  refine va_get (D := (dC, dI)) (ci := 12) (v := .int v_20) (C := RX12) (T := TX12) (N := 70) hx hb hts hiX12 hown hK hP 0 rfl rfl 31 (by decide) w__fieldLink_RX12_207_ShellHeapModel_next_I_ (fun _ h9 => h9) rfl dX12_take_115 ?_
                  refine lv_aload_n hx hb dX12_take_118 rfl (lv_at hl 0 rfl) ?_
                  refine va_get (D := (dC, dI)) (ci := 12) (v := .int v_4) (C := RX12) (T := TX12) (N := 70) hx hb hts hiX12 hown hK hP 0 rfl rfl 34 (by decide) w__fieldLink_RX12_201_ShellHeapModel_place_I_ (fun _ h9 => h9) rfl dX12_take_119 ?_
                  refine lv_isub hx hb dX12_take_122 ?_
                  refine lv_topi (fun z_33 ez_33 => ?_)
                  have kz_33 : (z_33).toInt = (v_20).toInt - (v_4).toInt := by rw [ez_33]; exact z_sub (a := (v_20).toInt) (b := (v_4).toInt) rfl rfl (by omega) (by omega)
                  refine lv_istore_n (lv' := [(2, .int z_33), (0, .ref h0), (1, .int 1)]) hx hb dX12_take_123 rfl hl (by decide) rfl (fun ls hl => ?_)
                  refine lv_aload_n hx hb dX12_take_124 rfl (lv_at hl 1 rfl) ?_
                  refine lv_aload_n hx hb dX12_take_125 rfl (lv_at hl 1 rfl) ?_
                  refine lv_aload_n hx hb dX12_take_126 rfl (lv_at hl 1 rfl) ?_
                  refine va_get (D := (dC, dI)) (ci := 12) (v := .int v_4) (C := RX12) (T := TX12) (N := 70) hx hb hts hiX12 hown hK hP 0 rfl rfl 34 (by decide) w__fieldLink_RX12_201_ShellHeapModel_place_I_ (fun _ h9 => h9) rfl dX12_take_127 ?_
                  refine lv_aload_n hx hb dX12_take_130 rfl (lv_at hl 1 rfl) ?_
                  refine va_get (D := (dC, dI)) (ci := 12) (v := .int v_20) (C := RX12) (T := TX12) (N := 70) hx hb hts hiX12 hown hK hP 0 rfl rfl 31 (by decide) w__fieldLink_RX12_207_ShellHeapModel_next_I_ (fun _ h9 => h9) rfl dX12_take_131 ?_
                  have hPc := hP
                  have hDc := hD
                  have hKc := hK
                  have hFc := va_free (ws := []) (wc := []) (z_D0 _) hS hA [] rfl
                  refine va_calli (va_runV (As := [.int v_4, .int v_20]) (rest := [.ref h0]) ⟨hx, hb, hml, hown, hts⟩ (s_X12_wordAt3 l dC dI H_26.size h0 v_4 v_20 a_te h0_1 h0_2 h0_3 h0_4 h0_5 h0_6 h0_7 h0_8 h0_9 h0_10 h0_11 h0_12 h0_13 h0_14 h0_15 h0_16 h0_17 h0_18 h0_19 h0_20 h0_21 h0_22 h0_23 h0_24 h0_25 h0_26 a_wd mf mfp mst v_20 mkd mwh v_4 h0_35 h0_36 h0_37 h0_38 h0_39 h0_40 h0_41 h0_42 h0_43 h0_44 h0_45 h0_46 h0_47 h0_48 h0_49 h0_50 h0_51 h0_52 h0_53 h0_54 h0_55 h0_56 h0_57 h0_58 h0_59 h0_60 h0_61 h0_62 h0_63 h0_64 h0_65 h0_66 h0_67 h0_68 h0_69 ca_te fa_te ca_wd fa_wd hF_5 hF_21 hI_a_te hWX (by first | omega | decide)) (cwV 2 hts gw_s_X12_take3_s_X12_wordAt3_227 rfl rfl rfl (by decide +kernel) ⟨Nat.le_of_ble_eq_true rfl, Nat.le_of_ble_eq_true rfl⟩) ⟨z_blind, va_recv hKc hPc (ci := 12) (q0 := 0) rfl rfl, z_pre hPc hKc hDc⟩ rfl rfl hl.1 rfl (lv_room (Nat.le_of_ble_eq_true rfl)) dX12_take_134 ⟨Nat.le_of_ble_eq_true rfl, Nat.le_of_ble_eq_true rfl⟩) hS (fun q _ h => hFc q h) hFc (fun r_35 u t H_34 locs ht hvm hw_36 hB hz1 hk1 hS => ?_)
                  replace hP := z_pure hP hk1
                  clear hPc hDc hKc
                  refine va_put (D := (dC, dI)) (ci := 12) (v := .int r_35) (ty := .int) (C := RX12) (T := TX12) (N := 70) hx hb hts hiX12 tyX12 tyX12_ok nmX12 hown hK hP hD hS 0 rfl rfl 33 (by decide) w__fieldLink_RX12_214_ShellHeapModel_which_I_ (fun _ h9 => h9) rfl (by decide +kernel) rfl rfl (Nat.le_of_ble_eq_true rfl) dX12_take_137 (fun H_37 locs hP hD hS => ?_)
                  obtain ⟨hP, hD⟩ := z_s_0_33 hP hD
                  refine lv_aload_n hx hb dX12_take_140 rfl (lv_at hl 1 rfl) ?_
                  refine lv_aload_n hx hb dX12_take_141 rfl (lv_at hl 1 rfl) ?_
                  refine va_get (D := (dC, dI)) (ci := 12) (v := .int r_35) (C := RX12) (T := TX12) (N := 70) hx hb hts hiX12 hown hK hP 0 rfl rfl 33 (by decide) w__fieldLink_RX12_214_ShellHeapModel_which_I_ (fun _ h9 => h9) rfl dX12_take_142 ?_
                  refine lv_if_lt (tgt := 152) hx hb dX12_take_145 (by decide) (fun c_38 => ?_) (fun c_38 => ?_)
                  · have k_39 : (r_35).toInt < (0 : Int) := z_lt c_38
                    obtain rfl : r_35 = (-1) := z_eq' (show (r_35).toInt = (-1 : Int) by omega)
                    refine lv_iload_n hx hb dX12_take_152 rfl (lv_at hl 0 rfl) ?_
                    refine lv_bipush (v := 8) hx hb dX12_take_153 (by decide) ?_
                    refine lv_icmp_le (tgt := 162) hx hb dX12_take_155 (by decide) (fun c_41 => ?_) (fun c_41 => ?_)
                    · have k_42 : (z_33).toInt ≤ (8 : Int) := z_le c_41
                      refine lv_iconst (v := 2) hx hb dX12_take_162 (by decide) ?_
                      refine va_put (D := (dC, dI)) (ci := 12) (v := .int 2) (ty := .int) (C := RX12) (T := TX12) (N := 70) hx hb hts hiX12 tyX12 tyX12_ok nmX12 hown hK hP hD hS 0 rfl rfl 32 (by decide) w__fieldLink_RX12_221_ShellHeapModel_kindNow_I_ (fun _ h9 => h9) rfl (by decide +kernel) rfl rfl (Nat.le_of_ble_eq_true rfl) dX12_take_163 (fun H_43 locs hP hD hS => ?_)
                      obtain ⟨hP, hD⟩ := z_s_0_32 hP hD
                      refine lv_iload_n hx hb dX12_take_166 rfl (lv_at hl 2 rfl) ?_
                      refine lv_if_eq (tgt := 237) hx hb dX12_take_167 (by decide) (fun c_44 => absurd c_44 (by decide)) (fun _ => ?_)
                      refine lv_aload_n hx hb dX12_take_170 rfl (lv_at hl 1 rfl) ?_
                      refine lv_aload_n hx hb dX12_take_171 rfl (lv_at hl 1 rfl) ?_
                      refine va_get (D := (dC, dI)) (ci := 12) (v := .int v_20) (C := RX12) (T := TX12) (N := 70) hx hb hts hiX12 hown hK hP 0 rfl rfl 31 (by decide) w__fieldLink_RX12_207_ShellHeapModel_next_I_ (fun _ h9 => h9) rfl dX12_take_172 ?_
                      obtain ⟨hPc, hDc⟩ := z_sub2 (ws' := [(h0, .inr (12, [.ref a_te, h0_1, h0_2, h0_3, h0_4, h0_5, h0_6, h0_7, h0_8, h0_9, h0_10, h0_11, h0_12, h0_13, h0_14, h0_15, h0_16, h0_17, h0_18, h0_19, h0_20, h0_21, h0_22, h0_23, h0_24, h0_25, h0_26, .ref a_wd, .int mf, .int mfp, .int mst, .int v_20, .int 2, .int (-1), .int v_4, h0_35, h0_36, h0_37, h0_38, h0_39, h0_40, h0_41, h0_42, h0_43, h0_44, h0_45, h0_46, h0_47, h0_48, h0_49, h0_50, h0_51, h0_52, h0_53, h0_54, h0_55, h0_56, h0_57, h0_58, h0_59, h0_60, h0_61, h0_62, h0_63, h0_64, h0_65, h0_66, h0_67, h0_68, h0_69])), (a_te, .inl (ca_te, 700, .inl fa_te))]) hP hD [0, 1] (by decide) rfl
                      have hKc := hK.sub (tys' := [(ca_te, .int)]) [0] rfl
                      have hFc := va_free (ws := []) (wc := []) (z_D0 _) hS hA [] rfl
                      refine va_calli (va_runV (As := [.int v_20]) (rest := []) ⟨hx, hb, hml, hown, hts⟩ (s_X12_isDigit l dC dI H_43.size h0 v_20 a_te h0_1 h0_2 h0_3 h0_4 h0_5 h0_6 h0_7 h0_8 h0_9 h0_10 h0_11 h0_12 h0_13 h0_14 h0_15 h0_16 h0_17 h0_18 h0_19 h0_20 h0_21 h0_22 h0_23 h0_24 h0_25 h0_26 a_wd mf mfp mst v_20 2 (-1) v_4 h0_35 h0_36 h0_37 h0_38 h0_39 h0_40 h0_41 h0_42 h0_43 h0_44 h0_45 h0_46 h0_47 h0_48 h0_49 h0_50 h0_51 h0_52 h0_53 h0_54 h0_55 h0_56 h0_57 h0_58 h0_59 h0_60 h0_61 h0_62 h0_63 h0_64 h0_65 h0_66 h0_67 h0_68 h0_69 ca_te fa_te hB_mst hF_21 (by decide) hF_5 hF_21 hI_a_te) (cwV 1 hts gw_s_X12_take3_s_X12_isDigit_217 rfl rfl rfl (by decide +kernel) ⟨Nat.le_of_ble_eq_true rfl, Nat.le_of_ble_eq_true rfl⟩) ⟨z_blind, va_recv hKc hPc (ci := 12) (q0 := 0) rfl rfl, z_pre hPc hKc hDc⟩ rfl rfl hl.1 rfl (lv_room (Nat.le_of_ble_eq_true rfl)) dX12_take_175 ⟨Nat.le_of_ble_eq_true rfl, Nat.le_of_ble_eq_true rfl⟩) hS (fun q _ h => hFc q h) hFc (fun r_46 u t H_45 locs ht hvm hw_47 hB hz1 hk1 hS => ?_)
                      replace hP := z_pure hP hk1
                      clear hPc hDc hKc
                      rcases hw_47 with ⟨rfl, hw_47⟩ | ⟨rfl, hw_47⟩
                      · have hw_47 : (v_20.toInt < mst.toInt ∧ 48 ≤ (fa_te v_20.toNatClampNeg).toInt ∧ (fa_te v_20.toNatClampNeg).toInt ≤ 57) := hw_47
                        refine lv_if_eq (tgt := 237) hx hb dX12_take_178 (by decide) (fun c_48 => absurd c_48 (by decide)) (fun _ => ?_)
                        refine lv_aload_n hx hb dX12_take_181 rfl (lv_at hl 1 rfl) ?_
                        obtain ⟨hPc, hDc, hFc⟩ := z_sub3 (ws' := [(h0, .inr (12, [.ref a_te, h0_1, h0_2, h0_3, h0_4, h0_5, h0_6, h0_7, h0_8, h0_9, h0_10, h0_11, h0_12, h0_13, h0_14, h0_15, h0_16, h0_17, h0_18, h0_19, h0_20, h0_21, h0_22, h0_23, h0_24, h0_25, h0_26, .ref a_wd, .int mf, .int mfp, .int mst, .int v_20, .int 2, .int (-1), .int v_4, h0_35, h0_36, h0_37, h0_38, h0_39, h0_40, h0_41, h0_42, h0_43, h0_44, h0_45, h0_46, h0_47, h0_48, h0_49, h0_50, h0_51, h0_52, h0_53, h0_54, h0_55, h0_56, h0_57, h0_58, h0_59, h0_60, h0_61, h0_62, h0_63, h0_64, h0_65, h0_66, h0_67, h0_68, h0_69])), (a_te, .inl (ca_te, 700, .inl fa_te))]) hP hD hS hA [0, 1] (by decide) rfl
                        have hKc := hK.sub (tys' := [(ca_te, .int)]) [0] rfl
                        refine va_callv (va_runV (As := []) (rest := []) ⟨hx, hb, hml, hown, hts⟩ (s_X12_digits3 l dC dI H_45.size h0 a_te h0_1 h0_2 h0_3 h0_4 h0_5 h0_6 h0_7 h0_8 h0_9 h0_10 h0_11 h0_12 h0_13 h0_14 h0_15 h0_16 h0_17 h0_18 h0_19 h0_20 h0_21 h0_22 h0_23 h0_24 h0_25 h0_26 a_wd mf mfp mst v_20 2 (-1) v_4 h0_35 h0_36 h0_37 h0_38 h0_39 h0_40 h0_41 h0_42 h0_43 h0_44 h0_45 h0_46 h0_47 h0_48 h0_49 h0_50 h0_51 h0_52 h0_53 h0_54 h0_55 h0_56 h0_57 h0_58 h0_59 h0_60 h0_61 h0_62 h0_63 h0_64 h0_65 h0_66 h0_67 h0_68 h0_69 ca_te fa_te hB_mst hF_21 (by decide) hF_5 hI_a_te (by first | omega | decide)) (cwV 0 hts gw_s_X12_take3_s_X12_digits3_230 rfl rfl rfl (by decide +kernel) ⟨Nat.le_of_ble_eq_true rfl, Nat.le_of_ble_eq_true rfl⟩) ⟨z_blind, va_recv hKc hPc (ci := 12) (q0 := 0) rfl rfl, z_pre hPc hKc hDc⟩ rfl rfl hl.1 rfl (lv_room (Nat.le_of_ble_eq_true rfl)) dX12_take_182 ⟨Nat.le_of_ble_eq_true rfl, Nat.le_of_ble_eq_true rfl⟩) hS (fun q _ h => hFc q h) hFc (fun u t H_49 locs ht hvm hw_51 hB hz1 hk1 hS => ?_)
                        obtain ⟨n_h0_next_52, n_h0_which_53, hp_54, hp_55, hp_56, hp_57, hp_58, hP1, hK1, hD1⟩ := hB
                        rw [ht] at hP1
                        have hK1 := va_K.moved hvm.symm hK1
                        obtain ⟨hP, hD⟩ := z_ap_1 (va_join (wr := [(a_wd, .inl (ca_wd, 115, .inl fa_wd))]) hP hD [0, 1] [2] rfl rfl (by decide) (by decide) hk1 hFc hP1 hD1)
                        have hp_56 : v_20.toInt + 1 ≤ n_h0_next_52.toInt ∧ n_h0_next_52.toInt ≤ mst.toInt := hp_56
                        have hp_57 : f_run f_di fa_te mst.toInt v_20.toInt n_h0_next_52.toInt := hp_57
                        have hp_58 : f_v n_h0_which_53.toInt = f_v (f_nm fa_te v_20.toInt n_h0_next_52.toInt) := hp_58
                        clear hPc hDc hKc
                        refine lv_aload_n hx hb dX12_take_185 rfl (lv_at hl 1 rfl) ?_
                        refine lv_iload_n hx hb dX12_take_186 rfl (lv_at hl 0 rfl) ?_
                        refine lv_iconst (v := 1) hx hb dX12_take_187 (by decide) ?_
                        refine lv_icmp_le (tgt := 195) hx hb dX12_take_188 (by decide) (fun c_59 => ?_) (fun c_59 => ?_)
                        · have k_60 : (z_33).toInt ≤ (1 : Int) := z_le c_59
                          refine lv_aload_n hx hb dX12_take_195 rfl (lv_at hl 1 rfl) ?_
                          refine va_get (D := (dC, dI)) (ci := 12) (v := .ref a_te) (C := RX12) (T := TX12) (N := 70) hx hb hts hiX12 hown hK hP 1 rfl rfl 0 (by decide) w__fieldLink_RX12_7_ShellHeapModel_tape_I_ (fun _ h9 => h9) rfl dX12_take_196 ?_
                          refine lv_aload_n hx hb dX12_take_199 rfl (lv_at hl 1 rfl) ?_
                          refine va_get (D := (dC, dI)) (ci := 12) (v := .int v_4) (C := RX12) (T := TX12) (N := 70) hx hb hts hiX12 hown hK hP 1 rfl rfl 34 (by decide) w__fieldLink_RX12_201_ShellHeapModel_place_I_ (fun _ h9 => h9) rfl dX12_take_200 ?_
                          refine va_iald hx hb hK hP 2 0 rfl rfl (z_vpin (by omega) (by omega)) dX12_take_203 ?_
                          refine lv_topi (fun z_61 ez_61 => ?_)
                          have kz_61 : ((0 : Int) ≤ (z_61).toInt ∧ (z_61).toInt ≤ (255 : Int)) := by rw [ez_61]; exact hI_a_te _
                          have kxz_61 : (z_61).toInt = (fa_te (v_4 : Int32).toNatClampNeg).toInt := by rw [ez_61]
                          have kwz_61 : (z_61).toInt = (fa_te (v_4 : Int32).toInt.toNat).toInt := by rw [ez_61]; rfl
                          refine lv_bipush (v := 107) hx hb dX12_take_204 (by decide) ?_
                          refine lv_icmp_ne (tgt := 214) hx hb dX12_take_206 (by decide) (fun c_62 => ?_) (fun c_62 => ?_)
                          · have k_63 : (z_61).toInt ≠ (107 : Int) := z_ne c_62
                            refine lv_aload_n hx hb dX12_take_214 rfl (lv_at hl 1 rfl) ?_
                            refine va_get (D := (dC, dI)) (ci := 12) (v := .ref a_te) (C := RX12) (T := TX12) (N := 70) hx hb hts hiX12 hown hK hP 1 rfl rfl 0 (by decide) w__fieldLink_RX12_7_ShellHeapModel_tape_I_ (fun _ h9 => h9) rfl dX12_take_215 ?_
                            refine lv_aload_n hx hb dX12_take_218 rfl (lv_at hl 1 rfl) ?_
                            refine va_get (D := (dC, dI)) (ci := 12) (v := .int v_4) (C := RX12) (T := TX12) (N := 70) hx hb hts hiX12 hown hK hP 1 rfl rfl 34 (by decide) w__fieldLink_RX12_201_ShellHeapModel_place_I_ (fun _ h9 => h9) rfl dX12_take_219 ?_
                            refine va_iald hx hb hK hP 2 0 rfl rfl (z_vpin (by omega) (by omega)) dX12_take_222 ?_
                            refine lv_topi (fun z_64 ez_64 => ?_)
                            have kz_64 : ((0 : Int) ≤ (z_64).toInt ∧ (z_64).toInt ≤ (255 : Int)) := by rw [ez_64]; exact hI_a_te _
                            have kxz_64 : (z_64).toInt = (fa_te (v_4 : Int32).toNatClampNeg).toInt := by rw [ez_64]
                            have kwz_64 : (z_64).toInt = (fa_te (v_4 : Int32).toInt.toNat).toInt := by rw [ez_64]; rfl
                            refine lv_bipush (v := 115) hx hb dX12_take_223 (by decide) ?_
                            refine lv_icmp_ne (tgt := 233) hx hb dX12_take_225 (by decide) (fun c_65 => ?_) (fun c_65 => ?_)
                            · have k_66 : (z_64).toInt ≠ (115 : Int) := z_ne c_65
                              refine lv_iconst (v := 5) hx hb dX12_take_233 (by decide) ?_
                              refine va_put (D := (dC, dI)) (ci := 12) (v := .int 5) (ty := .int) (C := RX12) (T := TX12) (N := 70) hx hb hts hiX12 tyX12 tyX12_ok nmX12 hown hK hP hD hS 1 rfl rfl 32 (by decide) w__fieldLink_RX12_221_ShellHeapModel_kindNow_I_ (fun _ h9 => h9) rfl (by decide +kernel) rfl rfl (Nat.le_of_ble_eq_true rfl) dX12_take_234 (fun H_67 locs hP hD hS => ?_)
                              obtain ⟨hP, hD⟩ := z_s_1_32 hP hD
                              refine lv_goto (tgt := 342) hx hb dX12_take_237 (by decide) ?_
                              refine z_backQ hQQ ?_
                              obtain ⟨hP9, hD9⟩ := z_sub2 (ws' := [(h0, .inr (12, [.ref a_te, h0_1, h0_2, h0_3, h0_4, h0_5, h0_6, h0_7, h0_8, h0_9, h0_10, h0_11, h0_12, h0_13, h0_14, h0_15, h0_16, h0_17, h0_18, h0_19, h0_20, h0_21, h0_22, h0_23, h0_24, h0_25, h0_26, .ref a_wd, .int mf, .int mfp, .int mst, .int n_h0_next_52, .int 5, .int n_h0_which_53, .int v_4, h0_35, h0_36, h0_37, h0_38, h0_39, h0_40, h0_41, h0_42, h0_43, h0_44, h0_45, h0_46, h0_47, h0_48, h0_49, h0_50, h0_51, h0_52, h0_53, h0_54, h0_55, h0_56, h0_57, h0_58, h0_59, h0_60, h0_61, h0_62, h0_63, h0_64, h0_65, h0_66, h0_67, h0_68, h0_69])), (a_te, .inl (ca_te, 700, .inl fa_te)), (a_wd, .inl (ca_wd, 115, .inl fa_wd))]) hP hD [1, 2, 0] (by decide) rfl
                              have hK9 := hK.sub (tys' := []) [] rfl
                              refine W.widen (k := 0) (n := 0) (Nat.le_of_ble_eq_true rfl) (Nat.le_of_ble_eq_true rfl) ?_
                              exact W.vret hx hb hr (fun t ht hW => ⟨⟨(), rfl, trivial, ⟨n_h0_next_52, 5, n_h0_which_53, v_4, hp_54, (by decide), hF_5, (show mnx.toInt ≤ n_h0_next_52.toInt ∧ n_h0_next_52.toInt ≤ mst.toInt by omega), (show (5 : Int) ≤ 8 * (n_h0_next_52.toInt - mnx.toInt) by omega), (show v_4.toInt ≤ n_h0_next_52.toInt by omega), (show z_tk8 (5 : Int) n_h0_next_52.toInt v_4.toInt from fun h9 => by omega), (show z_tkw n_h0_which_53.toInt (5 : Int) from fun h9 h8 h7 => by omega), (show f_M fa_te mst.toInt mnx.toInt (5 : Int) n_h0_which_53.toInt n_h0_next_52.toInt from f_M_k hrn (by omega) (show f_le _ from ⟨hsm0.2.1, hsm0.2.2⟩) hlr hp_57 (by omega) hp_58 (by omega) (Or.inr (Or.inr ⟨by omega, rfl⟩))), by rw [ht]; exact hP9, va_K.moved hW.alike hK9, hD9⟩⟩, hS.F ht⟩) hS.2.2 dX12_take_342
                            · have k_68 : (z_64).toInt = (115 : Int) := z_eq c_65
                              obtain rfl : z_64 = 115 := z_eq' (show (z_64).toInt = (115 : Int) by omega)
                              refine lv_bipush (v := 7) hx hb dX12_take_228 (by decide) ?_
                              refine lv_goto (tgt := 234) hx hb dX12_take_230 (by decide) ?_
                              refine va_put (D := (dC, dI)) (ci := 12) (v := .int 7) (ty := .int) (C := RX12) (T := TX12) (N := 70) hx hb hts hiX12 tyX12 tyX12_ok nmX12 hown hK hP hD hS 1 rfl rfl 32 (by decide) w__fieldLink_RX12_221_ShellHeapModel_kindNow_I_ (fun _ h9 => h9) rfl (by decide +kernel) rfl rfl (Nat.le_of_ble_eq_true rfl) dX12_take_234 (fun H_70 locs hP hD hS => ?_)
                              obtain ⟨hP, hD⟩ := z_s_1_32 hP hD
                              refine lv_goto (tgt := 342) hx hb dX12_take_237 (by decide) ?_
                              refine z_backQ hQQ ?_
                              obtain ⟨hP9, hD9⟩ := z_sub2 (ws' := [(h0, .inr (12, [.ref a_te, h0_1, h0_2, h0_3, h0_4, h0_5, h0_6, h0_7, h0_8, h0_9, h0_10, h0_11, h0_12, h0_13, h0_14, h0_15, h0_16, h0_17, h0_18, h0_19, h0_20, h0_21, h0_22, h0_23, h0_24, h0_25, h0_26, .ref a_wd, .int mf, .int mfp, .int mst, .int n_h0_next_52, .int 7, .int n_h0_which_53, .int v_4, h0_35, h0_36, h0_37, h0_38, h0_39, h0_40, h0_41, h0_42, h0_43, h0_44, h0_45, h0_46, h0_47, h0_48, h0_49, h0_50, h0_51, h0_52, h0_53, h0_54, h0_55, h0_56, h0_57, h0_58, h0_59, h0_60, h0_61, h0_62, h0_63, h0_64, h0_65, h0_66, h0_67, h0_68, h0_69])), (a_te, .inl (ca_te, 700, .inl fa_te)), (a_wd, .inl (ca_wd, 115, .inl fa_wd))]) hP hD [1, 2, 0] (by decide) rfl
                              have hK9 := hK.sub (tys' := []) [] rfl
                              refine W.widen (k := 0) (n := 0) (Nat.le_of_ble_eq_true rfl) (Nat.le_of_ble_eq_true rfl) ?_
                              exact W.vret hx hb hr (fun t ht hW => ⟨⟨(), rfl, trivial, ⟨n_h0_next_52, 7, n_h0_which_53, v_4, hp_54, (by decide), hF_5, (show mnx.toInt ≤ n_h0_next_52.toInt ∧ n_h0_next_52.toInt ≤ mst.toInt by omega), (show (7 : Int) ≤ 8 * (n_h0_next_52.toInt - mnx.toInt) by omega), (show v_4.toInt ≤ n_h0_next_52.toInt by omega), (show z_tk8 (7 : Int) n_h0_next_52.toInt v_4.toInt from fun h9 => by omega), (show z_tkw n_h0_which_53.toInt (7 : Int) from fun h9 h8 h7 => by omega), (show f_M fa_te mst.toInt mnx.toInt (7 : Int) n_h0_which_53.toInt n_h0_next_52.toInt from f_M_k hrn (by omega) (show f_le _ from ⟨hsm0.2.1, hsm0.2.2⟩) hlr hp_57 (by omega) hp_58 (by omega) (Or.inr (Or.inl ⟨by omega, by first | omega | exact (congrArg Int32.toInt ez_64).symm.trans (by decide), rfl⟩))), by rw [ht]; exact hP9, va_K.moved hW.alike hK9, hD9⟩⟩, hS.F ht⟩) hS.2.2 dX12_take_342
                          · have k_71 : (z_61).toInt = (107 : Int) := z_eq c_62
                            obtain rfl : z_61 = 107 := z_eq' (show (z_61).toInt = (107 : Int) by omega)
                            refine lv_bipush (v := 6) hx hb dX12_take_209 (by decide) ?_
                            refine lv_goto (tgt := 234) hx hb dX12_take_211 (by decide) ?_
                            refine va_put (D := (dC, dI)) (ci := 12) (v := .int 6) (ty := .int) (C := RX12) (T := TX12) (N := 70) hx hb hts hiX12 tyX12 tyX12_ok nmX12 hown hK hP hD hS 1 rfl rfl 32 (by decide) w__fieldLink_RX12_221_ShellHeapModel_kindNow_I_ (fun _ h9 => h9) rfl (by decide +kernel) rfl rfl (Nat.le_of_ble_eq_true rfl) dX12_take_234 (fun H_73 locs hP hD hS => ?_)
                            obtain ⟨hP, hD⟩ := z_s_1_32 hP hD
                            refine lv_goto (tgt := 342) hx hb dX12_take_237 (by decide) ?_
                            refine z_backQ hQQ ?_
                            obtain ⟨hP9, hD9⟩ := z_sub2 (ws' := [(h0, .inr (12, [.ref a_te, h0_1, h0_2, h0_3, h0_4, h0_5, h0_6, h0_7, h0_8, h0_9, h0_10, h0_11, h0_12, h0_13, h0_14, h0_15, h0_16, h0_17, h0_18, h0_19, h0_20, h0_21, h0_22, h0_23, h0_24, h0_25, h0_26, .ref a_wd, .int mf, .int mfp, .int mst, .int n_h0_next_52, .int 6, .int n_h0_which_53, .int v_4, h0_35, h0_36, h0_37, h0_38, h0_39, h0_40, h0_41, h0_42, h0_43, h0_44, h0_45, h0_46, h0_47, h0_48, h0_49, h0_50, h0_51, h0_52, h0_53, h0_54, h0_55, h0_56, h0_57, h0_58, h0_59, h0_60, h0_61, h0_62, h0_63, h0_64, h0_65, h0_66, h0_67, h0_68, h0_69])), (a_te, .inl (ca_te, 700, .inl fa_te)), (a_wd, .inl (ca_wd, 115, .inl fa_wd))]) hP hD [1, 2, 0] (by decide) rfl
                            have hK9 := hK.sub (tys' := []) [] rfl
                            refine W.widen (k := 0) (n := 0) (Nat.le_of_ble_eq_true rfl) (Nat.le_of_ble_eq_true rfl) ?_
                            exact W.vret hx hb hr (fun t ht hW => ⟨⟨(), rfl, trivial, ⟨n_h0_next_52, 6, n_h0_which_53, v_4, hp_54, (by decide), hF_5, (show mnx.toInt ≤ n_h0_next_52.toInt ∧ n_h0_next_52.toInt ≤ mst.toInt by omega), (show (6 : Int) ≤ 8 * (n_h0_next_52.toInt - mnx.toInt) by omega), (show v_4.toInt ≤ n_h0_next_52.toInt by omega), (show z_tk8 (6 : Int) n_h0_next_52.toInt v_4.toInt from fun h9 => by omega), (show z_tkw n_h0_which_53.toInt (6 : Int) from fun h9 h8 h7 => by omega), (show f_M fa_te mst.toInt mnx.toInt (6 : Int) n_h0_which_53.toInt n_h0_next_52.toInt from f_M_k hrn (by omega) (show f_le _ from ⟨hsm0.2.1, hsm0.2.2⟩) hlr hp_57 (by omega) hp_58 (by omega) (Or.inl ⟨by omega, by first | omega | exact (congrArg Int32.toInt ez_61).symm.trans (by decide), rfl⟩)), by rw [ht]; exact hP9, va_K.moved hW.alike hK9, hD9⟩⟩, hS.F ht⟩) hS.2.2 dX12_take_342
                        · have k_74 : (z_33).toInt > (1 : Int) := z_nle c_59
                          refine lv_iconst (v := 5) hx hb dX12_take_191 (by decide) ?_
                          refine lv_goto (tgt := 234) hx hb dX12_take_192 (by decide) ?_
                          refine va_put (D := (dC, dI)) (ci := 12) (v := .int 5) (ty := .int) (C := RX12) (T := TX12) (N := 70) hx hb hts hiX12 tyX12 tyX12_ok nmX12 hown hK hP hD hS 1 rfl rfl 32 (by decide) w__fieldLink_RX12_221_ShellHeapModel_kindNow_I_ (fun _ h9 => h9) rfl (by decide +kernel) rfl rfl (Nat.le_of_ble_eq_true rfl) dX12_take_234 (fun H_75 locs hP hD hS => ?_)
                          obtain ⟨hP, hD⟩ := z_s_1_32 hP hD
                          refine lv_goto (tgt := 342) hx hb dX12_take_237 (by decide) ?_
                          refine z_backQ hQQ ?_
                          obtain ⟨hP9, hD9⟩ := z_sub2 (ws' := [(h0, .inr (12, [.ref a_te, h0_1, h0_2, h0_3, h0_4, h0_5, h0_6, h0_7, h0_8, h0_9, h0_10, h0_11, h0_12, h0_13, h0_14, h0_15, h0_16, h0_17, h0_18, h0_19, h0_20, h0_21, h0_22, h0_23, h0_24, h0_25, h0_26, .ref a_wd, .int mf, .int mfp, .int mst, .int n_h0_next_52, .int 5, .int n_h0_which_53, .int v_4, h0_35, h0_36, h0_37, h0_38, h0_39, h0_40, h0_41, h0_42, h0_43, h0_44, h0_45, h0_46, h0_47, h0_48, h0_49, h0_50, h0_51, h0_52, h0_53, h0_54, h0_55, h0_56, h0_57, h0_58, h0_59, h0_60, h0_61, h0_62, h0_63, h0_64, h0_65, h0_66, h0_67, h0_68, h0_69])), (a_te, .inl (ca_te, 700, .inl fa_te)), (a_wd, .inl (ca_wd, 115, .inl fa_wd))]) hP hD [1, 2, 0] (by decide) rfl
                          have hK9 := hK.sub (tys' := []) [] rfl
                          refine W.widen (k := 0) (n := 0) (Nat.le_of_ble_eq_true rfl) (Nat.le_of_ble_eq_true rfl) ?_
                          exact W.vret hx hb hr (fun t ht hW => ⟨⟨(), rfl, trivial, ⟨n_h0_next_52, 5, n_h0_which_53, v_4, hp_54, (by decide), hF_5, (show mnx.toInt ≤ n_h0_next_52.toInt ∧ n_h0_next_52.toInt ≤ mst.toInt by omega), (show (5 : Int) ≤ 8 * (n_h0_next_52.toInt - mnx.toInt) by omega), (show v_4.toInt ≤ n_h0_next_52.toInt by omega), (show z_tk8 (5 : Int) n_h0_next_52.toInt v_4.toInt from fun h9 => by omega), (show z_tkw n_h0_which_53.toInt (5 : Int) from fun h9 h8 h7 => by omega), (show f_M fa_te mst.toInt mnx.toInt (5 : Int) n_h0_which_53.toInt n_h0_next_52.toInt from f_M_k hrn (by omega) (show f_le _ from ⟨hsm0.2.1, hsm0.2.2⟩) hlr hp_57 (by omega) hp_58 (by omega) (Or.inr (Or.inr ⟨by omega, rfl⟩))), by rw [ht]; exact hP9, va_K.moved hW.alike hK9, hD9⟩⟩, hS.F ht⟩) hS.2.2 dX12_take_342
                      · have hw_47 : ¬ (v_20.toInt < mst.toInt ∧ 48 ≤ (fa_te v_20.toNatClampNeg).toInt ∧ (fa_te v_20.toNatClampNeg).toInt ≤ 57) := hw_47
                        refine lv_if_eq (tgt := 237) hx hb dX12_take_178 (by decide) (fun _ => ?_) (fun c_76 => absurd (by decide) c_76)
                        refine lv_goto (tgt := 342) hx hb dX12_take_237 (by decide) ?_
                        refine z_backQ hQQ ?_
                        have hP9 := hP
                        have hD9 := hD
                        have hK9 := hK.sub (tys' := []) [] rfl
                        refine W.widen (k := 0) (n := 0) (Nat.le_of_ble_eq_true rfl) (Nat.le_of_ble_eq_true rfl) ?_
                        exact W.vret hx hb hr (fun t ht hW => ⟨⟨(), rfl, trivial, ⟨v_20, 2, (-1), v_4, hF_21, (by decide), hF_5, (show mnx.toInt ≤ v_20.toInt ∧ v_20.toInt ≤ mst.toInt by omega), (show (2 : Int) ≤ 8 * (v_20.toInt - mnx.toInt) by omega), (show v_4.toInt ≤ v_20.toInt by omega), (show z_tk8 (2 : Int) v_20.toInt v_4.toInt from fun h9 => by omega), (show z_tkw (-1 : Int) (2 : Int) from fun h9 h8 h7 => by omega), (show f_M fa_te mst.toInt mnx.toInt (2 : Int) (-1 : Int) v_20.toInt from f_M_w hrn (by omega) (show f_le _ from ⟨hsm0.2.1, hsm0.2.2⟩) hlr (fun h8 h9 => hw_47 ⟨h8, h9.1, h9.2⟩) hw_36.2 (by omega)), by rw [ht]; exact hP9, va_K.moved hW.alike hK9, hD9⟩⟩, hS.F ht⟩) hS.2.2 dX12_take_342
                    · have k_77 : (z_33).toInt > (8 : Int) := z_nle c_41
                      refine lv_iconst (v := 5) hx hb dX12_take_158 (by decide) ?_
                      refine lv_goto (tgt := 163) hx hb dX12_take_159 (by decide) ?_
                      refine va_put (D := (dC, dI)) (ci := 12) (v := .int 5) (ty := .int) (C := RX12) (T := TX12) (N := 70) hx hb hts hiX12 tyX12 tyX12_ok nmX12 hown hK hP hD hS 0 rfl rfl 32 (by decide) w__fieldLink_RX12_221_ShellHeapModel_kindNow_I_ (fun _ h9 => h9) rfl (by decide +kernel) rfl rfl (Nat.le_of_ble_eq_true rfl) dX12_take_163 (fun H_78 locs hP hD hS => ?_)
                      obtain ⟨hP, hD⟩ := z_s_0_32 hP hD
                      refine lv_iload_n hx hb dX12_take_166 rfl (lv_at hl 2 rfl) ?_
                      refine lv_if_eq (tgt := 237) hx hb dX12_take_167 (by decide) (fun c_79 => absurd c_79 (by decide)) (fun _ => ?_)
                      refine lv_aload_n hx hb dX12_take_170 rfl (lv_at hl 1 rfl) ?_
                      refine lv_aload_n hx hb dX12_take_171 rfl (lv_at hl 1 rfl) ?_
                      refine va_get (D := (dC, dI)) (ci := 12) (v := .int v_20) (C := RX12) (T := TX12) (N := 70) hx hb hts hiX12 hown hK hP 0 rfl rfl 31 (by decide) w__fieldLink_RX12_207_ShellHeapModel_next_I_ (fun _ h9 => h9) rfl dX12_take_172 ?_
                      obtain ⟨hPc, hDc⟩ := z_sub2 (ws' := [(h0, .inr (12, [.ref a_te, h0_1, h0_2, h0_3, h0_4, h0_5, h0_6, h0_7, h0_8, h0_9, h0_10, h0_11, h0_12, h0_13, h0_14, h0_15, h0_16, h0_17, h0_18, h0_19, h0_20, h0_21, h0_22, h0_23, h0_24, h0_25, h0_26, .ref a_wd, .int mf, .int mfp, .int mst, .int v_20, .int 5, .int (-1), .int v_4, h0_35, h0_36, h0_37, h0_38, h0_39, h0_40, h0_41, h0_42, h0_43, h0_44, h0_45, h0_46, h0_47, h0_48, h0_49, h0_50, h0_51, h0_52, h0_53, h0_54, h0_55, h0_56, h0_57, h0_58, h0_59, h0_60, h0_61, h0_62, h0_63, h0_64, h0_65, h0_66, h0_67, h0_68, h0_69])), (a_te, .inl (ca_te, 700, .inl fa_te))]) hP hD [0, 1] (by decide) rfl
                      have hKc := hK.sub (tys' := [(ca_te, .int)]) [0] rfl
                      have hFc := va_free (ws := []) (wc := []) (z_D0 _) hS hA [] rfl
                      refine va_calli (va_runV (As := [.int v_20]) (rest := []) ⟨hx, hb, hml, hown, hts⟩ (s_X12_isDigit l dC dI H_78.size h0 v_20 a_te h0_1 h0_2 h0_3 h0_4 h0_5 h0_6 h0_7 h0_8 h0_9 h0_10 h0_11 h0_12 h0_13 h0_14 h0_15 h0_16 h0_17 h0_18 h0_19 h0_20 h0_21 h0_22 h0_23 h0_24 h0_25 h0_26 a_wd mf mfp mst v_20 5 (-1) v_4 h0_35 h0_36 h0_37 h0_38 h0_39 h0_40 h0_41 h0_42 h0_43 h0_44 h0_45 h0_46 h0_47 h0_48 h0_49 h0_50 h0_51 h0_52 h0_53 h0_54 h0_55 h0_56 h0_57 h0_58 h0_59 h0_60 h0_61 h0_62 h0_63 h0_64 h0_65 h0_66 h0_67 h0_68 h0_69 ca_te fa_te hB_mst hF_21 (by decide) hF_5 hF_21 hI_a_te) (cwV 1 hts gw_s_X12_take3_s_X12_isDigit_217 rfl rfl rfl (by decide +kernel) ⟨Nat.le_of_ble_eq_true rfl, Nat.le_of_ble_eq_true rfl⟩) ⟨z_blind, va_recv hKc hPc (ci := 12) (q0 := 0) rfl rfl, z_pre hPc hKc hDc⟩ rfl rfl hl.1 rfl (lv_room (Nat.le_of_ble_eq_true rfl)) dX12_take_175 ⟨Nat.le_of_ble_eq_true rfl, Nat.le_of_ble_eq_true rfl⟩) hS (fun q _ h => hFc q h) hFc (fun r_81 u t H_80 locs ht hvm hw_82 hB hz1 hk1 hS => ?_)
                      replace hP := z_pure hP hk1
                      clear hPc hDc hKc
                      rcases hw_82 with ⟨rfl, hw_82⟩ | ⟨rfl, hw_82⟩
                      · have hw_82 : (v_20.toInt < mst.toInt ∧ 48 ≤ (fa_te v_20.toNatClampNeg).toInt ∧ (fa_te v_20.toNatClampNeg).toInt ≤ 57) := hw_82
                        refine lv_if_eq (tgt := 237) hx hb dX12_take_178 (by decide) (fun c_83 => absurd c_83 (by decide)) (fun _ => ?_)
                        refine lv_aload_n hx hb dX12_take_181 rfl (lv_at hl 1 rfl) ?_
                        obtain ⟨hPc, hDc, hFc⟩ := z_sub3 (ws' := [(h0, .inr (12, [.ref a_te, h0_1, h0_2, h0_3, h0_4, h0_5, h0_6, h0_7, h0_8, h0_9, h0_10, h0_11, h0_12, h0_13, h0_14, h0_15, h0_16, h0_17, h0_18, h0_19, h0_20, h0_21, h0_22, h0_23, h0_24, h0_25, h0_26, .ref a_wd, .int mf, .int mfp, .int mst, .int v_20, .int 5, .int (-1), .int v_4, h0_35, h0_36, h0_37, h0_38, h0_39, h0_40, h0_41, h0_42, h0_43, h0_44, h0_45, h0_46, h0_47, h0_48, h0_49, h0_50, h0_51, h0_52, h0_53, h0_54, h0_55, h0_56, h0_57, h0_58, h0_59, h0_60, h0_61, h0_62, h0_63, h0_64, h0_65, h0_66, h0_67, h0_68, h0_69])), (a_te, .inl (ca_te, 700, .inl fa_te))]) hP hD hS hA [0, 1] (by decide) rfl
                        have hKc := hK.sub (tys' := [(ca_te, .int)]) [0] rfl
                        refine va_callv (va_runV (As := []) (rest := []) ⟨hx, hb, hml, hown, hts⟩ (s_X12_digits3 l dC dI H_80.size h0 a_te h0_1 h0_2 h0_3 h0_4 h0_5 h0_6 h0_7 h0_8 h0_9 h0_10 h0_11 h0_12 h0_13 h0_14 h0_15 h0_16 h0_17 h0_18 h0_19 h0_20 h0_21 h0_22 h0_23 h0_24 h0_25 h0_26 a_wd mf mfp mst v_20 5 (-1) v_4 h0_35 h0_36 h0_37 h0_38 h0_39 h0_40 h0_41 h0_42 h0_43 h0_44 h0_45 h0_46 h0_47 h0_48 h0_49 h0_50 h0_51 h0_52 h0_53 h0_54 h0_55 h0_56 h0_57 h0_58 h0_59 h0_60 h0_61 h0_62 h0_63 h0_64 h0_65 h0_66 h0_67 h0_68 h0_69 ca_te fa_te hB_mst hF_21 (by decide) hF_5 hI_a_te (by first | omega | decide)) (cwV 0 hts gw_s_X12_take3_s_X12_digits3_230 rfl rfl rfl (by decide +kernel) ⟨Nat.le_of_ble_eq_true rfl, Nat.le_of_ble_eq_true rfl⟩) ⟨z_blind, va_recv hKc hPc (ci := 12) (q0 := 0) rfl rfl, z_pre hPc hKc hDc⟩ rfl rfl hl.1 rfl (lv_room (Nat.le_of_ble_eq_true rfl)) dX12_take_182 ⟨Nat.le_of_ble_eq_true rfl, Nat.le_of_ble_eq_true rfl⟩) hS (fun q _ h => hFc q h) hFc (fun u t H_84 locs ht hvm hw_86 hB hz1 hk1 hS => ?_)
                        obtain ⟨n_h0_next_87, n_h0_which_88, hp_89, hp_90, hp_91, hp_92, hp_93, hP1, hK1, hD1⟩ := hB
                        rw [ht] at hP1
                        have hK1 := va_K.moved hvm.symm hK1
                        obtain ⟨hP, hD⟩ := z_ap_1 (va_join (wr := [(a_wd, .inl (ca_wd, 115, .inl fa_wd))]) hP hD [0, 1] [2] rfl rfl (by decide) (by decide) hk1 hFc hP1 hD1)
                        have hp_91 : v_20.toInt + 1 ≤ n_h0_next_87.toInt ∧ n_h0_next_87.toInt ≤ mst.toInt := hp_91
                        have hp_92 : f_run f_di fa_te mst.toInt v_20.toInt n_h0_next_87.toInt := hp_92
                        have hp_93 : f_v n_h0_which_88.toInt = f_v (f_nm fa_te v_20.toInt n_h0_next_87.toInt) := hp_93
                        clear hPc hDc hKc
                        refine lv_aload_n hx hb dX12_take_185 rfl (lv_at hl 1 rfl) ?_
                        refine lv_iload_n hx hb dX12_take_186 rfl (lv_at hl 0 rfl) ?_
                        refine lv_iconst (v := 1) hx hb dX12_take_187 (by decide) ?_
                        refine lv_icmp_le (tgt := 195) hx hb dX12_take_188 (by decide) (fun c_94 => ?_) (fun c_94 => ?_)
                        · exfalso
                          have k_95 : (z_33).toInt ≤ (1 : Int) := z_le c_94
                          omega
                        refine lv_iconst (v := 5) hx hb dX12_take_191 (by decide) ?_
                        refine lv_goto (tgt := 234) hx hb dX12_take_192 (by decide) ?_
                        refine va_put (D := (dC, dI)) (ci := 12) (v := .int 5) (ty := .int) (C := RX12) (T := TX12) (N := 70) hx hb hts hiX12 tyX12 tyX12_ok nmX12 hown hK hP hD hS 1 rfl rfl 32 (by decide) w__fieldLink_RX12_221_ShellHeapModel_kindNow_I_ (fun _ h9 => h9) rfl (by decide +kernel) rfl rfl (Nat.le_of_ble_eq_true rfl) dX12_take_234 (fun H_96 locs hP hD hS => ?_)
                        obtain ⟨hP, hD⟩ := z_s_1_32 hP hD
                        refine lv_goto (tgt := 342) hx hb dX12_take_237 (by decide) ?_
                        refine z_backQ hQQ ?_
                        obtain ⟨hP9, hD9⟩ := z_sub2 (ws' := [(h0, .inr (12, [.ref a_te, h0_1, h0_2, h0_3, h0_4, h0_5, h0_6, h0_7, h0_8, h0_9, h0_10, h0_11, h0_12, h0_13, h0_14, h0_15, h0_16, h0_17, h0_18, h0_19, h0_20, h0_21, h0_22, h0_23, h0_24, h0_25, h0_26, .ref a_wd, .int mf, .int mfp, .int mst, .int n_h0_next_87, .int 5, .int n_h0_which_88, .int v_4, h0_35, h0_36, h0_37, h0_38, h0_39, h0_40, h0_41, h0_42, h0_43, h0_44, h0_45, h0_46, h0_47, h0_48, h0_49, h0_50, h0_51, h0_52, h0_53, h0_54, h0_55, h0_56, h0_57, h0_58, h0_59, h0_60, h0_61, h0_62, h0_63, h0_64, h0_65, h0_66, h0_67, h0_68, h0_69])), (a_te, .inl (ca_te, 700, .inl fa_te)), (a_wd, .inl (ca_wd, 115, .inl fa_wd))]) hP hD [1, 2, 0] (by decide) rfl
                        have hK9 := hK.sub (tys' := []) [] rfl
                        refine W.widen (k := 0) (n := 0) (Nat.le_of_ble_eq_true rfl) (Nat.le_of_ble_eq_true rfl) ?_
                        exact W.vret hx hb hr (fun t ht hW => ⟨⟨(), rfl, trivial, ⟨n_h0_next_87, 5, n_h0_which_88, v_4, hp_89, (by decide), hF_5, (show mnx.toInt ≤ n_h0_next_87.toInt ∧ n_h0_next_87.toInt ≤ mst.toInt by omega), (show (5 : Int) ≤ 8 * (n_h0_next_87.toInt - mnx.toInt) by omega), (show v_4.toInt ≤ n_h0_next_87.toInt by omega), (show z_tk8 (5 : Int) n_h0_next_87.toInt v_4.toInt from fun h9 => by omega), (show z_tkw n_h0_which_88.toInt (5 : Int) from fun h9 h8 h7 => by omega), (show f_M fa_te mst.toInt mnx.toInt (5 : Int) n_h0_which_88.toInt n_h0_next_87.toInt from f_M_k hrn (by omega) (show f_le _ from ⟨hsm0.2.1, hsm0.2.2⟩) hlr hp_92 (by omega) hp_93 (by omega) (Or.inr (Or.inr ⟨by omega, rfl⟩))), by rw [ht]; exact hP9, va_K.moved hW.alike hK9, hD9⟩⟩, hS.F ht⟩) hS.2.2 dX12_take_342
                      · have hw_82 : ¬ (v_20.toInt < mst.toInt ∧ 48 ≤ (fa_te v_20.toNatClampNeg).toInt ∧ (fa_te v_20.toNatClampNeg).toInt ≤ 57) := hw_82
                        refine lv_if_eq (tgt := 237) hx hb dX12_take_178 (by decide) (fun _ => ?_) (fun c_97 => absurd (by decide) c_97)
                        refine lv_goto (tgt := 342) hx hb dX12_take_237 (by decide) ?_
                        refine z_backQ hQQ ?_
                        have hP9 := hP
                        have hD9 := hD
                        have hK9 := hK.sub (tys' := []) [] rfl
                        refine W.widen (k := 0) (n := 0) (Nat.le_of_ble_eq_true rfl) (Nat.le_of_ble_eq_true rfl) ?_
                        exact W.vret hx hb hr (fun t ht hW => ⟨⟨(), rfl, trivial, ⟨v_20, 5, (-1), v_4, hF_21, (by decide), hF_5, (show mnx.toInt ≤ v_20.toInt ∧ v_20.toInt ≤ mst.toInt by omega), (show (5 : Int) ≤ 8 * (v_20.toInt - mnx.toInt) by omega), (show v_4.toInt ≤ v_20.toInt by omega), (show z_tk8 (5 : Int) v_20.toInt v_4.toInt from fun h9 => by omega), (show z_tkw (-1 : Int) (5 : Int) from fun h9 h8 h7 => by omega), (show f_M fa_te mst.toInt mnx.toInt (5 : Int) (-1 : Int) v_20.toInt from f_M_w hrn (by omega) (show f_le _ from ⟨hsm0.2.1, hsm0.2.2⟩) hlr (fun h8 h9 => hw_82 ⟨h8, h9.1, h9.2⟩) hw_36.2 (by omega)), by rw [ht]; exact hP9, va_K.moved hW.alike hK9, hD9⟩⟩, hS.F ht⟩) hS.2.2 dX12_take_342
                  · have k_98 : (r_35).toInt ≥ (0 : Int) := z_nlt c_38
                    refine lv_iconst (v := 1) hx hb dX12_take_148 (by decide) ?_
                    refine lv_goto (tgt := 163) hx hb dX12_take_149 (by decide) ?_
                    refine va_put (D := (dC, dI)) (ci := 12) (v := .int 1) (ty := .int) (C := RX12) (T := TX12) (N := 70) hx hb hts hiX12 tyX12 tyX12_ok nmX12 hown hK hP hD hS 0 rfl rfl 32 (by decide) w__fieldLink_RX12_221_ShellHeapModel_kindNow_I_ (fun _ h9 => h9) rfl (by decide +kernel) rfl rfl (Nat.le_of_ble_eq_true rfl) dX12_take_163 (fun H_99 locs hP hD hS => ?_)
                    obtain ⟨hP, hD⟩ := z_s_0_32 hP hD
                    refine lv_iload_n hx hb dX12_take_166 rfl (lv_at hl 2 rfl) ?_
                    refine lv_if_eq (tgt := 237) hx hb dX12_take_167 (by decide) (fun c_100 => absurd c_100 (by decide)) (fun _ => ?_)
                    refine lv_aload_n hx hb dX12_take_170 rfl (lv_at hl 1 rfl) ?_
                    refine lv_aload_n hx hb dX12_take_171 rfl (lv_at hl 1 rfl) ?_
                    refine va_get (D := (dC, dI)) (ci := 12) (v := .int v_20) (C := RX12) (T := TX12) (N := 70) hx hb hts hiX12 hown hK hP 0 rfl rfl 31 (by decide) w__fieldLink_RX12_207_ShellHeapModel_next_I_ (fun _ h9 => h9) rfl dX12_take_172 ?_
                    obtain ⟨hPc, hDc⟩ := z_sub2 (ws' := [(h0, .inr (12, [.ref a_te, h0_1, h0_2, h0_3, h0_4, h0_5, h0_6, h0_7, h0_8, h0_9, h0_10, h0_11, h0_12, h0_13, h0_14, h0_15, h0_16, h0_17, h0_18, h0_19, h0_20, h0_21, h0_22, h0_23, h0_24, h0_25, h0_26, .ref a_wd, .int mf, .int mfp, .int mst, .int v_20, .int 1, .int r_35, .int v_4, h0_35, h0_36, h0_37, h0_38, h0_39, h0_40, h0_41, h0_42, h0_43, h0_44, h0_45, h0_46, h0_47, h0_48, h0_49, h0_50, h0_51, h0_52, h0_53, h0_54, h0_55, h0_56, h0_57, h0_58, h0_59, h0_60, h0_61, h0_62, h0_63, h0_64, h0_65, h0_66, h0_67, h0_68, h0_69])), (a_te, .inl (ca_te, 700, .inl fa_te))]) hP hD [0, 1] (by decide) rfl
                    have hKc := hK.sub (tys' := [(ca_te, .int)]) [0] rfl
                    have hFc := va_free (ws := []) (wc := []) (z_D0 _) hS hA [] rfl
                    refine va_calli (va_runV (As := [.int v_20]) (rest := []) ⟨hx, hb, hml, hown, hts⟩ (s_X12_isDigit l dC dI H_99.size h0 v_20 a_te h0_1 h0_2 h0_3 h0_4 h0_5 h0_6 h0_7 h0_8 h0_9 h0_10 h0_11 h0_12 h0_13 h0_14 h0_15 h0_16 h0_17 h0_18 h0_19 h0_20 h0_21 h0_22 h0_23 h0_24 h0_25 h0_26 a_wd mf mfp mst v_20 1 r_35 v_4 h0_35 h0_36 h0_37 h0_38 h0_39 h0_40 h0_41 h0_42 h0_43 h0_44 h0_45 h0_46 h0_47 h0_48 h0_49 h0_50 h0_51 h0_52 h0_53 h0_54 h0_55 h0_56 h0_57 h0_58 h0_59 h0_60 h0_61 h0_62 h0_63 h0_64 h0_65 h0_66 h0_67 h0_68 h0_69 ca_te fa_te hB_mst hF_21 (by decide) hF_5 hF_21 hI_a_te) (cwV 1 hts gw_s_X12_take3_s_X12_isDigit_217 rfl rfl rfl (by decide +kernel) ⟨Nat.le_of_ble_eq_true rfl, Nat.le_of_ble_eq_true rfl⟩) ⟨z_blind, va_recv hKc hPc (ci := 12) (q0 := 0) rfl rfl, z_pre hPc hKc hDc⟩ rfl rfl hl.1 rfl (lv_room (Nat.le_of_ble_eq_true rfl)) dX12_take_175 ⟨Nat.le_of_ble_eq_true rfl, Nat.le_of_ble_eq_true rfl⟩) hS (fun q _ h => hFc q h) hFc (fun r_102 u t H_101 locs ht hvm hw_103 hB hz1 hk1 hS => ?_)
                    replace hP := z_pure hP hk1
                    clear hPc hDc hKc
                    rcases hw_103 with ⟨rfl, hw_103⟩ | ⟨rfl, hw_103⟩
                    · have hw_103 : (v_20.toInt < mst.toInt ∧ 48 ≤ (fa_te v_20.toNatClampNeg).toInt ∧ (fa_te v_20.toNatClampNeg).toInt ≤ 57) := hw_103
                      refine lv_if_eq (tgt := 237) hx hb dX12_take_178 (by decide) (fun c_104 => absurd c_104 (by decide)) (fun _ => ?_)
                      refine lv_aload_n hx hb dX12_take_181 rfl (lv_at hl 1 rfl) ?_
                      obtain ⟨hPc, hDc, hFc⟩ := z_sub3 (ws' := [(h0, .inr (12, [.ref a_te, h0_1, h0_2, h0_3, h0_4, h0_5, h0_6, h0_7, h0_8, h0_9, h0_10, h0_11, h0_12, h0_13, h0_14, h0_15, h0_16, h0_17, h0_18, h0_19, h0_20, h0_21, h0_22, h0_23, h0_24, h0_25, h0_26, .ref a_wd, .int mf, .int mfp, .int mst, .int v_20, .int 1, .int r_35, .int v_4, h0_35, h0_36, h0_37, h0_38, h0_39, h0_40, h0_41, h0_42, h0_43, h0_44, h0_45, h0_46, h0_47, h0_48, h0_49, h0_50, h0_51, h0_52, h0_53, h0_54, h0_55, h0_56, h0_57, h0_58, h0_59, h0_60, h0_61, h0_62, h0_63, h0_64, h0_65, h0_66, h0_67, h0_68, h0_69])), (a_te, .inl (ca_te, 700, .inl fa_te))]) hP hD hS hA [0, 1] (by decide) rfl
                      have hKc := hK.sub (tys' := [(ca_te, .int)]) [0] rfl
                      refine va_callv (va_runV (As := []) (rest := []) ⟨hx, hb, hml, hown, hts⟩ (s_X12_digits3 l dC dI H_101.size h0 a_te h0_1 h0_2 h0_3 h0_4 h0_5 h0_6 h0_7 h0_8 h0_9 h0_10 h0_11 h0_12 h0_13 h0_14 h0_15 h0_16 h0_17 h0_18 h0_19 h0_20 h0_21 h0_22 h0_23 h0_24 h0_25 h0_26 a_wd mf mfp mst v_20 1 r_35 v_4 h0_35 h0_36 h0_37 h0_38 h0_39 h0_40 h0_41 h0_42 h0_43 h0_44 h0_45 h0_46 h0_47 h0_48 h0_49 h0_50 h0_51 h0_52 h0_53 h0_54 h0_55 h0_56 h0_57 h0_58 h0_59 h0_60 h0_61 h0_62 h0_63 h0_64 h0_65 h0_66 h0_67 h0_68 h0_69 ca_te fa_te hB_mst hF_21 (by decide) hF_5 hI_a_te (by first | omega | decide)) (cwV 0 hts gw_s_X12_take3_s_X12_digits3_230 rfl rfl rfl (by decide +kernel) ⟨Nat.le_of_ble_eq_true rfl, Nat.le_of_ble_eq_true rfl⟩) ⟨z_blind, va_recv hKc hPc (ci := 12) (q0 := 0) rfl rfl, z_pre hPc hKc hDc⟩ rfl rfl hl.1 rfl (lv_room (Nat.le_of_ble_eq_true rfl)) dX12_take_182 ⟨Nat.le_of_ble_eq_true rfl, Nat.le_of_ble_eq_true rfl⟩) hS (fun q _ h => hFc q h) hFc (fun u t H_105 locs ht hvm hw_107 hB hz1 hk1 hS => ?_)
                      obtain ⟨n_h0_next_108, n_h0_which_109, hp_110, hp_111, hp_112, hp_113, hp_114, hP1, hK1, hD1⟩ := hB
                      rw [ht] at hP1
                      have hK1 := va_K.moved hvm.symm hK1
                      obtain ⟨hP, hD⟩ := z_ap_1 (va_join (wr := [(a_wd, .inl (ca_wd, 115, .inl fa_wd))]) hP hD [0, 1] [2] rfl rfl (by decide) (by decide) hk1 hFc hP1 hD1)
                      have hp_112 : v_20.toInt + 1 ≤ n_h0_next_108.toInt ∧ n_h0_next_108.toInt ≤ mst.toInt := hp_112
                      have hp_113 : f_run f_di fa_te mst.toInt v_20.toInt n_h0_next_108.toInt := hp_113
                      have hp_114 : f_v n_h0_which_109.toInt = f_v (f_nm fa_te v_20.toInt n_h0_next_108.toInt) := hp_114
                      clear hPc hDc hKc
                      refine lv_aload_n hx hb dX12_take_185 rfl (lv_at hl 1 rfl) ?_
                      refine lv_iload_n hx hb dX12_take_186 rfl (lv_at hl 0 rfl) ?_
                      refine lv_iconst (v := 1) hx hb dX12_take_187 (by decide) ?_
                      refine lv_icmp_le (tgt := 195) hx hb dX12_take_188 (by decide) (fun c_115 => ?_) (fun c_115 => ?_)
                      · have k_116 : (z_33).toInt ≤ (1 : Int) := z_le c_115
                        refine lv_aload_n hx hb dX12_take_195 rfl (lv_at hl 1 rfl) ?_
                        refine va_get (D := (dC, dI)) (ci := 12) (v := .ref a_te) (C := RX12) (T := TX12) (N := 70) hx hb hts hiX12 hown hK hP 1 rfl rfl 0 (by decide) w__fieldLink_RX12_7_ShellHeapModel_tape_I_ (fun _ h9 => h9) rfl dX12_take_196 ?_
                        refine lv_aload_n hx hb dX12_take_199 rfl (lv_at hl 1 rfl) ?_
                        refine va_get (D := (dC, dI)) (ci := 12) (v := .int v_4) (C := RX12) (T := TX12) (N := 70) hx hb hts hiX12 hown hK hP 1 rfl rfl 34 (by decide) w__fieldLink_RX12_201_ShellHeapModel_place_I_ (fun _ h9 => h9) rfl dX12_take_200 ?_
                        refine va_iald hx hb hK hP 2 0 rfl rfl (z_vpin (by omega) (by omega)) dX12_take_203 ?_
                        refine lv_topi (fun z_117 ez_117 => ?_)
                        have kz_117 : ((0 : Int) ≤ (z_117).toInt ∧ (z_117).toInt ≤ (255 : Int)) := by rw [ez_117]; exact hI_a_te _
                        have kxz_117 : (z_117).toInt = (fa_te (v_4 : Int32).toNatClampNeg).toInt := by rw [ez_117]
                        have kwz_117 : (z_117).toInt = (fa_te (v_4 : Int32).toInt.toNat).toInt := by rw [ez_117]; rfl
                        refine lv_bipush (v := 107) hx hb dX12_take_204 (by decide) ?_
                        refine lv_icmp_ne (tgt := 214) hx hb dX12_take_206 (by decide) (fun c_118 => ?_) (fun c_118 => ?_)
                        · have k_119 : (z_117).toInt ≠ (107 : Int) := z_ne c_118
                          refine lv_aload_n hx hb dX12_take_214 rfl (lv_at hl 1 rfl) ?_
                          refine va_get (D := (dC, dI)) (ci := 12) (v := .ref a_te) (C := RX12) (T := TX12) (N := 70) hx hb hts hiX12 hown hK hP 1 rfl rfl 0 (by decide) w__fieldLink_RX12_7_ShellHeapModel_tape_I_ (fun _ h9 => h9) rfl dX12_take_215 ?_
                          refine lv_aload_n hx hb dX12_take_218 rfl (lv_at hl 1 rfl) ?_
                          refine va_get (D := (dC, dI)) (ci := 12) (v := .int v_4) (C := RX12) (T := TX12) (N := 70) hx hb hts hiX12 hown hK hP 1 rfl rfl 34 (by decide) w__fieldLink_RX12_201_ShellHeapModel_place_I_ (fun _ h9 => h9) rfl dX12_take_219 ?_
                          refine va_iald hx hb hK hP 2 0 rfl rfl (z_vpin (by omega) (by omega)) dX12_take_222 ?_
                          refine lv_topi (fun z_120 ez_120 => ?_)
                          have kz_120 : ((0 : Int) ≤ (z_120).toInt ∧ (z_120).toInt ≤ (255 : Int)) := by rw [ez_120]; exact hI_a_te _
                          have kxz_120 : (z_120).toInt = (fa_te (v_4 : Int32).toNatClampNeg).toInt := by rw [ez_120]
                          have kwz_120 : (z_120).toInt = (fa_te (v_4 : Int32).toInt.toNat).toInt := by rw [ez_120]; rfl
                          refine lv_bipush (v := 115) hx hb dX12_take_223 (by decide) ?_
                          refine lv_icmp_ne (tgt := 233) hx hb dX12_take_225 (by decide) (fun c_121 => ?_) (fun c_121 => ?_)
                          · have k_122 : (z_120).toInt ≠ (115 : Int) := z_ne c_121
                            refine lv_iconst (v := 5) hx hb dX12_take_233 (by decide) ?_
                            refine va_put (D := (dC, dI)) (ci := 12) (v := .int 5) (ty := .int) (C := RX12) (T := TX12) (N := 70) hx hb hts hiX12 tyX12 tyX12_ok nmX12 hown hK hP hD hS 1 rfl rfl 32 (by decide) w__fieldLink_RX12_221_ShellHeapModel_kindNow_I_ (fun _ h9 => h9) rfl (by decide +kernel) rfl rfl (Nat.le_of_ble_eq_true rfl) dX12_take_234 (fun H_123 locs hP hD hS => ?_)
                            obtain ⟨hP, hD⟩ := z_s_1_32 hP hD
                            refine lv_goto (tgt := 342) hx hb dX12_take_237 (by decide) ?_
                            refine z_backQ hQQ ?_
                            obtain ⟨hP9, hD9⟩ := z_sub2 (ws' := [(h0, .inr (12, [.ref a_te, h0_1, h0_2, h0_3, h0_4, h0_5, h0_6, h0_7, h0_8, h0_9, h0_10, h0_11, h0_12, h0_13, h0_14, h0_15, h0_16, h0_17, h0_18, h0_19, h0_20, h0_21, h0_22, h0_23, h0_24, h0_25, h0_26, .ref a_wd, .int mf, .int mfp, .int mst, .int n_h0_next_108, .int 5, .int n_h0_which_109, .int v_4, h0_35, h0_36, h0_37, h0_38, h0_39, h0_40, h0_41, h0_42, h0_43, h0_44, h0_45, h0_46, h0_47, h0_48, h0_49, h0_50, h0_51, h0_52, h0_53, h0_54, h0_55, h0_56, h0_57, h0_58, h0_59, h0_60, h0_61, h0_62, h0_63, h0_64, h0_65, h0_66, h0_67, h0_68, h0_69])), (a_te, .inl (ca_te, 700, .inl fa_te)), (a_wd, .inl (ca_wd, 115, .inl fa_wd))]) hP hD [1, 2, 0] (by decide) rfl
                            have hK9 := hK.sub (tys' := []) [] rfl
                            refine W.widen (k := 0) (n := 0) (Nat.le_of_ble_eq_true rfl) (Nat.le_of_ble_eq_true rfl) ?_
                            exact W.vret hx hb hr (fun t ht hW => ⟨⟨(), rfl, trivial, ⟨n_h0_next_108, 5, n_h0_which_109, v_4, hp_110, (by decide), hF_5, (show mnx.toInt ≤ n_h0_next_108.toInt ∧ n_h0_next_108.toInt ≤ mst.toInt by omega), (show (5 : Int) ≤ 8 * (n_h0_next_108.toInt - mnx.toInt) by omega), (show v_4.toInt ≤ n_h0_next_108.toInt by omega), (show z_tk8 (5 : Int) n_h0_next_108.toInt v_4.toInt from fun h9 => by omega), (show z_tkw n_h0_which_109.toInt (5 : Int) from fun h9 h8 h7 => by omega), (show f_M fa_te mst.toInt mnx.toInt (5 : Int) n_h0_which_109.toInt n_h0_next_108.toInt from f_M_k hrn (by omega) (show f_le _ from ⟨hsm0.2.1, hsm0.2.2⟩) hlr hp_113 (by omega) hp_114 (by omega) (Or.inr (Or.inr ⟨by omega, rfl⟩))), by rw [ht]; exact hP9, va_K.moved hW.alike hK9, hD9⟩⟩, hS.F ht⟩) hS.2.2 dX12_take_342
                          · have k_124 : (z_120).toInt = (115 : Int) := z_eq c_121
                            obtain rfl : z_120 = 115 := z_eq' (show (z_120).toInt = (115 : Int) by omega)
                            refine lv_bipush (v := 7) hx hb dX12_take_228 (by decide) ?_
                            refine lv_goto (tgt := 234) hx hb dX12_take_230 (by decide) ?_
                            refine va_put (D := (dC, dI)) (ci := 12) (v := .int 7) (ty := .int) (C := RX12) (T := TX12) (N := 70) hx hb hts hiX12 tyX12 tyX12_ok nmX12 hown hK hP hD hS 1 rfl rfl 32 (by decide) w__fieldLink_RX12_221_ShellHeapModel_kindNow_I_ (fun _ h9 => h9) rfl (by decide +kernel) rfl rfl (Nat.le_of_ble_eq_true rfl) dX12_take_234 (fun H_126 locs hP hD hS => ?_)
                            obtain ⟨hP, hD⟩ := z_s_1_32 hP hD
                            refine lv_goto (tgt := 342) hx hb dX12_take_237 (by decide) ?_
                            refine z_backQ hQQ ?_
                            obtain ⟨hP9, hD9⟩ := z_sub2 (ws' := [(h0, .inr (12, [.ref a_te, h0_1, h0_2, h0_3, h0_4, h0_5, h0_6, h0_7, h0_8, h0_9, h0_10, h0_11, h0_12, h0_13, h0_14, h0_15, h0_16, h0_17, h0_18, h0_19, h0_20, h0_21, h0_22, h0_23, h0_24, h0_25, h0_26, .ref a_wd, .int mf, .int mfp, .int mst, .int n_h0_next_108, .int 7, .int n_h0_which_109, .int v_4, h0_35, h0_36, h0_37, h0_38, h0_39, h0_40, h0_41, h0_42, h0_43, h0_44, h0_45, h0_46, h0_47, h0_48, h0_49, h0_50, h0_51, h0_52, h0_53, h0_54, h0_55, h0_56, h0_57, h0_58, h0_59, h0_60, h0_61, h0_62, h0_63, h0_64, h0_65, h0_66, h0_67, h0_68, h0_69])), (a_te, .inl (ca_te, 700, .inl fa_te)), (a_wd, .inl (ca_wd, 115, .inl fa_wd))]) hP hD [1, 2, 0] (by decide) rfl
                            have hK9 := hK.sub (tys' := []) [] rfl
                            refine W.widen (k := 0) (n := 0) (Nat.le_of_ble_eq_true rfl) (Nat.le_of_ble_eq_true rfl) ?_
                            exact W.vret hx hb hr (fun t ht hW => ⟨⟨(), rfl, trivial, ⟨n_h0_next_108, 7, n_h0_which_109, v_4, hp_110, (by decide), hF_5, (show mnx.toInt ≤ n_h0_next_108.toInt ∧ n_h0_next_108.toInt ≤ mst.toInt by omega), (show (7 : Int) ≤ 8 * (n_h0_next_108.toInt - mnx.toInt) by omega), (show v_4.toInt ≤ n_h0_next_108.toInt by omega), (show z_tk8 (7 : Int) n_h0_next_108.toInt v_4.toInt from fun h9 => by omega), (show z_tkw n_h0_which_109.toInt (7 : Int) from fun h9 h8 h7 => by omega), (show f_M fa_te mst.toInt mnx.toInt (7 : Int) n_h0_which_109.toInt n_h0_next_108.toInt from f_M_k hrn (by omega) (show f_le _ from ⟨hsm0.2.1, hsm0.2.2⟩) hlr hp_113 (by omega) hp_114 (by omega) (Or.inr (Or.inl ⟨by omega, by first | omega | exact (congrArg Int32.toInt ez_120).symm.trans (by decide), rfl⟩))), by rw [ht]; exact hP9, va_K.moved hW.alike hK9, hD9⟩⟩, hS.F ht⟩) hS.2.2 dX12_take_342
                        · have k_127 : (z_117).toInt = (107 : Int) := z_eq c_118
                          obtain rfl : z_117 = 107 := z_eq' (show (z_117).toInt = (107 : Int) by omega)
                          refine lv_bipush (v := 6) hx hb dX12_take_209 (by decide) ?_
                          refine lv_goto (tgt := 234) hx hb dX12_take_211 (by decide) ?_
                          refine va_put (D := (dC, dI)) (ci := 12) (v := .int 6) (ty := .int) (C := RX12) (T := TX12) (N := 70) hx hb hts hiX12 tyX12 tyX12_ok nmX12 hown hK hP hD hS 1 rfl rfl 32 (by decide) w__fieldLink_RX12_221_ShellHeapModel_kindNow_I_ (fun _ h9 => h9) rfl (by decide +kernel) rfl rfl (Nat.le_of_ble_eq_true rfl) dX12_take_234 (fun H_129 locs hP hD hS => ?_)
                          obtain ⟨hP, hD⟩ := z_s_1_32 hP hD
                          refine lv_goto (tgt := 342) hx hb dX12_take_237 (by decide) ?_
                          refine z_backQ hQQ ?_
                          obtain ⟨hP9, hD9⟩ := z_sub2 (ws' := [(h0, .inr (12, [.ref a_te, h0_1, h0_2, h0_3, h0_4, h0_5, h0_6, h0_7, h0_8, h0_9, h0_10, h0_11, h0_12, h0_13, h0_14, h0_15, h0_16, h0_17, h0_18, h0_19, h0_20, h0_21, h0_22, h0_23, h0_24, h0_25, h0_26, .ref a_wd, .int mf, .int mfp, .int mst, .int n_h0_next_108, .int 6, .int n_h0_which_109, .int v_4, h0_35, h0_36, h0_37, h0_38, h0_39, h0_40, h0_41, h0_42, h0_43, h0_44, h0_45, h0_46, h0_47, h0_48, h0_49, h0_50, h0_51, h0_52, h0_53, h0_54, h0_55, h0_56, h0_57, h0_58, h0_59, h0_60, h0_61, h0_62, h0_63, h0_64, h0_65, h0_66, h0_67, h0_68, h0_69])), (a_te, .inl (ca_te, 700, .inl fa_te)), (a_wd, .inl (ca_wd, 115, .inl fa_wd))]) hP hD [1, 2, 0] (by decide) rfl
                          have hK9 := hK.sub (tys' := []) [] rfl
                          refine W.widen (k := 0) (n := 0) (Nat.le_of_ble_eq_true rfl) (Nat.le_of_ble_eq_true rfl) ?_
                          exact W.vret hx hb hr (fun t ht hW => ⟨⟨(), rfl, trivial, ⟨n_h0_next_108, 6, n_h0_which_109, v_4, hp_110, (by decide), hF_5, (show mnx.toInt ≤ n_h0_next_108.toInt ∧ n_h0_next_108.toInt ≤ mst.toInt by omega), (show (6 : Int) ≤ 8 * (n_h0_next_108.toInt - mnx.toInt) by omega), (show v_4.toInt ≤ n_h0_next_108.toInt by omega), (show z_tk8 (6 : Int) n_h0_next_108.toInt v_4.toInt from fun h9 => by omega), (show z_tkw n_h0_which_109.toInt (6 : Int) from fun h9 h8 h7 => by omega), (show f_M fa_te mst.toInt mnx.toInt (6 : Int) n_h0_which_109.toInt n_h0_next_108.toInt from f_M_k hrn (by omega) (show f_le _ from ⟨hsm0.2.1, hsm0.2.2⟩) hlr hp_113 (by omega) hp_114 (by omega) (Or.inl ⟨by omega, by first | omega | exact (congrArg Int32.toInt ez_117).symm.trans (by decide), rfl⟩)), by rw [ht]; exact hP9, va_K.moved hW.alike hK9, hD9⟩⟩, hS.F ht⟩) hS.2.2 dX12_take_342
                      · have k_130 : (z_33).toInt > (1 : Int) := z_nle c_115
                        refine lv_iconst (v := 5) hx hb dX12_take_191 (by decide) ?_
                        refine lv_goto (tgt := 234) hx hb dX12_take_192 (by decide) ?_
                        refine va_put (D := (dC, dI)) (ci := 12) (v := .int 5) (ty := .int) (C := RX12) (T := TX12) (N := 70) hx hb hts hiX12 tyX12 tyX12_ok nmX12 hown hK hP hD hS 1 rfl rfl 32 (by decide) w__fieldLink_RX12_221_ShellHeapModel_kindNow_I_ (fun _ h9 => h9) rfl (by decide +kernel) rfl rfl (Nat.le_of_ble_eq_true rfl) dX12_take_234 (fun H_131 locs hP hD hS => ?_)
                        obtain ⟨hP, hD⟩ := z_s_1_32 hP hD
                        refine lv_goto (tgt := 342) hx hb dX12_take_237 (by decide) ?_
                        refine z_backQ hQQ ?_
                        obtain ⟨hP9, hD9⟩ := z_sub2 (ws' := [(h0, .inr (12, [.ref a_te, h0_1, h0_2, h0_3, h0_4, h0_5, h0_6, h0_7, h0_8, h0_9, h0_10, h0_11, h0_12, h0_13, h0_14, h0_15, h0_16, h0_17, h0_18, h0_19, h0_20, h0_21, h0_22, h0_23, h0_24, h0_25, h0_26, .ref a_wd, .int mf, .int mfp, .int mst, .int n_h0_next_108, .int 5, .int n_h0_which_109, .int v_4, h0_35, h0_36, h0_37, h0_38, h0_39, h0_40, h0_41, h0_42, h0_43, h0_44, h0_45, h0_46, h0_47, h0_48, h0_49, h0_50, h0_51, h0_52, h0_53, h0_54, h0_55, h0_56, h0_57, h0_58, h0_59, h0_60, h0_61, h0_62, h0_63, h0_64, h0_65, h0_66, h0_67, h0_68, h0_69])), (a_te, .inl (ca_te, 700, .inl fa_te)), (a_wd, .inl (ca_wd, 115, .inl fa_wd))]) hP hD [1, 2, 0] (by decide) rfl
                        have hK9 := hK.sub (tys' := []) [] rfl
                        refine W.widen (k := 0) (n := 0) (Nat.le_of_ble_eq_true rfl) (Nat.le_of_ble_eq_true rfl) ?_
                        exact W.vret hx hb hr (fun t ht hW => ⟨⟨(), rfl, trivial, ⟨n_h0_next_108, 5, n_h0_which_109, v_4, hp_110, (by decide), hF_5, (show mnx.toInt ≤ n_h0_next_108.toInt ∧ n_h0_next_108.toInt ≤ mst.toInt by omega), (show (5 : Int) ≤ 8 * (n_h0_next_108.toInt - mnx.toInt) by omega), (show v_4.toInt ≤ n_h0_next_108.toInt by omega), (show z_tk8 (5 : Int) n_h0_next_108.toInt v_4.toInt from fun h9 => by omega), (show z_tkw n_h0_which_109.toInt (5 : Int) from fun h9 h8 h7 => by omega), (show f_M fa_te mst.toInt mnx.toInt (5 : Int) n_h0_which_109.toInt n_h0_next_108.toInt from f_M_k hrn (by omega) (show f_le _ from ⟨hsm0.2.1, hsm0.2.2⟩) hlr hp_113 (by omega) hp_114 (by omega) (Or.inr (Or.inr ⟨by omega, rfl⟩))), by rw [ht]; exact hP9, va_K.moved hW.alike hK9, hD9⟩⟩, hS.F ht⟩) hS.2.2 dX12_take_342
                    · have hw_103 : ¬ (v_20.toInt < mst.toInt ∧ 48 ≤ (fa_te v_20.toNatClampNeg).toInt ∧ (fa_te v_20.toNatClampNeg).toInt ≤ 57) := hw_103
                      refine lv_if_eq (tgt := 237) hx hb dX12_take_178 (by decide) (fun _ => ?_) (fun c_132 => absurd (by decide) c_132)
                      refine lv_goto (tgt := 342) hx hb dX12_take_237 (by decide) ?_
                      refine z_backQ hQQ ?_
                      have hP9 := hP
                      have hD9 := hD
                      have hK9 := hK.sub (tys' := []) [] rfl
                      refine W.widen (k := 0) (n := 0) (Nat.le_of_ble_eq_true rfl) (Nat.le_of_ble_eq_true rfl) ?_
                      exact W.vret hx hb hr (fun t ht hW => ⟨⟨(), rfl, trivial, ⟨v_20, 1, r_35, v_4, hF_21, (by decide), hF_5, (show mnx.toInt ≤ v_20.toInt ∧ v_20.toInt ≤ mst.toInt by omega), (show (1 : Int) ≤ 8 * (v_20.toInt - mnx.toInt) by omega), (show v_4.toInt ≤ v_20.toInt by omega), (show z_tk8 (1 : Int) v_20.toInt v_4.toInt from fun h9 => by omega), (show z_tkw r_35.toInt (1 : Int) from fun h9 h8 h7 => by omega), (show f_M fa_te mst.toInt mnx.toInt (1 : Int) r_35.toInt v_20.toInt from f_M_w hrn (by omega) (show f_le _ from ⟨hsm0.2.1, hsm0.2.2⟩) hlr (fun h8 h9 => hw_103 ⟨h8, h9.1, h9.2⟩) hw_36.2 (by omega)), by rw [ht]; exact hP9, va_K.moved hW.alike hK9, hD9⟩⟩, hS.F ht⟩) hS.2.2 dX12_take_342
            exact loop_17 _ v_4 _ _ _ (Nat.lt_succ_self _) (show ((0 : Int) ≤ (v_4).toInt ∧ (v_4).toInt ≤ (700 : Int)) by omega) (show f_pre f_le fa_te (mst).toInt (v_4).toInt (v_4).toInt from f_pre0 (by omega)) (show (mnx).toInt ≤ (v_4).toInt ∧ (v_4).toInt ≤ (mst).toInt by omega) (show (v_4).toInt ≤ (v_4).toInt by omega) (show (mnx).toInt + 1 ≤ (v_4).toInt ∨ ((v_4).toInt < (mst).toInt ∧ 97 ≤ (fa_te (v_4 : Int32).toNatClampNeg).toInt ∧ (fa_te (v_4 : Int32).toNatClampNeg).toInt ≤ 122) by omega) hP hD hS hl
          · have hw_15 : ¬ (v_4.toInt < mst.toInt ∧ 97 ≤ (fa_te v_4.toNatClampNeg).toInt ∧ (fa_te v_4.toNatClampNeg).toInt ≤ 122) := hw_15
            refine lv_if_eq (tgt := 240) hx hb dX12_take_87 (by decide) (fun _ => ?_) (fun c_133 => absurd (by decide) c_133)
            refine lv_aload_n hx hb dX12_take_240 rfl (lv_at hl 0 rfl) ?_
            refine lv_aload_n hx hb dX12_take_241 rfl (lv_at hl 0 rfl) ?_
            refine va_get (D := (dC, dI)) (ci := 12) (v := .int v_4) (C := RX12) (T := TX12) (N := 70) hx hb hts hiX12 hown hK hP 0 rfl rfl 31 (by decide) w__fieldLink_RX12_207_ShellHeapModel_next_I_ (fun _ h9 => h9) rfl dX12_take_242 ?_
            obtain ⟨hPc, hDc⟩ := z_sub2 (ws' := [(h0, .inr (12, [.ref a_te, h0_1, h0_2, h0_3, h0_4, h0_5, h0_6, h0_7, h0_8, h0_9, h0_10, h0_11, h0_12, h0_13, h0_14, h0_15, h0_16, h0_17, h0_18, h0_19, h0_20, h0_21, h0_22, h0_23, h0_24, h0_25, h0_26, .ref a_wd, .int mf, .int mfp, .int mst, .int v_4, .int mkd, .int mwh, .int v_4, h0_35, h0_36, h0_37, h0_38, h0_39, h0_40, h0_41, h0_42, h0_43, h0_44, h0_45, h0_46, h0_47, h0_48, h0_49, h0_50, h0_51, h0_52, h0_53, h0_54, h0_55, h0_56, h0_57, h0_58, h0_59, h0_60, h0_61, h0_62, h0_63, h0_64, h0_65, h0_66, h0_67, h0_68, h0_69])), (a_te, .inl (ca_te, 700, .inl fa_te))]) hP hD [0, 1] (by decide) rfl
            have hKc := hK.sub (tys' := [(ca_te, .int)]) [0] rfl
            have hFc := va_free (ws := []) (wc := []) (z_D0 _) hS hA [] rfl
            refine va_calli (va_runV (As := [.int v_4]) (rest := []) ⟨hx, hb, hml, hown, hts⟩ (s_X12_isDigit l dC dI H_13.size h0 v_4 a_te h0_1 h0_2 h0_3 h0_4 h0_5 h0_6 h0_7 h0_8 h0_9 h0_10 h0_11 h0_12 h0_13 h0_14 h0_15 h0_16 h0_17 h0_18 h0_19 h0_20 h0_21 h0_22 h0_23 h0_24 h0_25 h0_26 a_wd mf mfp mst v_4 mkd mwh v_4 h0_35 h0_36 h0_37 h0_38 h0_39 h0_40 h0_41 h0_42 h0_43 h0_44 h0_45 h0_46 h0_47 h0_48 h0_49 h0_50 h0_51 h0_52 h0_53 h0_54 h0_55 h0_56 h0_57 h0_58 h0_59 h0_60 h0_61 h0_62 h0_63 h0_64 h0_65 h0_66 h0_67 h0_68 h0_69 ca_te fa_te hB_mst hF_5 hB_mkd hF_5 hF_5 hI_a_te) (cwV 1 hts gw_s_X12_take3_s_X12_isDigit_217 rfl rfl rfl (by decide +kernel) ⟨Nat.le_of_ble_eq_true rfl, Nat.le_of_ble_eq_true rfl⟩) ⟨z_blind, va_recv hKc hPc (ci := 12) (q0 := 0) rfl rfl, z_pre hPc hKc hDc⟩ rfl rfl hl.1 rfl (lv_room (Nat.le_of_ble_eq_true rfl)) dX12_take_245 ⟨Nat.le_of_ble_eq_true rfl, Nat.le_of_ble_eq_true rfl⟩) hS (fun q _ h => hFc q h) hFc (fun r_135 u t H_134 locs ht hvm hw_136 hB hz1 hk1 hS => ?_)
            replace hP := z_pure hP hk1
            clear hPc hDc hKc
            rcases hw_136 with ⟨rfl, hw_136⟩ | ⟨rfl, hw_136⟩
            · have hw_136 : (v_4.toInt < mst.toInt ∧ 48 ≤ (fa_te v_4.toNatClampNeg).toInt ∧ (fa_te v_4.toNatClampNeg).toInt ≤ 57) := hw_136
              refine lv_if_eq (tgt := 263) hx hb dX12_take_248 (by decide) (fun c_137 => absurd c_137 (by decide)) (fun _ => ?_)
              refine lv_aload_n hx hb dX12_take_251 rfl (lv_at hl 0 rfl) ?_
              refine lv_iconst (v := 3) hx hb dX12_take_252 (by decide) ?_
              refine va_put (D := (dC, dI)) (ci := 12) (v := .int 3) (ty := .int) (C := RX12) (T := TX12) (N := 70) hx hb hts hiX12 tyX12 tyX12_ok nmX12 hown hK hP hD hS 0 rfl rfl 32 (by decide) w__fieldLink_RX12_221_ShellHeapModel_kindNow_I_ (fun _ h9 => h9) rfl (by decide +kernel) rfl rfl (Nat.le_of_ble_eq_true rfl) dX12_take_253 (fun H_138 locs hP hD hS => ?_)
              obtain ⟨hP, hD⟩ := z_s_0_32 hP hD
              refine lv_aload_n hx hb dX12_take_256 rfl (lv_at hl 0 rfl) ?_
              obtain ⟨hPc, hDc, hFc⟩ := z_sub3 (ws' := [(h0, .inr (12, [.ref a_te, h0_1, h0_2, h0_3, h0_4, h0_5, h0_6, h0_7, h0_8, h0_9, h0_10, h0_11, h0_12, h0_13, h0_14, h0_15, h0_16, h0_17, h0_18, h0_19, h0_20, h0_21, h0_22, h0_23, h0_24, h0_25, h0_26, .ref a_wd, .int mf, .int mfp, .int mst, .int v_4, .int 3, .int mwh, .int v_4, h0_35, h0_36, h0_37, h0_38, h0_39, h0_40, h0_41, h0_42, h0_43, h0_44, h0_45, h0_46, h0_47, h0_48, h0_49, h0_50, h0_51, h0_52, h0_53, h0_54, h0_55, h0_56, h0_57, h0_58, h0_59, h0_60, h0_61, h0_62, h0_63, h0_64, h0_65, h0_66, h0_67, h0_68, h0_69])), (a_te, .inl (ca_te, 700, .inl fa_te))]) hP hD hS hA [0, 1] (by decide) rfl
              have hKc := hK.sub (tys' := [(ca_te, .int)]) [0] rfl
              refine va_callv (va_runV (As := []) (rest := []) ⟨hx, hb, hml, hown, hts⟩ (s_X12_digits3 l dC dI H_138.size h0 a_te h0_1 h0_2 h0_3 h0_4 h0_5 h0_6 h0_7 h0_8 h0_9 h0_10 h0_11 h0_12 h0_13 h0_14 h0_15 h0_16 h0_17 h0_18 h0_19 h0_20 h0_21 h0_22 h0_23 h0_24 h0_25 h0_26 a_wd mf mfp mst v_4 3 mwh v_4 h0_35 h0_36 h0_37 h0_38 h0_39 h0_40 h0_41 h0_42 h0_43 h0_44 h0_45 h0_46 h0_47 h0_48 h0_49 h0_50 h0_51 h0_52 h0_53 h0_54 h0_55 h0_56 h0_57 h0_58 h0_59 h0_60 h0_61 h0_62 h0_63 h0_64 h0_65 h0_66 h0_67 h0_68 h0_69 ca_te fa_te hB_mst hF_5 (by decide) hF_5 hI_a_te (by first | omega | decide)) (cwV 0 hts gw_s_X12_take3_s_X12_digits3_230 rfl rfl rfl (by decide +kernel) ⟨Nat.le_of_ble_eq_true rfl, Nat.le_of_ble_eq_true rfl⟩) ⟨z_blind, va_recv hKc hPc (ci := 12) (q0 := 0) rfl rfl, z_pre hPc hKc hDc⟩ rfl rfl hl.1 rfl (lv_room (Nat.le_of_ble_eq_true rfl)) dX12_take_257 ⟨Nat.le_of_ble_eq_true rfl, Nat.le_of_ble_eq_true rfl⟩) hS (fun q _ h => hFc q h) hFc (fun u t H_139 locs ht hvm hw_141 hB hz1 hk1 hS => ?_)
              obtain ⟨n_h0_next_142, n_h0_which_143, hp_144, hp_145, hp_146, hp_147, hp_148, hP1, hK1, hD1⟩ := hB
              rw [ht] at hP1
              have hK1 := va_K.moved hvm.symm hK1
              obtain ⟨hP, hD⟩ := z_ap_1 (va_join (wr := [(a_wd, .inl (ca_wd, 115, .inl fa_wd))]) hP hD [0, 1] [2] rfl rfl (by decide) (by decide) hk1 hFc hP1 hD1)
              have hp_146 : v_4.toInt + 1 ≤ n_h0_next_142.toInt ∧ n_h0_next_142.toInt ≤ mst.toInt := hp_146
              have hp_147 : f_run f_di fa_te mst.toInt v_4.toInt n_h0_next_142.toInt := hp_147
              have hp_148 : f_v n_h0_which_143.toInt = f_v (f_nm fa_te v_4.toInt n_h0_next_142.toInt) := hp_148
              clear hPc hDc hKc
              refine lv_goto (tgt := 342) hx hb dX12_take_260 (by decide) ?_
              refine z_backQ hQQ ?_
              obtain ⟨hP9, hD9⟩ := z_sub2 (ws' := [(h0, .inr (12, [.ref a_te, h0_1, h0_2, h0_3, h0_4, h0_5, h0_6, h0_7, h0_8, h0_9, h0_10, h0_11, h0_12, h0_13, h0_14, h0_15, h0_16, h0_17, h0_18, h0_19, h0_20, h0_21, h0_22, h0_23, h0_24, h0_25, h0_26, .ref a_wd, .int mf, .int mfp, .int mst, .int n_h0_next_142, .int 3, .int n_h0_which_143, .int v_4, h0_35, h0_36, h0_37, h0_38, h0_39, h0_40, h0_41, h0_42, h0_43, h0_44, h0_45, h0_46, h0_47, h0_48, h0_49, h0_50, h0_51, h0_52, h0_53, h0_54, h0_55, h0_56, h0_57, h0_58, h0_59, h0_60, h0_61, h0_62, h0_63, h0_64, h0_65, h0_66, h0_67, h0_68, h0_69])), (a_te, .inl (ca_te, 700, .inl fa_te)), (a_wd, .inl (ca_wd, 115, .inl fa_wd))]) hP hD [1, 2, 0] (by decide) rfl
              have hK9 := hK.sub (tys' := []) [] rfl
              refine W.widen (k := 0) (n := 0) (Nat.le_of_ble_eq_true rfl) (Nat.le_of_ble_eq_true rfl) ?_
              exact W.vret hx hb hr (fun t ht hW => ⟨⟨(), rfl, trivial, ⟨n_h0_next_142, 3, n_h0_which_143, v_4, hp_144, (by decide), hF_5, (show mnx.toInt ≤ n_h0_next_142.toInt ∧ n_h0_next_142.toInt ≤ mst.toInt by omega), (show (3 : Int) ≤ 8 * (n_h0_next_142.toInt - mnx.toInt) by omega), (show v_4.toInt ≤ n_h0_next_142.toInt by omega), (show z_tk8 (3 : Int) n_h0_next_142.toInt v_4.toInt from fun h9 => by omega), (show z_tkw n_h0_which_143.toInt (3 : Int) from fun h9 h8 h7 => by omega), (show f_M fa_te mst.toInt mnx.toInt (3 : Int) n_h0_which_143.toInt n_h0_next_142.toInt from f_M_n hrn (by omega) (show f_di _ from ⟨hw_136.2.1, hw_136.2.2⟩) hp_147 hp_148 (by omega)), by rw [ht]; exact hP9, va_K.moved hW.alike hK9, hD9⟩⟩, hS.F ht⟩) hS.2.2 dX12_take_342
            · have hw_136 : ¬ (v_4.toInt < mst.toInt ∧ 48 ≤ (fa_te v_4.toNatClampNeg).toInt ∧ (fa_te v_4.toNatClampNeg).toInt ≤ 57) := hw_136
              refine lv_if_eq (tgt := 263) hx hb dX12_take_248 (by decide) (fun _ => ?_) (fun c_149 => absurd (by decide) c_149)
              refine lv_aload_n hx hb dX12_take_263 rfl (lv_at hl 0 rfl) ?_
              refine va_get (D := (dC, dI)) (ci := 12) (v := .ref a_te) (C := RX12) (T := TX12) (N := 70) hx hb hts hiX12 hown hK hP 0 rfl rfl 0 (by decide) w__fieldLink_RX12_7_ShellHeapModel_tape_I_ (fun _ h9 => h9) rfl dX12_take_264 ?_
              refine lv_aload_n hx hb dX12_take_267 rfl (lv_at hl 0 rfl) ?_
              refine va_get (D := (dC, dI)) (ci := 12) (v := .int v_4) (C := RX12) (T := TX12) (N := 70) hx hb hts hiX12 hown hK hP 0 rfl rfl 31 (by decide) w__fieldLink_RX12_207_ShellHeapModel_next_I_ (fun _ h9 => h9) rfl dX12_take_268 ?_
              refine va_iald hx hb hK hP 1 0 rfl rfl (z_vpin (by omega) (by omega)) dX12_take_271 ?_
              refine lv_topi (fun z_150 ez_150 => ?_)
              have kz_150 : ((0 : Int) ≤ (z_150).toInt ∧ (z_150).toInt ≤ (255 : Int)) := by rw [ez_150]; exact hI_a_te _
              have kxz_150 : (z_150).toInt = (fa_te (v_4 : Int32).toNatClampNeg).toInt := by rw [ez_150]
              have kwz_150 : (z_150).toInt = (fa_te (v_4 : Int32).toInt.toNat).toInt := by rw [ez_150]; rfl
              refine lv_istore_n (lv' := [(2, .int z_150), (0, .ref h0), (1, .int 1)]) hx hb dX12_take_272 rfl hl (by decide) rfl (fun ls hl => ?_)
              refine lv_aload_n hx hb dX12_take_273 rfl (lv_at hl 1 rfl) ?_
              refine lv_dup hx hb dX12_take_274 rfl ?_
              refine va_get (D := (dC, dI)) (ci := 12) (v := .int v_4) (C := RX12) (T := TX12) (N := 70) hx hb hts hiX12 hown hK hP 0 rfl rfl 31 (by decide) w__fieldLink_RX12_207_ShellHeapModel_next_I_ (fun _ h9 => h9) rfl dX12_take_275 ?_
              refine lv_iconst (v := 1) hx hb dX12_take_278 (by decide) ?_
              refine lv_iadd hx hb dX12_take_279 ?_
              refine lv_topi (fun z_151 ez_151 => ?_)
              have kz_151 : (z_151).toInt = (v_4).toInt + (1 : Int) := by rw [ez_151]; exact z_add (a := (v_4).toInt) (b := (1 : Int)) rfl rfl (z_al hF_5.1 (by decide)) (z_ah hF_5.2 (by decide))
              refine va_put (D := (dC, dI)) (ci := 12) (v := .int z_151) (ty := .int) (C := RX12) (T := TX12) (N := 70) hx hb hts hiX12 tyX12 tyX12_ok nmX12 hown hK hP hD hS 0 rfl rfl 31 (by decide) w__fieldLink_RX12_207_ShellHeapModel_next_I_ (fun _ h9 => h9) rfl (by decide +kernel) rfl rfl (Nat.le_of_ble_eq_true rfl) dX12_take_280 (fun H_152 locs hP hD hS => ?_)
              obtain ⟨hP, hD⟩ := z_s_0_31 hP hD
              refine lv_aload_n hx hb dX12_take_283 rfl (lv_at hl 1 rfl) ?_
              refine lv_aload_n hx hb dX12_take_284 rfl (lv_at hl 1 rfl) ?_
              refine lv_iload_n hx hb dX12_take_285 rfl (lv_at hl 0 rfl) ?_
              obtain ⟨hPc, hDc⟩ := z_sub2 (ws' := [(h0, .inr (12, [.ref a_te, h0_1, h0_2, h0_3, h0_4, h0_5, h0_6, h0_7, h0_8, h0_9, h0_10, h0_11, h0_12, h0_13, h0_14, h0_15, h0_16, h0_17, h0_18, h0_19, h0_20, h0_21, h0_22, h0_23, h0_24, h0_25, h0_26, .ref a_wd, .int mf, .int mfp, .int mst, .int z_151, .int mkd, .int mwh, .int v_4, h0_35, h0_36, h0_37, h0_38, h0_39, h0_40, h0_41, h0_42, h0_43, h0_44, h0_45, h0_46, h0_47, h0_48, h0_49, h0_50, h0_51, h0_52, h0_53, h0_54, h0_55, h0_56, h0_57, h0_58, h0_59, h0_60, h0_61, h0_62, h0_63, h0_64, h0_65, h0_66, h0_67, h0_68, h0_69])), (a_te, .inl (ca_te, 700, .inl fa_te))]) hP hD [0, 1] (by decide) rfl
              have hKc := hK.sub (tys' := [(ca_te, .int)]) [0] rfl
              have hFc := va_free (ws := []) (wc := []) (z_D0 _) hS hA [] rfl
              refine va_calli (va_runV (As := [.int z_150]) (rest := [.ref h0]) ⟨hx, hb, hml, hown, hts⟩ (s_X12_signOf3 l dC dI H_152.size h0 z_150 a_te h0_1 h0_2 h0_3 h0_4 h0_5 h0_6 h0_7 h0_8 h0_9 h0_10 h0_11 h0_12 h0_13 h0_14 h0_15 h0_16 h0_17 h0_18 h0_19 h0_20 h0_21 h0_22 h0_23 h0_24 h0_25 h0_26 a_wd mf mfp mst z_151 mkd mwh v_4 h0_35 h0_36 h0_37 h0_38 h0_39 h0_40 h0_41 h0_42 h0_43 h0_44 h0_45 h0_46 h0_47 h0_48 h0_49 h0_50 h0_51 h0_52 h0_53 h0_54 h0_55 h0_56 h0_57 h0_58 h0_59 h0_60 h0_61 h0_62 h0_63 h0_64 h0_65 h0_66 h0_67 h0_68 h0_69 ca_te fa_te hB_mst (by first | omega | decide) hB_mkd hF_5 kz_150 hI_a_te) (cwV 1 hts gw_s_X12_take3_s_X12_signOf3_233 rfl rfl rfl (by decide +kernel) ⟨Nat.le_of_ble_eq_true rfl, Nat.le_of_ble_eq_true rfl⟩) ⟨z_blind, va_recv hKc hPc (ci := 12) (q0 := 0) rfl rfl, z_pre hPc hKc hDc⟩ rfl rfl hl.1 rfl (lv_room (Nat.le_of_ble_eq_true rfl)) dX12_take_286 ⟨Nat.le_of_ble_eq_true rfl, Nat.le_of_ble_eq_true rfl⟩) hS (fun q _ h => hFc q h) hFc (fun r_154 u t H_153 locs ht hvm hw_155 hB hz1 hk1 hS => ?_)
              replace hP := z_pure hP hk1
              clear hPc hDc hKc
              refine va_put (D := (dC, dI)) (ci := 12) (v := .int r_154) (ty := .int) (C := RX12) (T := TX12) (N := 70) hx hb hts hiX12 tyX12 tyX12_ok nmX12 hown hK hP hD hS 0 rfl rfl 33 (by decide) w__fieldLink_RX12_214_ShellHeapModel_which_I_ (fun _ h9 => h9) rfl (by decide +kernel) rfl rfl (Nat.le_of_ble_eq_true rfl) dX12_take_289 (fun H_156 locs hP hD hS => ?_)
              obtain ⟨hP, hD⟩ := z_s_0_33 hP hD
              refine lv_aload_n hx hb dX12_take_292 rfl (lv_at hl 1 rfl) ?_
              refine lv_aload_n hx hb dX12_take_293 rfl (lv_at hl 1 rfl) ?_
              refine va_get (D := (dC, dI)) (ci := 12) (v := .int r_154) (C := RX12) (T := TX12) (N := 70) hx hb hts hiX12 hown hK hP 0 rfl rfl 33 (by decide) w__fieldLink_RX12_214_ShellHeapModel_which_I_ (fun _ h9 => h9) rfl dX12_take_294 ?_
              refine lv_if_ge (tgt := 304) hx hb dX12_take_297 (by decide) (fun c_157 => ?_) (fun c_157 => ?_)
              · have k_158 : (0 : Int) ≤ (r_154).toInt := z_le c_157
                refine lv_iconst (v := 4) hx hb dX12_take_304 (by decide) ?_
                refine va_put (D := (dC, dI)) (ci := 12) (v := .int 4) (ty := .int) (C := RX12) (T := TX12) (N := 70) hx hb hts hiX12 tyX12 tyX12_ok nmX12 hown hK hP hD hS 0 rfl rfl 32 (by decide) w__fieldLink_RX12_221_ShellHeapModel_kindNow_I_ (fun _ h9 => h9) rfl (by decide +kernel) rfl rfl (Nat.le_of_ble_eq_true rfl) dX12_take_305 (fun H_159 locs hP hD hS => ?_)
                obtain ⟨hP, hD⟩ := z_s_0_32 hP hD
                refine lv_aload_n hx hb dX12_take_308 rfl (lv_at hl 1 rfl) ?_
                refine va_get (D := (dC, dI)) (ci := 12) (v := .int r_154) (C := RX12) (T := TX12) (N := 70) hx hb hts hiX12 hown hK hP 0 rfl rfl 33 (by decide) w__fieldLink_RX12_214_ShellHeapModel_which_I_ (fun _ h9 => h9) rfl dX12_take_309 ?_
                refine lv_iconst (v := 2) hx hb dX12_take_312 (by decide) ?_
                refine lv_icmp_eq (tgt := 332) hx hb dX12_take_313 (by decide) (fun c_160 => ?_) (fun c_160 => ?_)
                · have k_161 : (r_154).toInt = (2 : Int) := z_eq c_160
                  obtain rfl : r_154 = 2 := z_eq' (show (r_154).toInt = (2 : Int) by omega)
                  refine lv_aload_n hx hb dX12_take_332 rfl (lv_at hl 1 rfl) ?_
                  refine lv_dup hx hb dX12_take_333 rfl ?_
                  refine va_get (D := (dC, dI)) (ci := 12) (v := .int z_151) (C := RX12) (T := TX12) (N := 70) hx hb hts hiX12 hown hK hP 0 rfl rfl 31 (by decide) w__fieldLink_RX12_207_ShellHeapModel_next_I_ (fun _ h9 => h9) rfl dX12_take_334 ?_
                  refine lv_iconst (v := 1) hx hb dX12_take_337 (by decide) ?_
                  refine lv_iadd hx hb dX12_take_338 ?_
                  refine lv_topi (fun z_163 ez_163 => ?_)
                  have kz_163 : (z_163).toInt = (z_151).toInt + (1 : Int) := by rw [ez_163]; exact z_add (a := (z_151).toInt) (b := (1 : Int)) rfl rfl (by omega) (by omega)
                  refine va_put (D := (dC, dI)) (ci := 12) (v := .int z_163) (ty := .int) (C := RX12) (T := TX12) (N := 70) hx hb hts hiX12 tyX12 tyX12_ok nmX12 hown hK hP hD hS 0 rfl rfl 31 (by decide) w__fieldLink_RX12_207_ShellHeapModel_next_I_ (fun _ h9 => h9) rfl (by decide +kernel) rfl rfl (Nat.le_of_ble_eq_true rfl) dX12_take_339 (fun H_164 locs hP hD hS => ?_)
                  obtain ⟨hP, hD⟩ := z_s_0_31 hP hD
                  refine z_backQ hQQ ?_
                  have hP9 := hP
                  have hD9 := hD
                  have hK9 := hK.sub (tys' := []) [] rfl
                  refine W.widen (k := 0) (n := 0) (Nat.le_of_ble_eq_true rfl) (Nat.le_of_ble_eq_true rfl) ?_
                  exact W.vret hx hb hr (fun t ht hW => ⟨⟨(), rfl, trivial, ⟨z_163, 4, 2, v_4, (by first | omega | decide), (by decide), hF_5, (show mnx.toInt ≤ z_163.toInt ∧ z_163.toInt ≤ mst.toInt by omega), (show (4 : Int) ≤ 8 * (z_163.toInt - mnx.toInt) by omega), (show v_4.toInt ≤ z_163.toInt by omega), (show z_tk8 (4 : Int) z_163.toInt v_4.toInt from fun h9 => by omega), (show z_tkw (2 : Int) (4 : Int) from fun h9 h8 h7 => by omega), (show f_M fa_te mst.toInt mnx.toInt (4 : Int) (2 : Int) z_163.toInt from f_M_s hrn (by omega) (fun h9 => hw_15 ⟨by omega, h9.1, h9.2⟩) (fun h9 => hw_136 ⟨by omega, h9.1, h9.2⟩) (c := (z_150).toInt) (congrArg Int32.toInt ez_150).symm hw_155.2.2 (by omega) (by omega)), by rw [ht]; exact hP9, va_K.moved hW.alike hK9, hD9⟩⟩, hS.F ht⟩) hS.2.2 dX12_take_342
                · have k_165 : (r_154).toInt ≠ (2 : Int) := z_ne c_160
                  refine lv_aload_n hx hb dX12_take_316 rfl (lv_at hl 1 rfl) ?_
                  refine va_get (D := (dC, dI)) (ci := 12) (v := .int r_154) (C := RX12) (T := TX12) (N := 70) hx hb hts hiX12 hown hK hP 0 rfl rfl 33 (by decide) w__fieldLink_RX12_214_ShellHeapModel_which_I_ (fun _ h9 => h9) rfl dX12_take_317 ?_
                  refine lv_iconst (v := 4) hx hb dX12_take_320 (by decide) ?_
                  refine lv_icmp_eq (tgt := 332) hx hb dX12_take_321 (by decide) (fun c_166 => ?_) (fun c_166 => ?_)
                  · have k_167 : (r_154).toInt = (4 : Int) := z_eq c_166
                    obtain rfl : r_154 = 4 := z_eq' (show (r_154).toInt = (4 : Int) by omega)
                    refine lv_aload_n hx hb dX12_take_332 rfl (lv_at hl 1 rfl) ?_
                    refine lv_dup hx hb dX12_take_333 rfl ?_
                    refine va_get (D := (dC, dI)) (ci := 12) (v := .int z_151) (C := RX12) (T := TX12) (N := 70) hx hb hts hiX12 hown hK hP 0 rfl rfl 31 (by decide) w__fieldLink_RX12_207_ShellHeapModel_next_I_ (fun _ h9 => h9) rfl dX12_take_334 ?_
                    refine lv_iconst (v := 1) hx hb dX12_take_337 (by decide) ?_
                    refine lv_iadd hx hb dX12_take_338 ?_
                    refine lv_topi (fun z_169 ez_169 => ?_)
                    have kz_169 : (z_169).toInt = (z_151).toInt + (1 : Int) := by rw [ez_169]; exact z_add (a := (z_151).toInt) (b := (1 : Int)) rfl rfl (by omega) (by omega)
                    refine va_put (D := (dC, dI)) (ci := 12) (v := .int z_169) (ty := .int) (C := RX12) (T := TX12) (N := 70) hx hb hts hiX12 tyX12 tyX12_ok nmX12 hown hK hP hD hS 0 rfl rfl 31 (by decide) w__fieldLink_RX12_207_ShellHeapModel_next_I_ (fun _ h9 => h9) rfl (by decide +kernel) rfl rfl (Nat.le_of_ble_eq_true rfl) dX12_take_339 (fun H_170 locs hP hD hS => ?_)
                    obtain ⟨hP, hD⟩ := z_s_0_31 hP hD
                    refine z_backQ hQQ ?_
                    have hP9 := hP
                    have hD9 := hD
                    have hK9 := hK.sub (tys' := []) [] rfl
                    refine W.widen (k := 0) (n := 0) (Nat.le_of_ble_eq_true rfl) (Nat.le_of_ble_eq_true rfl) ?_
                    exact W.vret hx hb hr (fun t ht hW => ⟨⟨(), rfl, trivial, ⟨z_169, 4, 4, v_4, (by first | omega | decide), (by decide), hF_5, (show mnx.toInt ≤ z_169.toInt ∧ z_169.toInt ≤ mst.toInt by omega), (show (4 : Int) ≤ 8 * (z_169.toInt - mnx.toInt) by omega), (show v_4.toInt ≤ z_169.toInt by omega), (show z_tk8 (4 : Int) z_169.toInt v_4.toInt from fun h9 => by omega), (show z_tkw (4 : Int) (4 : Int) from fun h9 h8 h7 => by omega), (show f_M fa_te mst.toInt mnx.toInt (4 : Int) (4 : Int) z_169.toInt from f_M_s hrn (by omega) (fun h9 => hw_15 ⟨by omega, h9.1, h9.2⟩) (fun h9 => hw_136 ⟨by omega, h9.1, h9.2⟩) (c := (z_150).toInt) (congrArg Int32.toInt ez_150).symm hw_155.2.2 (by omega) (by omega)), by rw [ht]; exact hP9, va_K.moved hW.alike hK9, hD9⟩⟩, hS.F ht⟩) hS.2.2 dX12_take_342
                  · have k_171 : (r_154).toInt ≠ (4 : Int) := z_ne c_166
                    refine lv_aload_n hx hb dX12_take_324 rfl (lv_at hl 1 rfl) ?_
                    refine va_get (D := (dC, dI)) (ci := 12) (v := .int r_154) (C := RX12) (T := TX12) (N := 70) hx hb hts hiX12 hown hK hP 0 rfl rfl 33 (by decide) w__fieldLink_RX12_214_ShellHeapModel_which_I_ (fun _ h9 => h9) rfl dX12_take_325 ?_
                    refine lv_iconst (v := 5) hx hb dX12_take_328 (by decide) ?_
                    refine lv_icmp_ne (tgt := 342) hx hb dX12_take_329 (by decide) (fun c_172 => ?_) (fun c_172 => ?_)
                    · have k_173 : (r_154).toInt ≠ (5 : Int) := z_ne c_172
                      refine z_backQ hQQ ?_
                      have hP9 := hP
                      have hD9 := hD
                      have hK9 := hK.sub (tys' := []) [] rfl
                      refine W.widen (k := 0) (n := 0) (Nat.le_of_ble_eq_true rfl) (Nat.le_of_ble_eq_true rfl) ?_
                      exact W.vret hx hb hr (fun t ht hW => ⟨⟨(), rfl, trivial, ⟨z_151, 4, r_154, v_4, (by first | omega | decide), (by decide), hF_5, (show mnx.toInt ≤ z_151.toInt ∧ z_151.toInt ≤ mst.toInt by omega), (show (4 : Int) ≤ 8 * (z_151.toInt - mnx.toInt) by omega), (show v_4.toInt ≤ z_151.toInt by omega), (show z_tk8 (4 : Int) z_151.toInt v_4.toInt from fun h9 => by omega), (show z_tkw r_154.toInt (4 : Int) from fun h9 h8 h7 => by omega), (show f_M fa_te mst.toInt mnx.toInt (4 : Int) r_154.toInt z_151.toInt from f_M_s hrn (by omega) (fun h9 => hw_15 ⟨by omega, h9.1, h9.2⟩) (fun h9 => hw_136 ⟨by omega, h9.1, h9.2⟩) (c := (z_150).toInt) (congrArg Int32.toInt ez_150).symm hw_155.2.2 (by omega) (by omega)), by rw [ht]; exact hP9, va_K.moved hW.alike hK9, hD9⟩⟩, hS.F ht⟩) hS.2.2 dX12_take_342
                    · have k_174 : (r_154).toInt = (5 : Int) := z_eq c_172
                      obtain rfl : r_154 = 5 := z_eq' (show (r_154).toInt = (5 : Int) by omega)
                      refine lv_aload_n hx hb dX12_take_332 rfl (lv_at hl 1 rfl) ?_
                      refine lv_dup hx hb dX12_take_333 rfl ?_
                      refine va_get (D := (dC, dI)) (ci := 12) (v := .int z_151) (C := RX12) (T := TX12) (N := 70) hx hb hts hiX12 hown hK hP 0 rfl rfl 31 (by decide) w__fieldLink_RX12_207_ShellHeapModel_next_I_ (fun _ h9 => h9) rfl dX12_take_334 ?_
                      refine lv_iconst (v := 1) hx hb dX12_take_337 (by decide) ?_
                      refine lv_iadd hx hb dX12_take_338 ?_
                      refine lv_topi (fun z_176 ez_176 => ?_)
                      have kz_176 : (z_176).toInt = (z_151).toInt + (1 : Int) := by rw [ez_176]; exact z_add (a := (z_151).toInt) (b := (1 : Int)) rfl rfl (by omega) (by omega)
                      refine va_put (D := (dC, dI)) (ci := 12) (v := .int z_176) (ty := .int) (C := RX12) (T := TX12) (N := 70) hx hb hts hiX12 tyX12 tyX12_ok nmX12 hown hK hP hD hS 0 rfl rfl 31 (by decide) w__fieldLink_RX12_207_ShellHeapModel_next_I_ (fun _ h9 => h9) rfl (by decide +kernel) rfl rfl (Nat.le_of_ble_eq_true rfl) dX12_take_339 (fun H_177 locs hP hD hS => ?_)
                      obtain ⟨hP, hD⟩ := z_s_0_31 hP hD
                      refine z_backQ hQQ ?_
                      have hP9 := hP
                      have hD9 := hD
                      have hK9 := hK.sub (tys' := []) [] rfl
                      refine W.widen (k := 0) (n := 0) (Nat.le_of_ble_eq_true rfl) (Nat.le_of_ble_eq_true rfl) ?_
                      exact W.vret hx hb hr (fun t ht hW => ⟨⟨(), rfl, trivial, ⟨z_176, 4, 5, v_4, (by first | omega | decide), (by decide), hF_5, (show mnx.toInt ≤ z_176.toInt ∧ z_176.toInt ≤ mst.toInt by omega), (show (4 : Int) ≤ 8 * (z_176.toInt - mnx.toInt) by omega), (show v_4.toInt ≤ z_176.toInt by omega), (show z_tk8 (4 : Int) z_176.toInt v_4.toInt from fun h9 => by omega), (show z_tkw (5 : Int) (4 : Int) from fun h9 h8 h7 => by omega), (show f_M fa_te mst.toInt mnx.toInt (4 : Int) (5 : Int) z_176.toInt from f_M_s hrn (by omega) (fun h9 => hw_15 ⟨by omega, h9.1, h9.2⟩) (fun h9 => hw_136 ⟨by omega, h9.1, h9.2⟩) (c := (z_150).toInt) (congrArg Int32.toInt ez_150).symm hw_155.2.2 (by omega) (by omega)), by rw [ht]; exact hP9, va_K.moved hW.alike hK9, hD9⟩⟩, hS.F ht⟩) hS.2.2 dX12_take_342
              · have k_178 : (0 : Int) > (r_154).toInt := z_nle c_157
                obtain rfl : r_154 = (-1) := z_eq' (show (r_154).toInt = (-1 : Int) by omega)
                refine lv_iconst (v := 5) hx hb dX12_take_300 (by decide) ?_
                refine lv_goto (tgt := 305) hx hb dX12_take_301 (by decide) ?_
                refine va_put (D := (dC, dI)) (ci := 12) (v := .int 5) (ty := .int) (C := RX12) (T := TX12) (N := 70) hx hb hts hiX12 tyX12 tyX12_ok nmX12 hown hK hP hD hS 0 rfl rfl 32 (by decide) w__fieldLink_RX12_221_ShellHeapModel_kindNow_I_ (fun _ h9 => h9) rfl (by decide +kernel) rfl rfl (Nat.le_of_ble_eq_true rfl) dX12_take_305 (fun H_180 locs hP hD hS => ?_)
                obtain ⟨hP, hD⟩ := z_s_0_32 hP hD
                refine lv_aload_n hx hb dX12_take_308 rfl (lv_at hl 1 rfl) ?_
                refine va_get (D := (dC, dI)) (ci := 12) (v := .int (-1)) (C := RX12) (T := TX12) (N := 70) hx hb hts hiX12 hown hK hP 0 rfl rfl 33 (by decide) w__fieldLink_RX12_214_ShellHeapModel_which_I_ (fun _ h9 => h9) rfl dX12_take_309 ?_
                refine lv_iconst (v := 2) hx hb dX12_take_312 (by decide) ?_
                refine lv_icmp_eq (tgt := 332) hx hb dX12_take_313 (by decide) (fun c_181 => absurd c_181 (by decide)) (fun _ => ?_)
                refine lv_aload_n hx hb dX12_take_316 rfl (lv_at hl 1 rfl) ?_
                refine va_get (D := (dC, dI)) (ci := 12) (v := .int (-1)) (C := RX12) (T := TX12) (N := 70) hx hb hts hiX12 hown hK hP 0 rfl rfl 33 (by decide) w__fieldLink_RX12_214_ShellHeapModel_which_I_ (fun _ h9 => h9) rfl dX12_take_317 ?_
                refine lv_iconst (v := 4) hx hb dX12_take_320 (by decide) ?_
                refine lv_icmp_eq (tgt := 332) hx hb dX12_take_321 (by decide) (fun c_182 => absurd c_182 (by decide)) (fun _ => ?_)
                refine lv_aload_n hx hb dX12_take_324 rfl (lv_at hl 1 rfl) ?_
                refine va_get (D := (dC, dI)) (ci := 12) (v := .int (-1)) (C := RX12) (T := TX12) (N := 70) hx hb hts hiX12 hown hK hP 0 rfl rfl 33 (by decide) w__fieldLink_RX12_214_ShellHeapModel_which_I_ (fun _ h9 => h9) rfl dX12_take_325 ?_
                refine lv_iconst (v := 5) hx hb dX12_take_328 (by decide) ?_
                refine lv_icmp_ne (tgt := 342) hx hb dX12_take_329 (by decide) (fun _ => ?_) (fun c_183 => absurd c_183 (by decide))
                refine z_backQ hQQ ?_
                have hP9 := hP
                have hD9 := hD
                have hK9 := hK.sub (tys' := []) [] rfl
                refine W.widen (k := 0) (n := 0) (Nat.le_of_ble_eq_true rfl) (Nat.le_of_ble_eq_true rfl) ?_
                exact W.vret hx hb hr (fun t ht hW => ⟨⟨(), rfl, trivial, ⟨z_151, 5, (-1), v_4, (by first | omega | decide), (by decide), hF_5, (show mnx.toInt ≤ z_151.toInt ∧ z_151.toInt ≤ mst.toInt by omega), (show (5 : Int) ≤ 8 * (z_151.toInt - mnx.toInt) by omega), (show v_4.toInt ≤ z_151.toInt by omega), (show z_tk8 (5 : Int) z_151.toInt v_4.toInt from fun h9 => by omega), (show z_tkw (-1 : Int) (5 : Int) from fun h9 h8 h7 => by omega), (show f_M fa_te mst.toInt mnx.toInt (5 : Int) (-1 : Int) z_151.toInt from f_M_s hrn (by omega) (fun h9 => hw_15 ⟨by omega, h9.1, h9.2⟩) (fun h9 => hw_136 ⟨by omega, h9.1, h9.2⟩) (c := (z_150).toInt) (congrArg Int32.toInt ez_150).symm hw_155.2.2 (by omega) (by omega)), by rw [ht]; exact hP9, va_K.moved hW.alike hK9, hD9⟩⟩, hS.F ht⟩) hS.2.2 dX12_take_342
        · have k_184 : (v_4).toInt = (mst).toInt := z_eq c_11
          refine lv_aload_n hx hb dX12_take_71 rfl (lv_at hl 0 rfl) ?_
          refine lv_iconst (v := 0) hx hb dX12_take_72 (by decide) ?_
          refine va_put (D := (dC, dI)) (ci := 12) (v := .int 0) (ty := .int) (C := RX12) (T := TX12) (N := 70) hx hb hts hiX12 tyX12 tyX12_ok nmX12 hown hK hP hD hS 0 rfl rfl 32 (by decide) w__fieldLink_RX12_221_ShellHeapModel_kindNow_I_ (fun _ h9 => h9) rfl (by decide +kernel) rfl rfl (Nat.le_of_ble_eq_true rfl) dX12_take_73 (fun H_185 locs hP hD hS => ?_)
          obtain ⟨hP, hD⟩ := z_s_0_32 hP hD
          refine lv_goto (tgt := 342) hx hb dX12_take_76 (by decide) ?_
          refine z_backQ hQQ ?_
          have hP9 := hP
          have hD9 := hD
          have hK9 := hK.sub (tys' := []) [] rfl
          refine W.widen (k := 0) (n := 0) (Nat.le_of_ble_eq_true rfl) (Nat.le_of_ble_eq_true rfl) ?_
          exact W.vret hx hb hr (fun t ht hW => ⟨⟨(), rfl, trivial, ⟨v_4, 0, mwh, v_4, hF_5, (by decide), hF_5, (show mnx.toInt ≤ v_4.toInt ∧ v_4.toInt ≤ mst.toInt by omega), (show (0 : Int) ≤ 8 * (v_4.toInt - mnx.toInt) by omega), (show v_4.toInt ≤ v_4.toInt by omega), (show z_tk8 (0 : Int) v_4.toInt v_4.toInt from fun h9 => by omega), (show z_tkw mwh.toInt (0 : Int) from fun h9 h8 h7 => by omega), (show f_M fa_te mst.toInt mnx.toInt (0 : Int) mwh.toInt v_4.toInt from f_M_e hrn (by omega)), by rw [ht]; exact hP9, va_K.moved hW.alike hK9, hD9⟩⟩, hS.F ht⟩) hS.2.2 dX12_take_342
      · have k_186 : (mst).toInt > (v_4).toInt := z_nle c_8
        refine lv_aload_n hx hb dX12_take_11 rfl (lv_at hl 0 rfl) ?_
        refine va_get (D := (dC, dI)) (ci := 12) (v := .ref a_te) (C := RX12) (T := TX12) (N := 70) hx hb hts hiX12 hown hK hP 0 rfl rfl 0 (by decide) w__fieldLink_RX12_7_ShellHeapModel_tape_I_ (fun _ h9 => h9) rfl dX12_take_12 ?_
        refine lv_aload_n hx hb dX12_take_15 rfl (lv_at hl 0 rfl) ?_
        refine va_get (D := (dC, dI)) (ci := 12) (v := .int v_4) (C := RX12) (T := TX12) (N := 70) hx hb hts hiX12 hown hK hP 0 rfl rfl 31 (by decide) w__fieldLink_RX12_207_ShellHeapModel_next_I_ (fun _ h9 => h9) rfl dX12_take_16 ?_
        refine va_iald hx hb hK hP 1 0 rfl rfl (z_vpin (by omega) (by omega)) dX12_take_19 ?_
        refine lv_topi (fun z_187 ez_187 => ?_)
        have kz_187 : ((0 : Int) ≤ (z_187).toInt ∧ (z_187).toInt ≤ (255 : Int)) := by rw [ez_187]; exact hI_a_te _
        have kxz_187 : (z_187).toInt = (fa_te (v_4 : Int32).toNatClampNeg).toInt := by rw [ez_187]
        have kwz_187 : (z_187).toInt = (fa_te (v_4 : Int32).toInt.toNat).toInt := by rw [ez_187]; rfl
        refine lv_bipush (v := 10) hx hb dX12_take_20 (by decide) ?_
        refine lv_icmp_eq (tgt := 39) hx hb dX12_take_22 (by decide) (fun c_188 => ?_) (fun c_188 => ?_)
        · have k_189 : (z_187).toInt = (10 : Int) := z_eq c_188
          obtain rfl : z_187 = 10 := z_eq' (show (z_187).toInt = (10 : Int) by omega)
          refine lv_aload_n hx hb dX12_take_39 rfl (lv_at hl 0 rfl) ?_
          refine lv_dup hx hb dX12_take_40 rfl ?_
          refine va_get (D := (dC, dI)) (ci := 12) (v := .int v_4) (C := RX12) (T := TX12) (N := 70) hx hb hts hiX12 hown hK hP 0 rfl rfl 31 (by decide) w__fieldLink_RX12_207_ShellHeapModel_next_I_ (fun _ h9 => h9) rfl dX12_take_41 ?_
          refine lv_iconst (v := 1) hx hb dX12_take_44 (by decide) ?_
          refine lv_iadd hx hb dX12_take_45 ?_
          refine lv_topi (fun z_191 ez_191 => ?_)
          have kz_191 : (z_191).toInt = (v_4).toInt + (1 : Int) := by rw [ez_191]; exact z_add (a := (v_4).toInt) (b := (1 : Int)) rfl rfl (z_al hF_5.1 (by decide)) (z_ah hF_5.2 (by decide))
          refine va_put (D := (dC, dI)) (ci := 12) (v := .int z_191) (ty := .int) (C := RX12) (T := TX12) (N := 70) hx hb hts hiX12 tyX12 tyX12_ok nmX12 hown hK hP hD hS 0 rfl rfl 31 (by decide) w__fieldLink_RX12_207_ShellHeapModel_next_I_ (fun _ h9 => h9) rfl (by decide +kernel) rfl rfl (Nat.le_of_ble_eq_true rfl) dX12_take_46 (fun H_192 locs hP hD hS => ?_)
          obtain ⟨hP, hD⟩ := z_s_0_31 hP hD
          refine lv_goto (tgt := 0) hx hb dX12_take_49 (by decide) ?_
          exact ih_3 z_191 _ _ _ (show (701 - (z_191).toInt).toNat < n_2 by omega) (show ((0 : Int) ≤ (z_191).toInt ∧ (z_191).toInt ≤ (700 : Int)) by omega) (show f_pre f_bl fa_te (mst).toInt (mnx).toInt (z_191).toInt from f_pre1 (i := v_4) hF_6 (by omega) (by omega) (f_atb ez_187 (by first | (unfold f_bl; omega) | (unfold f_bl; decide))) (by omega)) (show (mnx).toInt ≤ (z_191).toInt ∧ (z_191).toInt ≤ (mst).toInt by omega) hP hD hS (lv_sub hl [0, 1] rfl)
        · have k_193 : (z_187).toInt ≠ (10 : Int) := z_ne c_188
          refine lv_aload_n hx hb dX12_take_25 rfl (lv_at hl 0 rfl) ?_
          refine va_get (D := (dC, dI)) (ci := 12) (v := .ref a_te) (C := RX12) (T := TX12) (N := 70) hx hb hts hiX12 hown hK hP 0 rfl rfl 0 (by decide) w__fieldLink_RX12_7_ShellHeapModel_tape_I_ (fun _ h9 => h9) rfl dX12_take_26 ?_
          refine lv_aload_n hx hb dX12_take_29 rfl (lv_at hl 0 rfl) ?_
          refine va_get (D := (dC, dI)) (ci := 12) (v := .int v_4) (C := RX12) (T := TX12) (N := 70) hx hb hts hiX12 hown hK hP 0 rfl rfl 31 (by decide) w__fieldLink_RX12_207_ShellHeapModel_next_I_ (fun _ h9 => h9) rfl dX12_take_30 ?_
          refine va_iald hx hb hK hP 1 0 rfl rfl (z_vpin (by omega) (by omega)) dX12_take_33 ?_
          refine lv_topi (fun z_194 ez_194 => ?_)
          have kz_194 : ((0 : Int) ≤ (z_194).toInt ∧ (z_194).toInt ≤ (255 : Int)) := by rw [ez_194]; exact hI_a_te _
          have kxz_194 : (z_194).toInt = (fa_te (v_4 : Int32).toNatClampNeg).toInt := by rw [ez_194]
          have kwz_194 : (z_194).toInt = (fa_te (v_4 : Int32).toInt.toNat).toInt := by rw [ez_194]; rfl
          refine lv_bipush (v := 32) hx hb dX12_take_34 (by decide) ?_
          refine lv_icmp_ne (tgt := 52) hx hb dX12_take_36 (by decide) (fun c_195 => ?_) (fun c_195 => ?_)
          · have k_196 : (z_194).toInt ≠ (32 : Int) := z_ne c_195
            have hrn : f_run f_bl fa_te (mst).toInt (mnx).toInt (v_4).toInt := f_run_of hF_6 (fun _ => f_bl_n ez_187 ez_194 (by omega) (by omega))
            refine lv_aload_n hx hb dX12_take_52 rfl (lv_at hl 0 rfl) ?_
            refine lv_aload_n hx hb dX12_take_53 rfl (lv_at hl 0 rfl) ?_
            refine va_get (D := (dC, dI)) (ci := 12) (v := .int v_4) (C := RX12) (T := TX12) (N := 70) hx hb hts hiX12 hown hK hP 0 rfl rfl 31 (by decide) w__fieldLink_RX12_207_ShellHeapModel_next_I_ (fun _ h9 => h9) rfl dX12_take_54 ?_
            refine va_put (D := (dC, dI)) (ci := 12) (v := .int v_4) (ty := .int) (C := RX12) (T := TX12) (N := 70) hx hb hts hiX12 tyX12 tyX12_ok nmX12 hown hK hP hD hS 0 rfl rfl 34 (by decide) w__fieldLink_RX12_201_ShellHeapModel_place_I_ (fun _ h9 => h9) rfl (by decide +kernel) rfl rfl (Nat.le_of_ble_eq_true rfl) dX12_take_57 (fun H_197 locs hP hD hS => ?_)
            obtain ⟨hP, hD⟩ := z_s_0_34 hP hD
            refine lv_aload_n hx hb dX12_take_60 rfl (lv_at hl 0 rfl) ?_
            refine va_get (D := (dC, dI)) (ci := 12) (v := .int v_4) (C := RX12) (T := TX12) (N := 70) hx hb hts hiX12 hown hK hP 0 rfl rfl 31 (by decide) w__fieldLink_RX12_207_ShellHeapModel_next_I_ (fun _ h9 => h9) rfl dX12_take_61 ?_
            refine lv_aload_n hx hb dX12_take_64 rfl (lv_at hl 0 rfl) ?_
            refine va_get (D := (dC, dI)) (ci := 12) (v := .int mst) (C := RX12) (T := TX12) (N := 70) hx hb hts hiX12 hown hK hP 0 rfl rfl 30 (by decide) w__fieldLink_RX12_204_ShellHeapModel_stop_I_ (fun _ h9 => h9) rfl dX12_take_65 ?_
            refine lv_icmp_ne (tgt := 79) hx hb dX12_take_68 (by decide) (fun c_198 => ?_) (fun c_198 => ?_)
            · have k_199 : (v_4).toInt ≠ (mst).toInt := z_ne c_198
              refine lv_aload_n hx hb dX12_take_79 rfl (lv_at hl 0 rfl) ?_
              refine lv_aload_n hx hb dX12_take_80 rfl (lv_at hl 0 rfl) ?_
              refine va_get (D := (dC, dI)) (ci := 12) (v := .int v_4) (C := RX12) (T := TX12) (N := 70) hx hb hts hiX12 hown hK hP 0 rfl rfl 31 (by decide) w__fieldLink_RX12_207_ShellHeapModel_next_I_ (fun _ h9 => h9) rfl dX12_take_81 ?_
              obtain ⟨hPc, hDc⟩ := z_sub2 (ws' := [(h0, .inr (12, [.ref a_te, h0_1, h0_2, h0_3, h0_4, h0_5, h0_6, h0_7, h0_8, h0_9, h0_10, h0_11, h0_12, h0_13, h0_14, h0_15, h0_16, h0_17, h0_18, h0_19, h0_20, h0_21, h0_22, h0_23, h0_24, h0_25, h0_26, .ref a_wd, .int mf, .int mfp, .int mst, .int v_4, .int mkd, .int mwh, .int v_4, h0_35, h0_36, h0_37, h0_38, h0_39, h0_40, h0_41, h0_42, h0_43, h0_44, h0_45, h0_46, h0_47, h0_48, h0_49, h0_50, h0_51, h0_52, h0_53, h0_54, h0_55, h0_56, h0_57, h0_58, h0_59, h0_60, h0_61, h0_62, h0_63, h0_64, h0_65, h0_66, h0_67, h0_68, h0_69])), (a_te, .inl (ca_te, 700, .inl fa_te))]) hP hD [0, 1] (by decide) rfl
              have hKc := hK.sub (tys' := [(ca_te, .int)]) [0] rfl
              have hFc := va_free (ws := []) (wc := []) (z_D0 _) hS hA [] rfl
              refine va_calli (va_runV (As := [.int v_4]) (rest := []) ⟨hx, hb, hml, hown, hts⟩ (s_X12_isSmall l dC dI H_197.size h0 v_4 a_te h0_1 h0_2 h0_3 h0_4 h0_5 h0_6 h0_7 h0_8 h0_9 h0_10 h0_11 h0_12 h0_13 h0_14 h0_15 h0_16 h0_17 h0_18 h0_19 h0_20 h0_21 h0_22 h0_23 h0_24 h0_25 h0_26 a_wd mf mfp mst v_4 mkd mwh v_4 h0_35 h0_36 h0_37 h0_38 h0_39 h0_40 h0_41 h0_42 h0_43 h0_44 h0_45 h0_46 h0_47 h0_48 h0_49 h0_50 h0_51 h0_52 h0_53 h0_54 h0_55 h0_56 h0_57 h0_58 h0_59 h0_60 h0_61 h0_62 h0_63 h0_64 h0_65 h0_66 h0_67 h0_68 h0_69 ca_te fa_te hB_mst hF_5 hB_mkd hF_5 hF_5 hI_a_te) (cwV 1 hts gw_s_X12_take3_s_X12_isSmall_224 rfl rfl rfl (by decide +kernel) ⟨Nat.le_of_ble_eq_true rfl, Nat.le_of_ble_eq_true rfl⟩) ⟨z_blind, va_recv hKc hPc (ci := 12) (q0 := 0) rfl rfl, z_pre hPc hKc hDc⟩ rfl rfl hl.1 rfl (lv_room (Nat.le_of_ble_eq_true rfl)) dX12_take_84 ⟨Nat.le_of_ble_eq_true rfl, Nat.le_of_ble_eq_true rfl⟩) hS (fun q _ h => hFc q h) hFc (fun r_201 u t H_200 locs ht hvm hw_202 hB hz1 hk1 hS => ?_)
              replace hP := z_pure hP hk1
              clear hPc hDc hKc
              rcases hw_202 with ⟨rfl, hw_202⟩ | ⟨rfl, hw_202⟩
              · have hw_202 : (v_4.toInt < mst.toInt ∧ 97 ≤ (fa_te v_4.toNatClampNeg).toInt ∧ (fa_te v_4.toNatClampNeg).toInt ≤ 122) := hw_202
                have hsm0 := hw_202
                refine lv_if_eq (tgt := 240) hx hb dX12_take_87 (by decide) (fun c_203 => absurd c_203 (by decide)) (fun _ => ?_)
                have loop_204 : ∀ (n_205 : Nat) (v_207 : Int32) (H : Heap) (locs : List Loc) (ls : Array Slot), (701 - (v_207).toInt).toNat < n_205 → (((0 : Int) ≤ (v_207).toInt ∧ (v_207).toInt ≤ (700 : Int))) → (f_pre f_le fa_te (mst).toInt (v_4).toInt (v_207).toInt) → ((mnx).toInt ≤ (v_207).toInt ∧ (v_207).toInt ≤ (mst).toInt) → ((v_4).toInt ≤ (v_207).toInt) → ((mnx).toInt + 1 ≤ (v_207).toInt ∨ ((v_207).toInt < (mst).toInt ∧ 97 ≤ (fa_te (v_207 : Int32).toNatClampNeg).toInt ∧ (fa_te (v_207 : Int32).toNatClampNeg).toInt ≤ 122)) → va_P (dC, dI) vwCl [(h0, .inr (12, [.ref a_te, h0_1, h0_2, h0_3, h0_4, h0_5, h0_6, h0_7, h0_8, h0_9, h0_10, h0_11, h0_12, h0_13, h0_14, h0_15, h0_16, h0_17, h0_18, h0_19, h0_20, h0_21, h0_22, h0_23, h0_24, h0_25, h0_26, .ref a_wd, .int mf, .int mfp, .int mst, .int v_207, .int mkd, .int mwh, .int v_4, h0_35, h0_36, h0_37, h0_38, h0_39, h0_40, h0_41, h0_42, h0_43, h0_44, h0_45, h0_46, h0_47, h0_48, h0_49, h0_50, h0_51, h0_52, h0_53, h0_54, h0_55, h0_56, h0_57, h0_58, h0_59, h0_60, h0_61, h0_62, h0_63, h0_64, h0_65, h0_66, h0_67, h0_68, h0_69])), (a_te, .inl (ca_te, 700, .inl fa_te)), (a_wd, .inl (ca_wd, 115, .inl fa_wd))] H → va_D A [(h0, .inr (12, [.ref a_te, h0_1, h0_2, h0_3, h0_4, h0_5, h0_6, h0_7, h0_8, h0_9, h0_10, h0_11, h0_12, h0_13, h0_14, h0_15, h0_16, h0_17, h0_18, h0_19, h0_20, h0_21, h0_22, h0_23, h0_24, h0_25, h0_26, .ref a_wd, .int mf, .int mfp, .int mst, .int v_207, .int mkd, .int mwh, .int v_4, h0_35, h0_36, h0_37, h0_38, h0_39, h0_40, h0_41, h0_42, h0_43, h0_44, h0_45, h0_46, h0_47, h0_48, h0_49, h0_50, h0_51, h0_52, h0_53, h0_54, h0_55, h0_56, h0_57, h0_58, h0_59, h0_60, h0_61, h0_62, h0_63, h0_64, h0_65, h0_66, h0_67, h0_68, h0_69])), (a_te, .inl (ca_te, 700, .inl fa_te)), (a_wd, .inl (ca_wd, 115, .inl fa_wd))] → va_S A s.heap H locs → lv_has ls 3 [(0, .ref h0), (1, .int 1)] → W p l e ({ frames := 2, cells := 0, slots := 0, locals := 43 } : Room) s m ([.ref h0, .int 1] : List Value).toArray below meth c H locs 0 0 QQ (F0 m 90 ls []) := by
                  intro n_205
                  induction n_205 with
                  | zero => intro v_207 H locs ls hm; exact absurd hm (Nat.not_lt_zero _)
                  | succ n_205 ih_206 =>
                    intro v_207 H locs ls hm hF_208 hF_209 hF_210 hF_211 hF_212 hP hD hS hl
                    refine lv_aload_n hx hb dX12_take_90 rfl (lv_at hl 0 rfl) ?_
                    refine lv_aload_n hx hb dX12_take_91 rfl (lv_at hl 0 rfl) ?_
                    refine va_get (D := (dC, dI)) (ci := 12) (v := .int v_207) (C := RX12) (T := TX12) (N := 70) hx hb hts hiX12 hown hK hP 0 rfl rfl 31 (by decide) w__fieldLink_RX12_207_ShellHeapModel_next_I_ (fun _ h9 => h9) rfl dX12_take_92 ?_
                    obtain ⟨hPc, hDc⟩ := z_sub2 (ws' := [(h0, .inr (12, [.ref a_te, h0_1, h0_2, h0_3, h0_4, h0_5, h0_6, h0_7, h0_8, h0_9, h0_10, h0_11, h0_12, h0_13, h0_14, h0_15, h0_16, h0_17, h0_18, h0_19, h0_20, h0_21, h0_22, h0_23, h0_24, h0_25, h0_26, .ref a_wd, .int mf, .int mfp, .int mst, .int v_207, .int mkd, .int mwh, .int v_4, h0_35, h0_36, h0_37, h0_38, h0_39, h0_40, h0_41, h0_42, h0_43, h0_44, h0_45, h0_46, h0_47, h0_48, h0_49, h0_50, h0_51, h0_52, h0_53, h0_54, h0_55, h0_56, h0_57, h0_58, h0_59, h0_60, h0_61, h0_62, h0_63, h0_64, h0_65, h0_66, h0_67, h0_68, h0_69])), (a_te, .inl (ca_te, 700, .inl fa_te))]) hP hD [0, 1] (by decide) rfl
                    have hKc := hK.sub (tys' := [(ca_te, .int)]) [0] rfl
                    have hFc := va_free (ws := []) (wc := []) (z_D0 _) hS hA [] rfl
                    refine va_calli (va_runV (As := [.int v_207]) (rest := []) ⟨hx, hb, hml, hown, hts⟩ (s_X12_isSmall l dC dI H.size h0 v_207 a_te h0_1 h0_2 h0_3 h0_4 h0_5 h0_6 h0_7 h0_8 h0_9 h0_10 h0_11 h0_12 h0_13 h0_14 h0_15 h0_16 h0_17 h0_18 h0_19 h0_20 h0_21 h0_22 h0_23 h0_24 h0_25 h0_26 a_wd mf mfp mst v_207 mkd mwh v_4 h0_35 h0_36 h0_37 h0_38 h0_39 h0_40 h0_41 h0_42 h0_43 h0_44 h0_45 h0_46 h0_47 h0_48 h0_49 h0_50 h0_51 h0_52 h0_53 h0_54 h0_55 h0_56 h0_57 h0_58 h0_59 h0_60 h0_61 h0_62 h0_63 h0_64 h0_65 h0_66 h0_67 h0_68 h0_69 ca_te fa_te hB_mst hF_208 hB_mkd hF_5 hF_208 hI_a_te) (cwV 1 hts gw_s_X12_take3_s_X12_isSmall_224 rfl rfl rfl (by decide +kernel) ⟨Nat.le_of_ble_eq_true rfl, Nat.le_of_ble_eq_true rfl⟩) ⟨z_blind, va_recv hKc hPc (ci := 12) (q0 := 0) rfl rfl, z_pre hPc hKc hDc⟩ rfl rfl hl.1 rfl (lv_room (Nat.le_of_ble_eq_true rfl)) dX12_take_95 ⟨Nat.le_of_ble_eq_true rfl, Nat.le_of_ble_eq_true rfl⟩) hS (fun q _ h => hFc q h) hFc (fun r_214 u t H_213 locs ht hvm hw_215 hB hz1 hk1 hS => ?_)
                    replace hP := z_pure hP hk1
                    clear hPc hDc hKc
                    rcases hw_215 with ⟨rfl, hw_215⟩ | ⟨rfl, hw_215⟩
                    · have hw_215 : (v_207.toInt < mst.toInt ∧ 97 ≤ (fa_te v_207.toNatClampNeg).toInt ∧ (fa_te v_207.toNatClampNeg).toInt ≤ 122) := hw_215
                      refine lv_if_eq (tgt := 114) hx hb dX12_take_98 (by decide) (fun c_216 => absurd c_216 (by decide)) (fun _ => ?_)
                      refine lv_aload_n hx hb dX12_take_101 rfl (lv_at hl 0 rfl) ?_
                      refine lv_dup hx hb dX12_take_102 rfl ?_
                      refine va_get (D := (dC, dI)) (ci := 12) (v := .int v_207) (C := RX12) (T := TX12) (N := 70) hx hb hts hiX12 hown hK hP 0 rfl rfl 31 (by decide) w__fieldLink_RX12_207_ShellHeapModel_next_I_ (fun _ h9 => h9) rfl dX12_take_103 ?_
                      refine lv_iconst (v := 1) hx hb dX12_take_106 (by decide) ?_
                      refine lv_iadd hx hb dX12_take_107 ?_
                      refine lv_topi (fun z_217 ez_217 => ?_)
                      have kz_217 : (z_217).toInt = (v_207).toInt + (1 : Int) := by rw [ez_217]; exact z_add (a := (v_207).toInt) (b := (1 : Int)) rfl rfl (z_al hF_208.1 (by decide)) (z_ah hF_208.2 (by decide))
                      refine va_put (D := (dC, dI)) (ci := 12) (v := .int z_217) (ty := .int) (C := RX12) (T := TX12) (N := 70) hx hb hts hiX12 tyX12 tyX12_ok nmX12 hown hK hP hD hS 0 rfl rfl 31 (by decide) w__fieldLink_RX12_207_ShellHeapModel_next_I_ (fun _ h9 => h9) rfl (by decide +kernel) rfl rfl (Nat.le_of_ble_eq_true rfl) dX12_take_108 (fun H_218 locs hP hD hS => ?_)
                      obtain ⟨hP, hD⟩ := z_s_0_31 hP hD
                      refine lv_goto (tgt := 90) hx hb dX12_take_111 (by decide) ?_
                      exact ih_206 z_217 _ _ _ (show (701 - (z_217).toInt).toNat < n_205 by omega) (show ((0 : Int) ≤ (z_217).toInt ∧ (z_217).toInt ≤ (700 : Int)) by omega) (show f_pre f_le fa_te (mst).toInt (v_4).toInt (z_217).toInt from f_pre1 (i := v_207) hF_209 (by omega) (by omega) (show f_le _ from ⟨hw_215.2.1, hw_215.2.2⟩) (by omega)) (show (mnx).toInt ≤ (z_217).toInt ∧ (z_217).toInt ≤ (mst).toInt by omega) (show (v_4).toInt ≤ (z_217).toInt by omega) (show (mnx).toInt + 1 ≤ (z_217).toInt ∨ ((z_217).toInt < (mst).toInt ∧ 97 ≤ (fa_te (z_217 : Int32).toNatClampNeg).toInt ∧ (fa_te (z_217 : Int32).toNatClampNeg).toInt ≤ 122) by omega) hP hD hS (lv_sub hl [0, 1] rfl)
                    · have hw_215 : ¬ (v_207.toInt < mst.toInt ∧ 97 ≤ (fa_te v_207.toNatClampNeg).toInt ∧ (fa_te v_207.toNatClampNeg).toInt ≤ 122) := hw_215
                      refine lv_if_eq (tgt := 114) hx hb dX12_take_98 (by decide) (fun _ => ?_) (fun c_219 => absurd (by decide) c_219)
                      have hlr : f_run f_le fa_te (mst).toInt (v_4).toInt (v_207).toInt := f_run_of hF_209 (fun h8 h9 => hw_215 ⟨h8, h9.1, h9.2⟩)
                      have hlp := f_run_pos hlr (by omega) (show f_le _ from ⟨hsm0.2.1, hsm0.2.2⟩)
                      refine lv_aload_n hx hb dX12_take_114 rfl (lv_at hl 0 rfl) ?_
                      refine va_get (D := (dC, dI)) (ci := 12) (v := .int v_207) (C := RX12) (T := TX12) (N := 70) hx hb hts hiX12 hown hK hP 0 rfl rfl 31 (by decide) w__fieldLink_RX12_207_ShellHeapModel_next_I_ (fun _ h9 => h9) rfl dX12_take_115 ?_
                      refine lv_aload_n hx hb dX12_take_118 rfl (lv_at hl 0 rfl) ?_
                      refine va_get (D := (dC, dI)) (ci := 12) (v := .int v_4) (C := RX12) (T := TX12) (N := 70) hx hb hts hiX12 hown hK hP 0 rfl rfl 34 (by decide) w__fieldLink_RX12_201_ShellHeapModel_place_I_ (fun _ h9 => h9) rfl dX12_take_119 ?_
                      refine lv_isub hx hb dX12_take_122 ?_
                      refine lv_topi (fun z_220 ez_220 => ?_)
                      have kz_220 : (z_220).toInt = (v_207).toInt - (v_4).toInt := by rw [ez_220]; exact z_sub (a := (v_207).toInt) (b := (v_4).toInt) rfl rfl (by omega) (by omega)
                      refine lv_istore_n (lv' := [(2, .int z_220), (0, .ref h0), (1, .int 1)]) hx hb dX12_take_123 rfl hl (by decide) rfl (fun ls hl => ?_)
                      refine lv_aload_n hx hb dX12_take_124 rfl (lv_at hl 1 rfl) ?_
                      refine lv_aload_n hx hb dX12_take_125 rfl (lv_at hl 1 rfl) ?_
                      refine lv_aload_n hx hb dX12_take_126 rfl (lv_at hl 1 rfl) ?_
                      refine va_get (D := (dC, dI)) (ci := 12) (v := .int v_4) (C := RX12) (T := TX12) (N := 70) hx hb hts hiX12 hown hK hP 0 rfl rfl 34 (by decide) w__fieldLink_RX12_201_ShellHeapModel_place_I_ (fun _ h9 => h9) rfl dX12_take_127 ?_
                      refine lv_aload_n hx hb dX12_take_130 rfl (lv_at hl 1 rfl) ?_
                      refine va_get (D := (dC, dI)) (ci := 12) (v := .int v_207) (C := RX12) (T := TX12) (N := 70) hx hb hts hiX12 hown hK hP 0 rfl rfl 31 (by decide) w__fieldLink_RX12_207_ShellHeapModel_next_I_ (fun _ h9 => h9) rfl dX12_take_131 ?_
                      have hPc := hP
                      have hDc := hD
                      have hKc := hK
                      have hFc := va_free (ws := []) (wc := []) (z_D0 _) hS hA [] rfl
                      refine va_calli (va_runV (As := [.int v_4, .int v_207]) (rest := [.ref h0]) ⟨hx, hb, hml, hown, hts⟩ (s_X12_wordAt3 l dC dI H_213.size h0 v_4 v_207 a_te h0_1 h0_2 h0_3 h0_4 h0_5 h0_6 h0_7 h0_8 h0_9 h0_10 h0_11 h0_12 h0_13 h0_14 h0_15 h0_16 h0_17 h0_18 h0_19 h0_20 h0_21 h0_22 h0_23 h0_24 h0_25 h0_26 a_wd mf mfp mst v_207 mkd mwh v_4 h0_35 h0_36 h0_37 h0_38 h0_39 h0_40 h0_41 h0_42 h0_43 h0_44 h0_45 h0_46 h0_47 h0_48 h0_49 h0_50 h0_51 h0_52 h0_53 h0_54 h0_55 h0_56 h0_57 h0_58 h0_59 h0_60 h0_61 h0_62 h0_63 h0_64 h0_65 h0_66 h0_67 h0_68 h0_69 ca_te fa_te ca_wd fa_wd hF_5 hF_208 hI_a_te hWX (by first | omega | decide)) (cwV 2 hts gw_s_X12_take3_s_X12_wordAt3_227 rfl rfl rfl (by decide +kernel) ⟨Nat.le_of_ble_eq_true rfl, Nat.le_of_ble_eq_true rfl⟩) ⟨z_blind, va_recv hKc hPc (ci := 12) (q0 := 0) rfl rfl, z_pre hPc hKc hDc⟩ rfl rfl hl.1 rfl (lv_room (Nat.le_of_ble_eq_true rfl)) dX12_take_134 ⟨Nat.le_of_ble_eq_true rfl, Nat.le_of_ble_eq_true rfl⟩) hS (fun q _ h => hFc q h) hFc (fun r_222 u t H_221 locs ht hvm hw_223 hB hz1 hk1 hS => ?_)
                      replace hP := z_pure hP hk1
                      clear hPc hDc hKc
                      refine va_put (D := (dC, dI)) (ci := 12) (v := .int r_222) (ty := .int) (C := RX12) (T := TX12) (N := 70) hx hb hts hiX12 tyX12 tyX12_ok nmX12 hown hK hP hD hS 0 rfl rfl 33 (by decide) w__fieldLink_RX12_214_ShellHeapModel_which_I_ (fun _ h9 => h9) rfl (by decide +kernel) rfl rfl (Nat.le_of_ble_eq_true rfl) dX12_take_137 (fun H_224 locs hP hD hS => ?_)
                      obtain ⟨hP, hD⟩ := z_s_0_33 hP hD
                      refine lv_aload_n hx hb dX12_take_140 rfl (lv_at hl 1 rfl) ?_
                      refine lv_aload_n hx hb dX12_take_141 rfl (lv_at hl 1 rfl) ?_
                      refine va_get (D := (dC, dI)) (ci := 12) (v := .int r_222) (C := RX12) (T := TX12) (N := 70) hx hb hts hiX12 hown hK hP 0 rfl rfl 33 (by decide) w__fieldLink_RX12_214_ShellHeapModel_which_I_ (fun _ h9 => h9) rfl dX12_take_142 ?_
                      refine lv_if_lt (tgt := 152) hx hb dX12_take_145 (by decide) (fun c_225 => ?_) (fun c_225 => ?_)
                      · have k_226 : (r_222).toInt < (0 : Int) := z_lt c_225
                        obtain rfl : r_222 = (-1) := z_eq' (show (r_222).toInt = (-1 : Int) by omega)
                        refine lv_iload_n hx hb dX12_take_152 rfl (lv_at hl 0 rfl) ?_
                        refine lv_bipush (v := 8) hx hb dX12_take_153 (by decide) ?_
                        refine lv_icmp_le (tgt := 162) hx hb dX12_take_155 (by decide) (fun c_228 => ?_) (fun c_228 => ?_)
                        · have k_229 : (z_220).toInt ≤ (8 : Int) := z_le c_228
                          refine lv_iconst (v := 2) hx hb dX12_take_162 (by decide) ?_
                          refine va_put (D := (dC, dI)) (ci := 12) (v := .int 2) (ty := .int) (C := RX12) (T := TX12) (N := 70) hx hb hts hiX12 tyX12 tyX12_ok nmX12 hown hK hP hD hS 0 rfl rfl 32 (by decide) w__fieldLink_RX12_221_ShellHeapModel_kindNow_I_ (fun _ h9 => h9) rfl (by decide +kernel) rfl rfl (Nat.le_of_ble_eq_true rfl) dX12_take_163 (fun H_230 locs hP hD hS => ?_)
                          obtain ⟨hP, hD⟩ := z_s_0_32 hP hD
                          refine lv_iload_n hx hb dX12_take_166 rfl (lv_at hl 2 rfl) ?_
                          refine lv_if_eq (tgt := 237) hx hb dX12_take_167 (by decide) (fun c_231 => absurd c_231 (by decide)) (fun _ => ?_)
                          refine lv_aload_n hx hb dX12_take_170 rfl (lv_at hl 1 rfl) ?_
                          refine lv_aload_n hx hb dX12_take_171 rfl (lv_at hl 1 rfl) ?_
                          refine va_get (D := (dC, dI)) (ci := 12) (v := .int v_207) (C := RX12) (T := TX12) (N := 70) hx hb hts hiX12 hown hK hP 0 rfl rfl 31 (by decide) w__fieldLink_RX12_207_ShellHeapModel_next_I_ (fun _ h9 => h9) rfl dX12_take_172 ?_
                          obtain ⟨hPc, hDc⟩ := z_sub2 (ws' := [(h0, .inr (12, [.ref a_te, h0_1, h0_2, h0_3, h0_4, h0_5, h0_6, h0_7, h0_8, h0_9, h0_10, h0_11, h0_12, h0_13, h0_14, h0_15, h0_16, h0_17, h0_18, h0_19, h0_20, h0_21, h0_22, h0_23, h0_24, h0_25, h0_26, .ref a_wd, .int mf, .int mfp, .int mst, .int v_207, .int 2, .int (-1), .int v_4, h0_35, h0_36, h0_37, h0_38, h0_39, h0_40, h0_41, h0_42, h0_43, h0_44, h0_45, h0_46, h0_47, h0_48, h0_49, h0_50, h0_51, h0_52, h0_53, h0_54, h0_55, h0_56, h0_57, h0_58, h0_59, h0_60, h0_61, h0_62, h0_63, h0_64, h0_65, h0_66, h0_67, h0_68, h0_69])), (a_te, .inl (ca_te, 700, .inl fa_te))]) hP hD [0, 1] (by decide) rfl
                          have hKc := hK.sub (tys' := [(ca_te, .int)]) [0] rfl
                          have hFc := va_free (ws := []) (wc := []) (z_D0 _) hS hA [] rfl
                          refine va_calli (va_runV (As := [.int v_207]) (rest := []) ⟨hx, hb, hml, hown, hts⟩ (s_X12_isDigit l dC dI H_230.size h0 v_207 a_te h0_1 h0_2 h0_3 h0_4 h0_5 h0_6 h0_7 h0_8 h0_9 h0_10 h0_11 h0_12 h0_13 h0_14 h0_15 h0_16 h0_17 h0_18 h0_19 h0_20 h0_21 h0_22 h0_23 h0_24 h0_25 h0_26 a_wd mf mfp mst v_207 2 (-1) v_4 h0_35 h0_36 h0_37 h0_38 h0_39 h0_40 h0_41 h0_42 h0_43 h0_44 h0_45 h0_46 h0_47 h0_48 h0_49 h0_50 h0_51 h0_52 h0_53 h0_54 h0_55 h0_56 h0_57 h0_58 h0_59 h0_60 h0_61 h0_62 h0_63 h0_64 h0_65 h0_66 h0_67 h0_68 h0_69 ca_te fa_te hB_mst hF_208 (by decide) hF_5 hF_208 hI_a_te) (cwV 1 hts gw_s_X12_take3_s_X12_isDigit_217 rfl rfl rfl (by decide +kernel) ⟨Nat.le_of_ble_eq_true rfl, Nat.le_of_ble_eq_true rfl⟩) ⟨z_blind, va_recv hKc hPc (ci := 12) (q0 := 0) rfl rfl, z_pre hPc hKc hDc⟩ rfl rfl hl.1 rfl (lv_room (Nat.le_of_ble_eq_true rfl)) dX12_take_175 ⟨Nat.le_of_ble_eq_true rfl, Nat.le_of_ble_eq_true rfl⟩) hS (fun q _ h => hFc q h) hFc (fun r_233 u t H_232 locs ht hvm hw_234 hB hz1 hk1 hS => ?_)
                          replace hP := z_pure hP hk1
                          clear hPc hDc hKc
                          rcases hw_234 with ⟨rfl, hw_234⟩ | ⟨rfl, hw_234⟩
                          · have hw_234 : (v_207.toInt < mst.toInt ∧ 48 ≤ (fa_te v_207.toNatClampNeg).toInt ∧ (fa_te v_207.toNatClampNeg).toInt ≤ 57) := hw_234
                            refine lv_if_eq (tgt := 237) hx hb dX12_take_178 (by decide) (fun c_235 => absurd c_235 (by decide)) (fun _ => ?_)
                            refine lv_aload_n hx hb dX12_take_181 rfl (lv_at hl 1 rfl) ?_
                            obtain ⟨hPc, hDc, hFc⟩ := z_sub3 (ws' := [(h0, .inr (12, [.ref a_te, h0_1, h0_2, h0_3, h0_4, h0_5, h0_6, h0_7, h0_8, h0_9, h0_10, h0_11, h0_12, h0_13, h0_14, h0_15, h0_16, h0_17, h0_18, h0_19, h0_20, h0_21, h0_22, h0_23, h0_24, h0_25, h0_26, .ref a_wd, .int mf, .int mfp, .int mst, .int v_207, .int 2, .int (-1), .int v_4, h0_35, h0_36, h0_37, h0_38, h0_39, h0_40, h0_41, h0_42, h0_43, h0_44, h0_45, h0_46, h0_47, h0_48, h0_49, h0_50, h0_51, h0_52, h0_53, h0_54, h0_55, h0_56, h0_57, h0_58, h0_59, h0_60, h0_61, h0_62, h0_63, h0_64, h0_65, h0_66, h0_67, h0_68, h0_69])), (a_te, .inl (ca_te, 700, .inl fa_te))]) hP hD hS hA [0, 1] (by decide) rfl
                            have hKc := hK.sub (tys' := [(ca_te, .int)]) [0] rfl
                            refine va_callv (va_runV (As := []) (rest := []) ⟨hx, hb, hml, hown, hts⟩ (s_X12_digits3 l dC dI H_232.size h0 a_te h0_1 h0_2 h0_3 h0_4 h0_5 h0_6 h0_7 h0_8 h0_9 h0_10 h0_11 h0_12 h0_13 h0_14 h0_15 h0_16 h0_17 h0_18 h0_19 h0_20 h0_21 h0_22 h0_23 h0_24 h0_25 h0_26 a_wd mf mfp mst v_207 2 (-1) v_4 h0_35 h0_36 h0_37 h0_38 h0_39 h0_40 h0_41 h0_42 h0_43 h0_44 h0_45 h0_46 h0_47 h0_48 h0_49 h0_50 h0_51 h0_52 h0_53 h0_54 h0_55 h0_56 h0_57 h0_58 h0_59 h0_60 h0_61 h0_62 h0_63 h0_64 h0_65 h0_66 h0_67 h0_68 h0_69 ca_te fa_te hB_mst hF_208 (by decide) hF_5 hI_a_te (by first | omega | decide)) (cwV 0 hts gw_s_X12_take3_s_X12_digits3_230 rfl rfl rfl (by decide +kernel) ⟨Nat.le_of_ble_eq_true rfl, Nat.le_of_ble_eq_true rfl⟩) ⟨z_blind, va_recv hKc hPc (ci := 12) (q0 := 0) rfl rfl, z_pre hPc hKc hDc⟩ rfl rfl hl.1 rfl (lv_room (Nat.le_of_ble_eq_true rfl)) dX12_take_182 ⟨Nat.le_of_ble_eq_true rfl, Nat.le_of_ble_eq_true rfl⟩) hS (fun q _ h => hFc q h) hFc (fun u t H_236 locs ht hvm hw_238 hB hz1 hk1 hS => ?_)
                            obtain ⟨n_h0_next_239, n_h0_which_240, hp_241, hp_242, hp_243, hp_244, hp_245, hP1, hK1, hD1⟩ := hB
                            rw [ht] at hP1
                            have hK1 := va_K.moved hvm.symm hK1
                            obtain ⟨hP, hD⟩ := z_ap_1 (va_join (wr := [(a_wd, .inl (ca_wd, 115, .inl fa_wd))]) hP hD [0, 1] [2] rfl rfl (by decide) (by decide) hk1 hFc hP1 hD1)
                            have hp_243 : v_207.toInt + 1 ≤ n_h0_next_239.toInt ∧ n_h0_next_239.toInt ≤ mst.toInt := hp_243
                            have hp_244 : f_run f_di fa_te mst.toInt v_207.toInt n_h0_next_239.toInt := hp_244
                            have hp_245 : f_v n_h0_which_240.toInt = f_v (f_nm fa_te v_207.toInt n_h0_next_239.toInt) := hp_245
                            clear hPc hDc hKc
                            refine lv_aload_n hx hb dX12_take_185 rfl (lv_at hl 1 rfl) ?_
                            refine lv_iload_n hx hb dX12_take_186 rfl (lv_at hl 0 rfl) ?_
                            refine lv_iconst (v := 1) hx hb dX12_take_187 (by decide) ?_
                            refine lv_icmp_le (tgt := 195) hx hb dX12_take_188 (by decide) (fun c_246 => ?_) (fun c_246 => ?_)
                            · have k_247 : (z_220).toInt ≤ (1 : Int) := z_le c_246
                              refine lv_aload_n hx hb dX12_take_195 rfl (lv_at hl 1 rfl) ?_
                              refine va_get (D := (dC, dI)) (ci := 12) (v := .ref a_te) (C := RX12) (T := TX12) (N := 70) hx hb hts hiX12 hown hK hP 1 rfl rfl 0 (by decide) w__fieldLink_RX12_7_ShellHeapModel_tape_I_ (fun _ h9 => h9) rfl dX12_take_196 ?_
                              refine lv_aload_n hx hb dX12_take_199 rfl (lv_at hl 1 rfl) ?_
                              refine va_get (D := (dC, dI)) (ci := 12) (v := .int v_4) (C := RX12) (T := TX12) (N := 70) hx hb hts hiX12 hown hK hP 1 rfl rfl 34 (by decide) w__fieldLink_RX12_201_ShellHeapModel_place_I_ (fun _ h9 => h9) rfl dX12_take_200 ?_
                              refine va_iald hx hb hK hP 2 0 rfl rfl (z_vpin (by omega) (by omega)) dX12_take_203 ?_
                              refine lv_topi (fun z_248 ez_248 => ?_)
                              have kz_248 : ((0 : Int) ≤ (z_248).toInt ∧ (z_248).toInt ≤ (255 : Int)) := by rw [ez_248]; exact hI_a_te _
                              have kxz_248 : (z_248).toInt = (fa_te (v_4 : Int32).toNatClampNeg).toInt := by rw [ez_248]
                              have kwz_248 : (z_248).toInt = (fa_te (v_4 : Int32).toInt.toNat).toInt := by rw [ez_248]; rfl
                              refine lv_bipush (v := 107) hx hb dX12_take_204 (by decide) ?_
                              refine lv_icmp_ne (tgt := 214) hx hb dX12_take_206 (by decide) (fun c_249 => ?_) (fun c_249 => ?_)
                              · have k_250 : (z_248).toInt ≠ (107 : Int) := z_ne c_249
                                refine lv_aload_n hx hb dX12_take_214 rfl (lv_at hl 1 rfl) ?_
                                refine va_get (D := (dC, dI)) (ci := 12) (v := .ref a_te) (C := RX12) (T := TX12) (N := 70) hx hb hts hiX12 hown hK hP 1 rfl rfl 0 (by decide) w__fieldLink_RX12_7_ShellHeapModel_tape_I_ (fun _ h9 => h9) rfl dX12_take_215 ?_
                                refine lv_aload_n hx hb dX12_take_218 rfl (lv_at hl 1 rfl) ?_
                                refine va_get (D := (dC, dI)) (ci := 12) (v := .int v_4) (C := RX12) (T := TX12) (N := 70) hx hb hts hiX12 hown hK hP 1 rfl rfl 34 (by decide) w__fieldLink_RX12_201_ShellHeapModel_place_I_ (fun _ h9 => h9) rfl dX12_take_219 ?_
                                refine va_iald hx hb hK hP 2 0 rfl rfl (z_vpin (by omega) (by omega)) dX12_take_222 ?_
                                refine lv_topi (fun z_251 ez_251 => ?_)
                                have kz_251 : ((0 : Int) ≤ (z_251).toInt ∧ (z_251).toInt ≤ (255 : Int)) := by rw [ez_251]; exact hI_a_te _
                                have kxz_251 : (z_251).toInt = (fa_te (v_4 : Int32).toNatClampNeg).toInt := by rw [ez_251]
                                have kwz_251 : (z_251).toInt = (fa_te (v_4 : Int32).toInt.toNat).toInt := by rw [ez_251]; rfl
                                refine lv_bipush (v := 115) hx hb dX12_take_223 (by decide) ?_
                                refine lv_icmp_ne (tgt := 233) hx hb dX12_take_225 (by decide) (fun c_252 => ?_) (fun c_252 => ?_)
                                · have k_253 : (z_251).toInt ≠ (115 : Int) := z_ne c_252
                                  refine lv_iconst (v := 5) hx hb dX12_take_233 (by decide) ?_
                                  refine va_put (D := (dC, dI)) (ci := 12) (v := .int 5) (ty := .int) (C := RX12) (T := TX12) (N := 70) hx hb hts hiX12 tyX12 tyX12_ok nmX12 hown hK hP hD hS 1 rfl rfl 32 (by decide) w__fieldLink_RX12_221_ShellHeapModel_kindNow_I_ (fun _ h9 => h9) rfl (by decide +kernel) rfl rfl (Nat.le_of_ble_eq_true rfl) dX12_take_234 (fun H_254 locs hP hD hS => ?_)
                                  obtain ⟨hP, hD⟩ := z_s_1_32 hP hD
                                  refine lv_goto (tgt := 342) hx hb dX12_take_237 (by decide) ?_
                                  refine z_backQ hQQ ?_
                                  obtain ⟨hP9, hD9⟩ := z_sub2 (ws' := [(h0, .inr (12, [.ref a_te, h0_1, h0_2, h0_3, h0_4, h0_5, h0_6, h0_7, h0_8, h0_9, h0_10, h0_11, h0_12, h0_13, h0_14, h0_15, h0_16, h0_17, h0_18, h0_19, h0_20, h0_21, h0_22, h0_23, h0_24, h0_25, h0_26, .ref a_wd, .int mf, .int mfp, .int mst, .int n_h0_next_239, .int 5, .int n_h0_which_240, .int v_4, h0_35, h0_36, h0_37, h0_38, h0_39, h0_40, h0_41, h0_42, h0_43, h0_44, h0_45, h0_46, h0_47, h0_48, h0_49, h0_50, h0_51, h0_52, h0_53, h0_54, h0_55, h0_56, h0_57, h0_58, h0_59, h0_60, h0_61, h0_62, h0_63, h0_64, h0_65, h0_66, h0_67, h0_68, h0_69])), (a_te, .inl (ca_te, 700, .inl fa_te)), (a_wd, .inl (ca_wd, 115, .inl fa_wd))]) hP hD [1, 2, 0] (by decide) rfl
                                  have hK9 := hK.sub (tys' := []) [] rfl
                                  refine W.widen (k := 0) (n := 0) (Nat.le_of_ble_eq_true rfl) (Nat.le_of_ble_eq_true rfl) ?_
                                  exact W.vret hx hb hr (fun t ht hW => ⟨⟨(), rfl, trivial, ⟨n_h0_next_239, 5, n_h0_which_240, v_4, hp_241, (by decide), hF_5, (show mnx.toInt ≤ n_h0_next_239.toInt ∧ n_h0_next_239.toInt ≤ mst.toInt by omega), (show (5 : Int) ≤ 8 * (n_h0_next_239.toInt - mnx.toInt) by omega), (show v_4.toInt ≤ n_h0_next_239.toInt by omega), (show z_tk8 (5 : Int) n_h0_next_239.toInt v_4.toInt from fun h9 => by omega), (show z_tkw n_h0_which_240.toInt (5 : Int) from fun h9 h8 h7 => by omega), (show f_M fa_te mst.toInt mnx.toInt (5 : Int) n_h0_which_240.toInt n_h0_next_239.toInt from f_M_k hrn (by omega) (show f_le _ from ⟨hsm0.2.1, hsm0.2.2⟩) hlr hp_244 (by omega) hp_245 (by omega) (Or.inr (Or.inr ⟨by omega, rfl⟩))), by rw [ht]; exact hP9, va_K.moved hW.alike hK9, hD9⟩⟩, hS.F ht⟩) hS.2.2 dX12_take_342
                                · have k_255 : (z_251).toInt = (115 : Int) := z_eq c_252
                                  obtain rfl : z_251 = 115 := z_eq' (show (z_251).toInt = (115 : Int) by omega)
                                  refine lv_bipush (v := 7) hx hb dX12_take_228 (by decide) ?_
                                  refine lv_goto (tgt := 234) hx hb dX12_take_230 (by decide) ?_
                                  refine va_put (D := (dC, dI)) (ci := 12) (v := .int 7) (ty := .int) (C := RX12) (T := TX12) (N := 70) hx hb hts hiX12 tyX12 tyX12_ok nmX12 hown hK hP hD hS 1 rfl rfl 32 (by decide) w__fieldLink_RX12_221_ShellHeapModel_kindNow_I_ (fun _ h9 => h9) rfl (by decide +kernel) rfl rfl (Nat.le_of_ble_eq_true rfl) dX12_take_234 (fun H_257 locs hP hD hS => ?_)
                                  obtain ⟨hP, hD⟩ := z_s_1_32 hP hD
                                  refine lv_goto (tgt := 342) hx hb dX12_take_237 (by decide) ?_
                                  refine z_backQ hQQ ?_
                                  obtain ⟨hP9, hD9⟩ := z_sub2 (ws' := [(h0, .inr (12, [.ref a_te, h0_1, h0_2, h0_3, h0_4, h0_5, h0_6, h0_7, h0_8, h0_9, h0_10, h0_11, h0_12, h0_13, h0_14, h0_15, h0_16, h0_17, h0_18, h0_19, h0_20, h0_21, h0_22, h0_23, h0_24, h0_25, h0_26, .ref a_wd, .int mf, .int mfp, .int mst, .int n_h0_next_239, .int 7, .int n_h0_which_240, .int v_4, h0_35, h0_36, h0_37, h0_38, h0_39, h0_40, h0_41, h0_42, h0_43, h0_44, h0_45, h0_46, h0_47, h0_48, h0_49, h0_50, h0_51, h0_52, h0_53, h0_54, h0_55, h0_56, h0_57, h0_58, h0_59, h0_60, h0_61, h0_62, h0_63, h0_64, h0_65, h0_66, h0_67, h0_68, h0_69])), (a_te, .inl (ca_te, 700, .inl fa_te)), (a_wd, .inl (ca_wd, 115, .inl fa_wd))]) hP hD [1, 2, 0] (by decide) rfl
                                  have hK9 := hK.sub (tys' := []) [] rfl
                                  refine W.widen (k := 0) (n := 0) (Nat.le_of_ble_eq_true rfl) (Nat.le_of_ble_eq_true rfl) ?_
                                  exact W.vret hx hb hr (fun t ht hW => ⟨⟨(), rfl, trivial, ⟨n_h0_next_239, 7, n_h0_which_240, v_4, hp_241, (by decide), hF_5, (show mnx.toInt ≤ n_h0_next_239.toInt ∧ n_h0_next_239.toInt ≤ mst.toInt by omega), (show (7 : Int) ≤ 8 * (n_h0_next_239.toInt - mnx.toInt) by omega), (show v_4.toInt ≤ n_h0_next_239.toInt by omega), (show z_tk8 (7 : Int) n_h0_next_239.toInt v_4.toInt from fun h9 => by omega), (show z_tkw n_h0_which_240.toInt (7 : Int) from fun h9 h8 h7 => by omega), (show f_M fa_te mst.toInt mnx.toInt (7 : Int) n_h0_which_240.toInt n_h0_next_239.toInt from f_M_k hrn (by omega) (show f_le _ from ⟨hsm0.2.1, hsm0.2.2⟩) hlr hp_244 (by omega) hp_245 (by omega) (Or.inr (Or.inl ⟨by omega, by first | omega | exact (congrArg Int32.toInt ez_251).symm.trans (by decide), rfl⟩))), by rw [ht]; exact hP9, va_K.moved hW.alike hK9, hD9⟩⟩, hS.F ht⟩) hS.2.2 dX12_take_342
                              · have k_258 : (z_248).toInt = (107 : Int) := z_eq c_249
                                obtain rfl : z_248 = 107 := z_eq' (show (z_248).toInt = (107 : Int) by omega)
                                refine lv_bipush (v := 6) hx hb dX12_take_209 (by decide) ?_
                                refine lv_goto (tgt := 234) hx hb dX12_take_211 (by decide) ?_
                                refine va_put (D := (dC, dI)) (ci := 12) (v := .int 6) (ty := .int) (C := RX12) (T := TX12) (N := 70) hx hb hts hiX12 tyX12 tyX12_ok nmX12 hown hK hP hD hS 1 rfl rfl 32 (by decide) w__fieldLink_RX12_221_ShellHeapModel_kindNow_I_ (fun _ h9 => h9) rfl (by decide +kernel) rfl rfl (Nat.le_of_ble_eq_true rfl) dX12_take_234 (fun H_260 locs hP hD hS => ?_)
                                obtain ⟨hP, hD⟩ := z_s_1_32 hP hD
                                refine lv_goto (tgt := 342) hx hb dX12_take_237 (by decide) ?_
                                refine z_backQ hQQ ?_
                                obtain ⟨hP9, hD9⟩ := z_sub2 (ws' := [(h0, .inr (12, [.ref a_te, h0_1, h0_2, h0_3, h0_4, h0_5, h0_6, h0_7, h0_8, h0_9, h0_10, h0_11, h0_12, h0_13, h0_14, h0_15, h0_16, h0_17, h0_18, h0_19, h0_20, h0_21, h0_22, h0_23, h0_24, h0_25, h0_26, .ref a_wd, .int mf, .int mfp, .int mst, .int n_h0_next_239, .int 6, .int n_h0_which_240, .int v_4, h0_35, h0_36, h0_37, h0_38, h0_39, h0_40, h0_41, h0_42, h0_43, h0_44, h0_45, h0_46, h0_47, h0_48, h0_49, h0_50, h0_51, h0_52, h0_53, h0_54, h0_55, h0_56, h0_57, h0_58, h0_59, h0_60, h0_61, h0_62, h0_63, h0_64, h0_65, h0_66, h0_67, h0_68, h0_69])), (a_te, .inl (ca_te, 700, .inl fa_te)), (a_wd, .inl (ca_wd, 115, .inl fa_wd))]) hP hD [1, 2, 0] (by decide) rfl
                                have hK9 := hK.sub (tys' := []) [] rfl
                                refine W.widen (k := 0) (n := 0) (Nat.le_of_ble_eq_true rfl) (Nat.le_of_ble_eq_true rfl) ?_
                                exact W.vret hx hb hr (fun t ht hW => ⟨⟨(), rfl, trivial, ⟨n_h0_next_239, 6, n_h0_which_240, v_4, hp_241, (by decide), hF_5, (show mnx.toInt ≤ n_h0_next_239.toInt ∧ n_h0_next_239.toInt ≤ mst.toInt by omega), (show (6 : Int) ≤ 8 * (n_h0_next_239.toInt - mnx.toInt) by omega), (show v_4.toInt ≤ n_h0_next_239.toInt by omega), (show z_tk8 (6 : Int) n_h0_next_239.toInt v_4.toInt from fun h9 => by omega), (show z_tkw n_h0_which_240.toInt (6 : Int) from fun h9 h8 h7 => by omega), (show f_M fa_te mst.toInt mnx.toInt (6 : Int) n_h0_which_240.toInt n_h0_next_239.toInt from f_M_k hrn (by omega) (show f_le _ from ⟨hsm0.2.1, hsm0.2.2⟩) hlr hp_244 (by omega) hp_245 (by omega) (Or.inl ⟨by omega, by first | omega | exact (congrArg Int32.toInt ez_248).symm.trans (by decide), rfl⟩)), by rw [ht]; exact hP9, va_K.moved hW.alike hK9, hD9⟩⟩, hS.F ht⟩) hS.2.2 dX12_take_342
                            · have k_261 : (z_220).toInt > (1 : Int) := z_nle c_246
                              refine lv_iconst (v := 5) hx hb dX12_take_191 (by decide) ?_
                              refine lv_goto (tgt := 234) hx hb dX12_take_192 (by decide) ?_
                              refine va_put (D := (dC, dI)) (ci := 12) (v := .int 5) (ty := .int) (C := RX12) (T := TX12) (N := 70) hx hb hts hiX12 tyX12 tyX12_ok nmX12 hown hK hP hD hS 1 rfl rfl 32 (by decide) w__fieldLink_RX12_221_ShellHeapModel_kindNow_I_ (fun _ h9 => h9) rfl (by decide +kernel) rfl rfl (Nat.le_of_ble_eq_true rfl) dX12_take_234 (fun H_262 locs hP hD hS => ?_)
                              obtain ⟨hP, hD⟩ := z_s_1_32 hP hD
                              refine lv_goto (tgt := 342) hx hb dX12_take_237 (by decide) ?_
                              refine z_backQ hQQ ?_
                              obtain ⟨hP9, hD9⟩ := z_sub2 (ws' := [(h0, .inr (12, [.ref a_te, h0_1, h0_2, h0_3, h0_4, h0_5, h0_6, h0_7, h0_8, h0_9, h0_10, h0_11, h0_12, h0_13, h0_14, h0_15, h0_16, h0_17, h0_18, h0_19, h0_20, h0_21, h0_22, h0_23, h0_24, h0_25, h0_26, .ref a_wd, .int mf, .int mfp, .int mst, .int n_h0_next_239, .int 5, .int n_h0_which_240, .int v_4, h0_35, h0_36, h0_37, h0_38, h0_39, h0_40, h0_41, h0_42, h0_43, h0_44, h0_45, h0_46, h0_47, h0_48, h0_49, h0_50, h0_51, h0_52, h0_53, h0_54, h0_55, h0_56, h0_57, h0_58, h0_59, h0_60, h0_61, h0_62, h0_63, h0_64, h0_65, h0_66, h0_67, h0_68, h0_69])), (a_te, .inl (ca_te, 700, .inl fa_te)), (a_wd, .inl (ca_wd, 115, .inl fa_wd))]) hP hD [1, 2, 0] (by decide) rfl
                              have hK9 := hK.sub (tys' := []) [] rfl
                              refine W.widen (k := 0) (n := 0) (Nat.le_of_ble_eq_true rfl) (Nat.le_of_ble_eq_true rfl) ?_
                              exact W.vret hx hb hr (fun t ht hW => ⟨⟨(), rfl, trivial, ⟨n_h0_next_239, 5, n_h0_which_240, v_4, hp_241, (by decide), hF_5, (show mnx.toInt ≤ n_h0_next_239.toInt ∧ n_h0_next_239.toInt ≤ mst.toInt by omega), (show (5 : Int) ≤ 8 * (n_h0_next_239.toInt - mnx.toInt) by omega), (show v_4.toInt ≤ n_h0_next_239.toInt by omega), (show z_tk8 (5 : Int) n_h0_next_239.toInt v_4.toInt from fun h9 => by omega), (show z_tkw n_h0_which_240.toInt (5 : Int) from fun h9 h8 h7 => by omega), (show f_M fa_te mst.toInt mnx.toInt (5 : Int) n_h0_which_240.toInt n_h0_next_239.toInt from f_M_k hrn (by omega) (show f_le _ from ⟨hsm0.2.1, hsm0.2.2⟩) hlr hp_244 (by omega) hp_245 (by omega) (Or.inr (Or.inr ⟨by omega, rfl⟩))), by rw [ht]; exact hP9, va_K.moved hW.alike hK9, hD9⟩⟩, hS.F ht⟩) hS.2.2 dX12_take_342
                          · have hw_234 : ¬ (v_207.toInt < mst.toInt ∧ 48 ≤ (fa_te v_207.toNatClampNeg).toInt ∧ (fa_te v_207.toNatClampNeg).toInt ≤ 57) := hw_234
                            refine lv_if_eq (tgt := 237) hx hb dX12_take_178 (by decide) (fun _ => ?_) (fun c_263 => absurd (by decide) c_263)
                            refine lv_goto (tgt := 342) hx hb dX12_take_237 (by decide) ?_
                            refine z_backQ hQQ ?_
                            have hP9 := hP
                            have hD9 := hD
                            have hK9 := hK.sub (tys' := []) [] rfl
                            refine W.widen (k := 0) (n := 0) (Nat.le_of_ble_eq_true rfl) (Nat.le_of_ble_eq_true rfl) ?_
                            exact W.vret hx hb hr (fun t ht hW => ⟨⟨(), rfl, trivial, ⟨v_207, 2, (-1), v_4, hF_208, (by decide), hF_5, (show mnx.toInt ≤ v_207.toInt ∧ v_207.toInt ≤ mst.toInt by omega), (show (2 : Int) ≤ 8 * (v_207.toInt - mnx.toInt) by omega), (show v_4.toInt ≤ v_207.toInt by omega), (show z_tk8 (2 : Int) v_207.toInt v_4.toInt from fun h9 => by omega), (show z_tkw (-1 : Int) (2 : Int) from fun h9 h8 h7 => by omega), (show f_M fa_te mst.toInt mnx.toInt (2 : Int) (-1 : Int) v_207.toInt from f_M_w hrn (by omega) (show f_le _ from ⟨hsm0.2.1, hsm0.2.2⟩) hlr (fun h8 h9 => hw_234 ⟨h8, h9.1, h9.2⟩) hw_223.2 (by omega)), by rw [ht]; exact hP9, va_K.moved hW.alike hK9, hD9⟩⟩, hS.F ht⟩) hS.2.2 dX12_take_342
                        · have k_264 : (z_220).toInt > (8 : Int) := z_nle c_228
                          refine lv_iconst (v := 5) hx hb dX12_take_158 (by decide) ?_
                          refine lv_goto (tgt := 163) hx hb dX12_take_159 (by decide) ?_
                          refine va_put (D := (dC, dI)) (ci := 12) (v := .int 5) (ty := .int) (C := RX12) (T := TX12) (N := 70) hx hb hts hiX12 tyX12 tyX12_ok nmX12 hown hK hP hD hS 0 rfl rfl 32 (by decide) w__fieldLink_RX12_221_ShellHeapModel_kindNow_I_ (fun _ h9 => h9) rfl (by decide +kernel) rfl rfl (Nat.le_of_ble_eq_true rfl) dX12_take_163 (fun H_265 locs hP hD hS => ?_)
                          obtain ⟨hP, hD⟩ := z_s_0_32 hP hD
                          refine lv_iload_n hx hb dX12_take_166 rfl (lv_at hl 2 rfl) ?_
                          refine lv_if_eq (tgt := 237) hx hb dX12_take_167 (by decide) (fun c_266 => absurd c_266 (by decide)) (fun _ => ?_)
                          refine lv_aload_n hx hb dX12_take_170 rfl (lv_at hl 1 rfl) ?_
                          refine lv_aload_n hx hb dX12_take_171 rfl (lv_at hl 1 rfl) ?_
                          refine va_get (D := (dC, dI)) (ci := 12) (v := .int v_207) (C := RX12) (T := TX12) (N := 70) hx hb hts hiX12 hown hK hP 0 rfl rfl 31 (by decide) w__fieldLink_RX12_207_ShellHeapModel_next_I_ (fun _ h9 => h9) rfl dX12_take_172 ?_
                          obtain ⟨hPc, hDc⟩ := z_sub2 (ws' := [(h0, .inr (12, [.ref a_te, h0_1, h0_2, h0_3, h0_4, h0_5, h0_6, h0_7, h0_8, h0_9, h0_10, h0_11, h0_12, h0_13, h0_14, h0_15, h0_16, h0_17, h0_18, h0_19, h0_20, h0_21, h0_22, h0_23, h0_24, h0_25, h0_26, .ref a_wd, .int mf, .int mfp, .int mst, .int v_207, .int 5, .int (-1), .int v_4, h0_35, h0_36, h0_37, h0_38, h0_39, h0_40, h0_41, h0_42, h0_43, h0_44, h0_45, h0_46, h0_47, h0_48, h0_49, h0_50, h0_51, h0_52, h0_53, h0_54, h0_55, h0_56, h0_57, h0_58, h0_59, h0_60, h0_61, h0_62, h0_63, h0_64, h0_65, h0_66, h0_67, h0_68, h0_69])), (a_te, .inl (ca_te, 700, .inl fa_te))]) hP hD [0, 1] (by decide) rfl
                          have hKc := hK.sub (tys' := [(ca_te, .int)]) [0] rfl
                          have hFc := va_free (ws := []) (wc := []) (z_D0 _) hS hA [] rfl
                          refine va_calli (va_runV (As := [.int v_207]) (rest := []) ⟨hx, hb, hml, hown, hts⟩ (s_X12_isDigit l dC dI H_265.size h0 v_207 a_te h0_1 h0_2 h0_3 h0_4 h0_5 h0_6 h0_7 h0_8 h0_9 h0_10 h0_11 h0_12 h0_13 h0_14 h0_15 h0_16 h0_17 h0_18 h0_19 h0_20 h0_21 h0_22 h0_23 h0_24 h0_25 h0_26 a_wd mf mfp mst v_207 5 (-1) v_4 h0_35 h0_36 h0_37 h0_38 h0_39 h0_40 h0_41 h0_42 h0_43 h0_44 h0_45 h0_46 h0_47 h0_48 h0_49 h0_50 h0_51 h0_52 h0_53 h0_54 h0_55 h0_56 h0_57 h0_58 h0_59 h0_60 h0_61 h0_62 h0_63 h0_64 h0_65 h0_66 h0_67 h0_68 h0_69 ca_te fa_te hB_mst hF_208 (by decide) hF_5 hF_208 hI_a_te) (cwV 1 hts gw_s_X12_take3_s_X12_isDigit_217 rfl rfl rfl (by decide +kernel) ⟨Nat.le_of_ble_eq_true rfl, Nat.le_of_ble_eq_true rfl⟩) ⟨z_blind, va_recv hKc hPc (ci := 12) (q0 := 0) rfl rfl, z_pre hPc hKc hDc⟩ rfl rfl hl.1 rfl (lv_room (Nat.le_of_ble_eq_true rfl)) dX12_take_175 ⟨Nat.le_of_ble_eq_true rfl, Nat.le_of_ble_eq_true rfl⟩) hS (fun q _ h => hFc q h) hFc (fun r_268 u t H_267 locs ht hvm hw_269 hB hz1 hk1 hS => ?_)
                          replace hP := z_pure hP hk1
                          clear hPc hDc hKc
                          rcases hw_269 with ⟨rfl, hw_269⟩ | ⟨rfl, hw_269⟩
                          · have hw_269 : (v_207.toInt < mst.toInt ∧ 48 ≤ (fa_te v_207.toNatClampNeg).toInt ∧ (fa_te v_207.toNatClampNeg).toInt ≤ 57) := hw_269
                            refine lv_if_eq (tgt := 237) hx hb dX12_take_178 (by decide) (fun c_270 => absurd c_270 (by decide)) (fun _ => ?_)
                            refine lv_aload_n hx hb dX12_take_181 rfl (lv_at hl 1 rfl) ?_
                            obtain ⟨hPc, hDc, hFc⟩ := z_sub3 (ws' := [(h0, .inr (12, [.ref a_te, h0_1, h0_2, h0_3, h0_4, h0_5, h0_6, h0_7, h0_8, h0_9, h0_10, h0_11, h0_12, h0_13, h0_14, h0_15, h0_16, h0_17, h0_18, h0_19, h0_20, h0_21, h0_22, h0_23, h0_24, h0_25, h0_26, .ref a_wd, .int mf, .int mfp, .int mst, .int v_207, .int 5, .int (-1), .int v_4, h0_35, h0_36, h0_37, h0_38, h0_39, h0_40, h0_41, h0_42, h0_43, h0_44, h0_45, h0_46, h0_47, h0_48, h0_49, h0_50, h0_51, h0_52, h0_53, h0_54, h0_55, h0_56, h0_57, h0_58, h0_59, h0_60, h0_61, h0_62, h0_63, h0_64, h0_65, h0_66, h0_67, h0_68, h0_69])), (a_te, .inl (ca_te, 700, .inl fa_te))]) hP hD hS hA [0, 1] (by decide) rfl
                            have hKc := hK.sub (tys' := [(ca_te, .int)]) [0] rfl
                            refine va_callv (va_runV (As := []) (rest := []) ⟨hx, hb, hml, hown, hts⟩ (s_X12_digits3 l dC dI H_267.size h0 a_te h0_1 h0_2 h0_3 h0_4 h0_5 h0_6 h0_7 h0_8 h0_9 h0_10 h0_11 h0_12 h0_13 h0_14 h0_15 h0_16 h0_17 h0_18 h0_19 h0_20 h0_21 h0_22 h0_23 h0_24 h0_25 h0_26 a_wd mf mfp mst v_207 5 (-1) v_4 h0_35 h0_36 h0_37 h0_38 h0_39 h0_40 h0_41 h0_42 h0_43 h0_44 h0_45 h0_46 h0_47 h0_48 h0_49 h0_50 h0_51 h0_52 h0_53 h0_54 h0_55 h0_56 h0_57 h0_58 h0_59 h0_60 h0_61 h0_62 h0_63 h0_64 h0_65 h0_66 h0_67 h0_68 h0_69 ca_te fa_te hB_mst hF_208 (by decide) hF_5 hI_a_te (by first | omega | decide)) (cwV 0 hts gw_s_X12_take3_s_X12_digits3_230 rfl rfl rfl (by decide +kernel) ⟨Nat.le_of_ble_eq_true rfl, Nat.le_of_ble_eq_true rfl⟩) ⟨z_blind, va_recv hKc hPc (ci := 12) (q0 := 0) rfl rfl, z_pre hPc hKc hDc⟩ rfl rfl hl.1 rfl (lv_room (Nat.le_of_ble_eq_true rfl)) dX12_take_182 ⟨Nat.le_of_ble_eq_true rfl, Nat.le_of_ble_eq_true rfl⟩) hS (fun q _ h => hFc q h) hFc (fun u t H_271 locs ht hvm hw_273 hB hz1 hk1 hS => ?_)
                            obtain ⟨n_h0_next_274, n_h0_which_275, hp_276, hp_277, hp_278, hp_279, hp_280, hP1, hK1, hD1⟩ := hB
                            rw [ht] at hP1
                            have hK1 := va_K.moved hvm.symm hK1
                            obtain ⟨hP, hD⟩ := z_ap_1 (va_join (wr := [(a_wd, .inl (ca_wd, 115, .inl fa_wd))]) hP hD [0, 1] [2] rfl rfl (by decide) (by decide) hk1 hFc hP1 hD1)
                            have hp_278 : v_207.toInt + 1 ≤ n_h0_next_274.toInt ∧ n_h0_next_274.toInt ≤ mst.toInt := hp_278
                            have hp_279 : f_run f_di fa_te mst.toInt v_207.toInt n_h0_next_274.toInt := hp_279
                            have hp_280 : f_v n_h0_which_275.toInt = f_v (f_nm fa_te v_207.toInt n_h0_next_274.toInt) := hp_280
                            clear hPc hDc hKc
                            refine lv_aload_n hx hb dX12_take_185 rfl (lv_at hl 1 rfl) ?_
                            refine lv_iload_n hx hb dX12_take_186 rfl (lv_at hl 0 rfl) ?_
                            refine lv_iconst (v := 1) hx hb dX12_take_187 (by decide) ?_
                            refine lv_icmp_le (tgt := 195) hx hb dX12_take_188 (by decide) (fun c_281 => ?_) (fun c_281 => ?_)
                            · exfalso
                              have k_282 : (z_220).toInt ≤ (1 : Int) := z_le c_281
                              omega
                            refine lv_iconst (v := 5) hx hb dX12_take_191 (by decide) ?_
                            refine lv_goto (tgt := 234) hx hb dX12_take_192 (by decide) ?_
                            refine va_put (D := (dC, dI)) (ci := 12) (v := .int 5) (ty := .int) (C := RX12) (T := TX12) (N := 70) hx hb hts hiX12 tyX12 tyX12_ok nmX12 hown hK hP hD hS 1 rfl rfl 32 (by decide) w__fieldLink_RX12_221_ShellHeapModel_kindNow_I_ (fun _ h9 => h9) rfl (by decide +kernel) rfl rfl (Nat.le_of_ble_eq_true rfl) dX12_take_234 (fun H_283 locs hP hD hS => ?_)
                            obtain ⟨hP, hD⟩ := z_s_1_32 hP hD
                            refine lv_goto (tgt := 342) hx hb dX12_take_237 (by decide) ?_
                            refine z_backQ hQQ ?_
                            obtain ⟨hP9, hD9⟩ := z_sub2 (ws' := [(h0, .inr (12, [.ref a_te, h0_1, h0_2, h0_3, h0_4, h0_5, h0_6, h0_7, h0_8, h0_9, h0_10, h0_11, h0_12, h0_13, h0_14, h0_15, h0_16, h0_17, h0_18, h0_19, h0_20, h0_21, h0_22, h0_23, h0_24, h0_25, h0_26, .ref a_wd, .int mf, .int mfp, .int mst, .int n_h0_next_274, .int 5, .int n_h0_which_275, .int v_4, h0_35, h0_36, h0_37, h0_38, h0_39, h0_40, h0_41, h0_42, h0_43, h0_44, h0_45, h0_46, h0_47, h0_48, h0_49, h0_50, h0_51, h0_52, h0_53, h0_54, h0_55, h0_56, h0_57, h0_58, h0_59, h0_60, h0_61, h0_62, h0_63, h0_64, h0_65, h0_66, h0_67, h0_68, h0_69])), (a_te, .inl (ca_te, 700, .inl fa_te)), (a_wd, .inl (ca_wd, 115, .inl fa_wd))]) hP hD [1, 2, 0] (by decide) rfl
                            have hK9 := hK.sub (tys' := []) [] rfl
                            refine W.widen (k := 0) (n := 0) (Nat.le_of_ble_eq_true rfl) (Nat.le_of_ble_eq_true rfl) ?_
                            exact W.vret hx hb hr (fun t ht hW => ⟨⟨(), rfl, trivial, ⟨n_h0_next_274, 5, n_h0_which_275, v_4, hp_276, (by decide), hF_5, (show mnx.toInt ≤ n_h0_next_274.toInt ∧ n_h0_next_274.toInt ≤ mst.toInt by omega), (show (5 : Int) ≤ 8 * (n_h0_next_274.toInt - mnx.toInt) by omega), (show v_4.toInt ≤ n_h0_next_274.toInt by omega), (show z_tk8 (5 : Int) n_h0_next_274.toInt v_4.toInt from fun h9 => by omega), (show z_tkw n_h0_which_275.toInt (5 : Int) from fun h9 h8 h7 => by omega), (show f_M fa_te mst.toInt mnx.toInt (5 : Int) n_h0_which_275.toInt n_h0_next_274.toInt from f_M_k hrn (by omega) (show f_le _ from ⟨hsm0.2.1, hsm0.2.2⟩) hlr hp_279 (by omega) hp_280 (by omega) (Or.inr (Or.inr ⟨by omega, rfl⟩))), by rw [ht]; exact hP9, va_K.moved hW.alike hK9, hD9⟩⟩, hS.F ht⟩) hS.2.2 dX12_take_342
                          · have hw_269 : ¬ (v_207.toInt < mst.toInt ∧ 48 ≤ (fa_te v_207.toNatClampNeg).toInt ∧ (fa_te v_207.toNatClampNeg).toInt ≤ 57) := hw_269
                            refine lv_if_eq (tgt := 237) hx hb dX12_take_178 (by decide) (fun _ => ?_) (fun c_284 => absurd (by decide) c_284)
                            refine lv_goto (tgt := 342) hx hb dX12_take_237 (by decide) ?_
                            refine z_backQ hQQ ?_
                            have hP9 := hP
                            have hD9 := hD
                            have hK9 := hK.sub (tys' := []) [] rfl
                            refine W.widen (k := 0) (n := 0) (Nat.le_of_ble_eq_true rfl) (Nat.le_of_ble_eq_true rfl) ?_
                            exact W.vret hx hb hr (fun t ht hW => ⟨⟨(), rfl, trivial, ⟨v_207, 5, (-1), v_4, hF_208, (by decide), hF_5, (show mnx.toInt ≤ v_207.toInt ∧ v_207.toInt ≤ mst.toInt by omega), (show (5 : Int) ≤ 8 * (v_207.toInt - mnx.toInt) by omega), (show v_4.toInt ≤ v_207.toInt by omega), (show z_tk8 (5 : Int) v_207.toInt v_4.toInt from fun h9 => by omega), (show z_tkw (-1 : Int) (5 : Int) from fun h9 h8 h7 => by omega), (show f_M fa_te mst.toInt mnx.toInt (5 : Int) (-1 : Int) v_207.toInt from f_M_w hrn (by omega) (show f_le _ from ⟨hsm0.2.1, hsm0.2.2⟩) hlr (fun h8 h9 => hw_269 ⟨h8, h9.1, h9.2⟩) hw_223.2 (by omega)), by rw [ht]; exact hP9, va_K.moved hW.alike hK9, hD9⟩⟩, hS.F ht⟩) hS.2.2 dX12_take_342
                      · have k_285 : (r_222).toInt ≥ (0 : Int) := z_nlt c_225
                        refine lv_iconst (v := 1) hx hb dX12_take_148 (by decide) ?_
                        refine lv_goto (tgt := 163) hx hb dX12_take_149 (by decide) ?_
                        refine va_put (D := (dC, dI)) (ci := 12) (v := .int 1) (ty := .int) (C := RX12) (T := TX12) (N := 70) hx hb hts hiX12 tyX12 tyX12_ok nmX12 hown hK hP hD hS 0 rfl rfl 32 (by decide) w__fieldLink_RX12_221_ShellHeapModel_kindNow_I_ (fun _ h9 => h9) rfl (by decide +kernel) rfl rfl (Nat.le_of_ble_eq_true rfl) dX12_take_163 (fun H_286 locs hP hD hS => ?_)
                        obtain ⟨hP, hD⟩ := z_s_0_32 hP hD
                        refine lv_iload_n hx hb dX12_take_166 rfl (lv_at hl 2 rfl) ?_
                        refine lv_if_eq (tgt := 237) hx hb dX12_take_167 (by decide) (fun c_287 => absurd c_287 (by decide)) (fun _ => ?_)
                        refine lv_aload_n hx hb dX12_take_170 rfl (lv_at hl 1 rfl) ?_
                        refine lv_aload_n hx hb dX12_take_171 rfl (lv_at hl 1 rfl) ?_
                        refine va_get (D := (dC, dI)) (ci := 12) (v := .int v_207) (C := RX12) (T := TX12) (N := 70) hx hb hts hiX12 hown hK hP 0 rfl rfl 31 (by decide) w__fieldLink_RX12_207_ShellHeapModel_next_I_ (fun _ h9 => h9) rfl dX12_take_172 ?_
                        obtain ⟨hPc, hDc⟩ := z_sub2 (ws' := [(h0, .inr (12, [.ref a_te, h0_1, h0_2, h0_3, h0_4, h0_5, h0_6, h0_7, h0_8, h0_9, h0_10, h0_11, h0_12, h0_13, h0_14, h0_15, h0_16, h0_17, h0_18, h0_19, h0_20, h0_21, h0_22, h0_23, h0_24, h0_25, h0_26, .ref a_wd, .int mf, .int mfp, .int mst, .int v_207, .int 1, .int r_222, .int v_4, h0_35, h0_36, h0_37, h0_38, h0_39, h0_40, h0_41, h0_42, h0_43, h0_44, h0_45, h0_46, h0_47, h0_48, h0_49, h0_50, h0_51, h0_52, h0_53, h0_54, h0_55, h0_56, h0_57, h0_58, h0_59, h0_60, h0_61, h0_62, h0_63, h0_64, h0_65, h0_66, h0_67, h0_68, h0_69])), (a_te, .inl (ca_te, 700, .inl fa_te))]) hP hD [0, 1] (by decide) rfl
                        have hKc := hK.sub (tys' := [(ca_te, .int)]) [0] rfl
                        have hFc := va_free (ws := []) (wc := []) (z_D0 _) hS hA [] rfl
                        refine va_calli (va_runV (As := [.int v_207]) (rest := []) ⟨hx, hb, hml, hown, hts⟩ (s_X12_isDigit l dC dI H_286.size h0 v_207 a_te h0_1 h0_2 h0_3 h0_4 h0_5 h0_6 h0_7 h0_8 h0_9 h0_10 h0_11 h0_12 h0_13 h0_14 h0_15 h0_16 h0_17 h0_18 h0_19 h0_20 h0_21 h0_22 h0_23 h0_24 h0_25 h0_26 a_wd mf mfp mst v_207 1 r_222 v_4 h0_35 h0_36 h0_37 h0_38 h0_39 h0_40 h0_41 h0_42 h0_43 h0_44 h0_45 h0_46 h0_47 h0_48 h0_49 h0_50 h0_51 h0_52 h0_53 h0_54 h0_55 h0_56 h0_57 h0_58 h0_59 h0_60 h0_61 h0_62 h0_63 h0_64 h0_65 h0_66 h0_67 h0_68 h0_69 ca_te fa_te hB_mst hF_208 (by decide) hF_5 hF_208 hI_a_te) (cwV 1 hts gw_s_X12_take3_s_X12_isDigit_217 rfl rfl rfl (by decide +kernel) ⟨Nat.le_of_ble_eq_true rfl, Nat.le_of_ble_eq_true rfl⟩) ⟨z_blind, va_recv hKc hPc (ci := 12) (q0 := 0) rfl rfl, z_pre hPc hKc hDc⟩ rfl rfl hl.1 rfl (lv_room (Nat.le_of_ble_eq_true rfl)) dX12_take_175 ⟨Nat.le_of_ble_eq_true rfl, Nat.le_of_ble_eq_true rfl⟩) hS (fun q _ h => hFc q h) hFc (fun r_289 u t H_288 locs ht hvm hw_290 hB hz1 hk1 hS => ?_)
                        replace hP := z_pure hP hk1
                        clear hPc hDc hKc
                        rcases hw_290 with ⟨rfl, hw_290⟩ | ⟨rfl, hw_290⟩
                        · have hw_290 : (v_207.toInt < mst.toInt ∧ 48 ≤ (fa_te v_207.toNatClampNeg).toInt ∧ (fa_te v_207.toNatClampNeg).toInt ≤ 57) := hw_290
                          refine lv_if_eq (tgt := 237) hx hb dX12_take_178 (by decide) (fun c_291 => absurd c_291 (by decide)) (fun _ => ?_)
                          refine lv_aload_n hx hb dX12_take_181 rfl (lv_at hl 1 rfl) ?_
                          obtain ⟨hPc, hDc, hFc⟩ := z_sub3 (ws' := [(h0, .inr (12, [.ref a_te, h0_1, h0_2, h0_3, h0_4, h0_5, h0_6, h0_7, h0_8, h0_9, h0_10, h0_11, h0_12, h0_13, h0_14, h0_15, h0_16, h0_17, h0_18, h0_19, h0_20, h0_21, h0_22, h0_23, h0_24, h0_25, h0_26, .ref a_wd, .int mf, .int mfp, .int mst, .int v_207, .int 1, .int r_222, .int v_4, h0_35, h0_36, h0_37, h0_38, h0_39, h0_40, h0_41, h0_42, h0_43, h0_44, h0_45, h0_46, h0_47, h0_48, h0_49, h0_50, h0_51, h0_52, h0_53, h0_54, h0_55, h0_56, h0_57, h0_58, h0_59, h0_60, h0_61, h0_62, h0_63, h0_64, h0_65, h0_66, h0_67, h0_68, h0_69])), (a_te, .inl (ca_te, 700, .inl fa_te))]) hP hD hS hA [0, 1] (by decide) rfl
                          have hKc := hK.sub (tys' := [(ca_te, .int)]) [0] rfl
                          refine va_callv (va_runV (As := []) (rest := []) ⟨hx, hb, hml, hown, hts⟩ (s_X12_digits3 l dC dI H_288.size h0 a_te h0_1 h0_2 h0_3 h0_4 h0_5 h0_6 h0_7 h0_8 h0_9 h0_10 h0_11 h0_12 h0_13 h0_14 h0_15 h0_16 h0_17 h0_18 h0_19 h0_20 h0_21 h0_22 h0_23 h0_24 h0_25 h0_26 a_wd mf mfp mst v_207 1 r_222 v_4 h0_35 h0_36 h0_37 h0_38 h0_39 h0_40 h0_41 h0_42 h0_43 h0_44 h0_45 h0_46 h0_47 h0_48 h0_49 h0_50 h0_51 h0_52 h0_53 h0_54 h0_55 h0_56 h0_57 h0_58 h0_59 h0_60 h0_61 h0_62 h0_63 h0_64 h0_65 h0_66 h0_67 h0_68 h0_69 ca_te fa_te hB_mst hF_208 (by decide) hF_5 hI_a_te (by first | omega | decide)) (cwV 0 hts gw_s_X12_take3_s_X12_digits3_230 rfl rfl rfl (by decide +kernel) ⟨Nat.le_of_ble_eq_true rfl, Nat.le_of_ble_eq_true rfl⟩) ⟨z_blind, va_recv hKc hPc (ci := 12) (q0 := 0) rfl rfl, z_pre hPc hKc hDc⟩ rfl rfl hl.1 rfl (lv_room (Nat.le_of_ble_eq_true rfl)) dX12_take_182 ⟨Nat.le_of_ble_eq_true rfl, Nat.le_of_ble_eq_true rfl⟩) hS (fun q _ h => hFc q h) hFc (fun u t H_292 locs ht hvm hw_294 hB hz1 hk1 hS => ?_)
                          obtain ⟨n_h0_next_295, n_h0_which_296, hp_297, hp_298, hp_299, hp_300, hp_301, hP1, hK1, hD1⟩ := hB
                          rw [ht] at hP1
                          have hK1 := va_K.moved hvm.symm hK1
                          obtain ⟨hP, hD⟩ := z_ap_1 (va_join (wr := [(a_wd, .inl (ca_wd, 115, .inl fa_wd))]) hP hD [0, 1] [2] rfl rfl (by decide) (by decide) hk1 hFc hP1 hD1)
                          have hp_299 : v_207.toInt + 1 ≤ n_h0_next_295.toInt ∧ n_h0_next_295.toInt ≤ mst.toInt := hp_299
                          have hp_300 : f_run f_di fa_te mst.toInt v_207.toInt n_h0_next_295.toInt := hp_300
                          have hp_301 : f_v n_h0_which_296.toInt = f_v (f_nm fa_te v_207.toInt n_h0_next_295.toInt) := hp_301
                          clear hPc hDc hKc
                          refine lv_aload_n hx hb dX12_take_185 rfl (lv_at hl 1 rfl) ?_
                          refine lv_iload_n hx hb dX12_take_186 rfl (lv_at hl 0 rfl) ?_
                          refine lv_iconst (v := 1) hx hb dX12_take_187 (by decide) ?_
                          refine lv_icmp_le (tgt := 195) hx hb dX12_take_188 (by decide) (fun c_302 => ?_) (fun c_302 => ?_)
                          · have k_303 : (z_220).toInt ≤ (1 : Int) := z_le c_302
                            refine lv_aload_n hx hb dX12_take_195 rfl (lv_at hl 1 rfl) ?_
                            refine va_get (D := (dC, dI)) (ci := 12) (v := .ref a_te) (C := RX12) (T := TX12) (N := 70) hx hb hts hiX12 hown hK hP 1 rfl rfl 0 (by decide) w__fieldLink_RX12_7_ShellHeapModel_tape_I_ (fun _ h9 => h9) rfl dX12_take_196 ?_
                            refine lv_aload_n hx hb dX12_take_199 rfl (lv_at hl 1 rfl) ?_
                            refine va_get (D := (dC, dI)) (ci := 12) (v := .int v_4) (C := RX12) (T := TX12) (N := 70) hx hb hts hiX12 hown hK hP 1 rfl rfl 34 (by decide) w__fieldLink_RX12_201_ShellHeapModel_place_I_ (fun _ h9 => h9) rfl dX12_take_200 ?_
                            refine va_iald hx hb hK hP 2 0 rfl rfl (z_vpin (by omega) (by omega)) dX12_take_203 ?_
                            refine lv_topi (fun z_304 ez_304 => ?_)
                            have kz_304 : ((0 : Int) ≤ (z_304).toInt ∧ (z_304).toInt ≤ (255 : Int)) := by rw [ez_304]; exact hI_a_te _
                            have kxz_304 : (z_304).toInt = (fa_te (v_4 : Int32).toNatClampNeg).toInt := by rw [ez_304]
                            have kwz_304 : (z_304).toInt = (fa_te (v_4 : Int32).toInt.toNat).toInt := by rw [ez_304]; rfl
                            refine lv_bipush (v := 107) hx hb dX12_take_204 (by decide) ?_
                            refine lv_icmp_ne (tgt := 214) hx hb dX12_take_206 (by decide) (fun c_305 => ?_) (fun c_305 => ?_)
                            · have k_306 : (z_304).toInt ≠ (107 : Int) := z_ne c_305
                              refine lv_aload_n hx hb dX12_take_214 rfl (lv_at hl 1 rfl) ?_
                              refine va_get (D := (dC, dI)) (ci := 12) (v := .ref a_te) (C := RX12) (T := TX12) (N := 70) hx hb hts hiX12 hown hK hP 1 rfl rfl 0 (by decide) w__fieldLink_RX12_7_ShellHeapModel_tape_I_ (fun _ h9 => h9) rfl dX12_take_215 ?_
                              refine lv_aload_n hx hb dX12_take_218 rfl (lv_at hl 1 rfl) ?_
                              refine va_get (D := (dC, dI)) (ci := 12) (v := .int v_4) (C := RX12) (T := TX12) (N := 70) hx hb hts hiX12 hown hK hP 1 rfl rfl 34 (by decide) w__fieldLink_RX12_201_ShellHeapModel_place_I_ (fun _ h9 => h9) rfl dX12_take_219 ?_
                              refine va_iald hx hb hK hP 2 0 rfl rfl (z_vpin (by omega) (by omega)) dX12_take_222 ?_
                              refine lv_topi (fun z_307 ez_307 => ?_)
                              have kz_307 : ((0 : Int) ≤ (z_307).toInt ∧ (z_307).toInt ≤ (255 : Int)) := by rw [ez_307]; exact hI_a_te _
                              have kxz_307 : (z_307).toInt = (fa_te (v_4 : Int32).toNatClampNeg).toInt := by rw [ez_307]
                              have kwz_307 : (z_307).toInt = (fa_te (v_4 : Int32).toInt.toNat).toInt := by rw [ez_307]; rfl
                              refine lv_bipush (v := 115) hx hb dX12_take_223 (by decide) ?_
                              refine lv_icmp_ne (tgt := 233) hx hb dX12_take_225 (by decide) (fun c_308 => ?_) (fun c_308 => ?_)
                              · have k_309 : (z_307).toInt ≠ (115 : Int) := z_ne c_308
                                refine lv_iconst (v := 5) hx hb dX12_take_233 (by decide) ?_
                                refine va_put (D := (dC, dI)) (ci := 12) (v := .int 5) (ty := .int) (C := RX12) (T := TX12) (N := 70) hx hb hts hiX12 tyX12 tyX12_ok nmX12 hown hK hP hD hS 1 rfl rfl 32 (by decide) w__fieldLink_RX12_221_ShellHeapModel_kindNow_I_ (fun _ h9 => h9) rfl (by decide +kernel) rfl rfl (Nat.le_of_ble_eq_true rfl) dX12_take_234 (fun H_310 locs hP hD hS => ?_)
                                obtain ⟨hP, hD⟩ := z_s_1_32 hP hD
                                refine lv_goto (tgt := 342) hx hb dX12_take_237 (by decide) ?_
                                refine z_backQ hQQ ?_
                                obtain ⟨hP9, hD9⟩ := z_sub2 (ws' := [(h0, .inr (12, [.ref a_te, h0_1, h0_2, h0_3, h0_4, h0_5, h0_6, h0_7, h0_8, h0_9, h0_10, h0_11, h0_12, h0_13, h0_14, h0_15, h0_16, h0_17, h0_18, h0_19, h0_20, h0_21, h0_22, h0_23, h0_24, h0_25, h0_26, .ref a_wd, .int mf, .int mfp, .int mst, .int n_h0_next_295, .int 5, .int n_h0_which_296, .int v_4, h0_35, h0_36, h0_37, h0_38, h0_39, h0_40, h0_41, h0_42, h0_43, h0_44, h0_45, h0_46, h0_47, h0_48, h0_49, h0_50, h0_51, h0_52, h0_53, h0_54, h0_55, h0_56, h0_57, h0_58, h0_59, h0_60, h0_61, h0_62, h0_63, h0_64, h0_65, h0_66, h0_67, h0_68, h0_69])), (a_te, .inl (ca_te, 700, .inl fa_te)), (a_wd, .inl (ca_wd, 115, .inl fa_wd))]) hP hD [1, 2, 0] (by decide) rfl
                                have hK9 := hK.sub (tys' := []) [] rfl
                                refine W.widen (k := 0) (n := 0) (Nat.le_of_ble_eq_true rfl) (Nat.le_of_ble_eq_true rfl) ?_
                                exact W.vret hx hb hr (fun t ht hW => ⟨⟨(), rfl, trivial, ⟨n_h0_next_295, 5, n_h0_which_296, v_4, hp_297, (by decide), hF_5, (show mnx.toInt ≤ n_h0_next_295.toInt ∧ n_h0_next_295.toInt ≤ mst.toInt by omega), (show (5 : Int) ≤ 8 * (n_h0_next_295.toInt - mnx.toInt) by omega), (show v_4.toInt ≤ n_h0_next_295.toInt by omega), (show z_tk8 (5 : Int) n_h0_next_295.toInt v_4.toInt from fun h9 => by omega), (show z_tkw n_h0_which_296.toInt (5 : Int) from fun h9 h8 h7 => by omega), (show f_M fa_te mst.toInt mnx.toInt (5 : Int) n_h0_which_296.toInt n_h0_next_295.toInt from f_M_k hrn (by omega) (show f_le _ from ⟨hsm0.2.1, hsm0.2.2⟩) hlr hp_300 (by omega) hp_301 (by omega) (Or.inr (Or.inr ⟨by omega, rfl⟩))), by rw [ht]; exact hP9, va_K.moved hW.alike hK9, hD9⟩⟩, hS.F ht⟩) hS.2.2 dX12_take_342
                              · have k_311 : (z_307).toInt = (115 : Int) := z_eq c_308
                                obtain rfl : z_307 = 115 := z_eq' (show (z_307).toInt = (115 : Int) by omega)
                                refine lv_bipush (v := 7) hx hb dX12_take_228 (by decide) ?_
                                refine lv_goto (tgt := 234) hx hb dX12_take_230 (by decide) ?_
                                refine va_put (D := (dC, dI)) (ci := 12) (v := .int 7) (ty := .int) (C := RX12) (T := TX12) (N := 70) hx hb hts hiX12 tyX12 tyX12_ok nmX12 hown hK hP hD hS 1 rfl rfl 32 (by decide) w__fieldLink_RX12_221_ShellHeapModel_kindNow_I_ (fun _ h9 => h9) rfl (by decide +kernel) rfl rfl (Nat.le_of_ble_eq_true rfl) dX12_take_234 (fun H_313 locs hP hD hS => ?_)
                                obtain ⟨hP, hD⟩ := z_s_1_32 hP hD
                                refine lv_goto (tgt := 342) hx hb dX12_take_237 (by decide) ?_
                                refine z_backQ hQQ ?_
                                obtain ⟨hP9, hD9⟩ := z_sub2 (ws' := [(h0, .inr (12, [.ref a_te, h0_1, h0_2, h0_3, h0_4, h0_5, h0_6, h0_7, h0_8, h0_9, h0_10, h0_11, h0_12, h0_13, h0_14, h0_15, h0_16, h0_17, h0_18, h0_19, h0_20, h0_21, h0_22, h0_23, h0_24, h0_25, h0_26, .ref a_wd, .int mf, .int mfp, .int mst, .int n_h0_next_295, .int 7, .int n_h0_which_296, .int v_4, h0_35, h0_36, h0_37, h0_38, h0_39, h0_40, h0_41, h0_42, h0_43, h0_44, h0_45, h0_46, h0_47, h0_48, h0_49, h0_50, h0_51, h0_52, h0_53, h0_54, h0_55, h0_56, h0_57, h0_58, h0_59, h0_60, h0_61, h0_62, h0_63, h0_64, h0_65, h0_66, h0_67, h0_68, h0_69])), (a_te, .inl (ca_te, 700, .inl fa_te)), (a_wd, .inl (ca_wd, 115, .inl fa_wd))]) hP hD [1, 2, 0] (by decide) rfl
                                have hK9 := hK.sub (tys' := []) [] rfl
                                refine W.widen (k := 0) (n := 0) (Nat.le_of_ble_eq_true rfl) (Nat.le_of_ble_eq_true rfl) ?_
                                exact W.vret hx hb hr (fun t ht hW => ⟨⟨(), rfl, trivial, ⟨n_h0_next_295, 7, n_h0_which_296, v_4, hp_297, (by decide), hF_5, (show mnx.toInt ≤ n_h0_next_295.toInt ∧ n_h0_next_295.toInt ≤ mst.toInt by omega), (show (7 : Int) ≤ 8 * (n_h0_next_295.toInt - mnx.toInt) by omega), (show v_4.toInt ≤ n_h0_next_295.toInt by omega), (show z_tk8 (7 : Int) n_h0_next_295.toInt v_4.toInt from fun h9 => by omega), (show z_tkw n_h0_which_296.toInt (7 : Int) from fun h9 h8 h7 => by omega), (show f_M fa_te mst.toInt mnx.toInt (7 : Int) n_h0_which_296.toInt n_h0_next_295.toInt from f_M_k hrn (by omega) (show f_le _ from ⟨hsm0.2.1, hsm0.2.2⟩) hlr hp_300 (by omega) hp_301 (by omega) (Or.inr (Or.inl ⟨by omega, by first | omega | exact (congrArg Int32.toInt ez_307).symm.trans (by decide), rfl⟩))), by rw [ht]; exact hP9, va_K.moved hW.alike hK9, hD9⟩⟩, hS.F ht⟩) hS.2.2 dX12_take_342
                            · have k_314 : (z_304).toInt = (107 : Int) := z_eq c_305
                              obtain rfl : z_304 = 107 := z_eq' (show (z_304).toInt = (107 : Int) by omega)
                              refine lv_bipush (v := 6) hx hb dX12_take_209 (by decide) ?_
                              refine lv_goto (tgt := 234) hx hb dX12_take_211 (by decide) ?_
                              refine va_put (D := (dC, dI)) (ci := 12) (v := .int 6) (ty := .int) (C := RX12) (T := TX12) (N := 70) hx hb hts hiX12 tyX12 tyX12_ok nmX12 hown hK hP hD hS 1 rfl rfl 32 (by decide) w__fieldLink_RX12_221_ShellHeapModel_kindNow_I_ (fun _ h9 => h9) rfl (by decide +kernel) rfl rfl (Nat.le_of_ble_eq_true rfl) dX12_take_234 (fun H_316 locs hP hD hS => ?_)
                              obtain ⟨hP, hD⟩ := z_s_1_32 hP hD
                              refine lv_goto (tgt := 342) hx hb dX12_take_237 (by decide) ?_
                              refine z_backQ hQQ ?_
                              obtain ⟨hP9, hD9⟩ := z_sub2 (ws' := [(h0, .inr (12, [.ref a_te, h0_1, h0_2, h0_3, h0_4, h0_5, h0_6, h0_7, h0_8, h0_9, h0_10, h0_11, h0_12, h0_13, h0_14, h0_15, h0_16, h0_17, h0_18, h0_19, h0_20, h0_21, h0_22, h0_23, h0_24, h0_25, h0_26, .ref a_wd, .int mf, .int mfp, .int mst, .int n_h0_next_295, .int 6, .int n_h0_which_296, .int v_4, h0_35, h0_36, h0_37, h0_38, h0_39, h0_40, h0_41, h0_42, h0_43, h0_44, h0_45, h0_46, h0_47, h0_48, h0_49, h0_50, h0_51, h0_52, h0_53, h0_54, h0_55, h0_56, h0_57, h0_58, h0_59, h0_60, h0_61, h0_62, h0_63, h0_64, h0_65, h0_66, h0_67, h0_68, h0_69])), (a_te, .inl (ca_te, 700, .inl fa_te)), (a_wd, .inl (ca_wd, 115, .inl fa_wd))]) hP hD [1, 2, 0] (by decide) rfl
                              have hK9 := hK.sub (tys' := []) [] rfl
                              refine W.widen (k := 0) (n := 0) (Nat.le_of_ble_eq_true rfl) (Nat.le_of_ble_eq_true rfl) ?_
                              exact W.vret hx hb hr (fun t ht hW => ⟨⟨(), rfl, trivial, ⟨n_h0_next_295, 6, n_h0_which_296, v_4, hp_297, (by decide), hF_5, (show mnx.toInt ≤ n_h0_next_295.toInt ∧ n_h0_next_295.toInt ≤ mst.toInt by omega), (show (6 : Int) ≤ 8 * (n_h0_next_295.toInt - mnx.toInt) by omega), (show v_4.toInt ≤ n_h0_next_295.toInt by omega), (show z_tk8 (6 : Int) n_h0_next_295.toInt v_4.toInt from fun h9 => by omega), (show z_tkw n_h0_which_296.toInt (6 : Int) from fun h9 h8 h7 => by omega), (show f_M fa_te mst.toInt mnx.toInt (6 : Int) n_h0_which_296.toInt n_h0_next_295.toInt from f_M_k hrn (by omega) (show f_le _ from ⟨hsm0.2.1, hsm0.2.2⟩) hlr hp_300 (by omega) hp_301 (by omega) (Or.inl ⟨by omega, by first | omega | exact (congrArg Int32.toInt ez_304).symm.trans (by decide), rfl⟩)), by rw [ht]; exact hP9, va_K.moved hW.alike hK9, hD9⟩⟩, hS.F ht⟩) hS.2.2 dX12_take_342
                          · have k_317 : (z_220).toInt > (1 : Int) := z_nle c_302
                            refine lv_iconst (v := 5) hx hb dX12_take_191 (by decide) ?_
                            refine lv_goto (tgt := 234) hx hb dX12_take_192 (by decide) ?_
                            refine va_put (D := (dC, dI)) (ci := 12) (v := .int 5) (ty := .int) (C := RX12) (T := TX12) (N := 70) hx hb hts hiX12 tyX12 tyX12_ok nmX12 hown hK hP hD hS 1 rfl rfl 32 (by decide) w__fieldLink_RX12_221_ShellHeapModel_kindNow_I_ (fun _ h9 => h9) rfl (by decide +kernel) rfl rfl (Nat.le_of_ble_eq_true rfl) dX12_take_234 (fun H_318 locs hP hD hS => ?_)
                            obtain ⟨hP, hD⟩ := z_s_1_32 hP hD
                            refine lv_goto (tgt := 342) hx hb dX12_take_237 (by decide) ?_
                            refine z_backQ hQQ ?_
                            obtain ⟨hP9, hD9⟩ := z_sub2 (ws' := [(h0, .inr (12, [.ref a_te, h0_1, h0_2, h0_3, h0_4, h0_5, h0_6, h0_7, h0_8, h0_9, h0_10, h0_11, h0_12, h0_13, h0_14, h0_15, h0_16, h0_17, h0_18, h0_19, h0_20, h0_21, h0_22, h0_23, h0_24, h0_25, h0_26, .ref a_wd, .int mf, .int mfp, .int mst, .int n_h0_next_295, .int 5, .int n_h0_which_296, .int v_4, h0_35, h0_36, h0_37, h0_38, h0_39, h0_40, h0_41, h0_42, h0_43, h0_44, h0_45, h0_46, h0_47, h0_48, h0_49, h0_50, h0_51, h0_52, h0_53, h0_54, h0_55, h0_56, h0_57, h0_58, h0_59, h0_60, h0_61, h0_62, h0_63, h0_64, h0_65, h0_66, h0_67, h0_68, h0_69])), (a_te, .inl (ca_te, 700, .inl fa_te)), (a_wd, .inl (ca_wd, 115, .inl fa_wd))]) hP hD [1, 2, 0] (by decide) rfl
                            have hK9 := hK.sub (tys' := []) [] rfl
                            refine W.widen (k := 0) (n := 0) (Nat.le_of_ble_eq_true rfl) (Nat.le_of_ble_eq_true rfl) ?_
                            exact W.vret hx hb hr (fun t ht hW => ⟨⟨(), rfl, trivial, ⟨n_h0_next_295, 5, n_h0_which_296, v_4, hp_297, (by decide), hF_5, (show mnx.toInt ≤ n_h0_next_295.toInt ∧ n_h0_next_295.toInt ≤ mst.toInt by omega), (show (5 : Int) ≤ 8 * (n_h0_next_295.toInt - mnx.toInt) by omega), (show v_4.toInt ≤ n_h0_next_295.toInt by omega), (show z_tk8 (5 : Int) n_h0_next_295.toInt v_4.toInt from fun h9 => by omega), (show z_tkw n_h0_which_296.toInt (5 : Int) from fun h9 h8 h7 => by omega), (show f_M fa_te mst.toInt mnx.toInt (5 : Int) n_h0_which_296.toInt n_h0_next_295.toInt from f_M_k hrn (by omega) (show f_le _ from ⟨hsm0.2.1, hsm0.2.2⟩) hlr hp_300 (by omega) hp_301 (by omega) (Or.inr (Or.inr ⟨by omega, rfl⟩))), by rw [ht]; exact hP9, va_K.moved hW.alike hK9, hD9⟩⟩, hS.F ht⟩) hS.2.2 dX12_take_342
                        · have hw_290 : ¬ (v_207.toInt < mst.toInt ∧ 48 ≤ (fa_te v_207.toNatClampNeg).toInt ∧ (fa_te v_207.toNatClampNeg).toInt ≤ 57) := hw_290
                          refine lv_if_eq (tgt := 237) hx hb dX12_take_178 (by decide) (fun _ => ?_) (fun c_319 => absurd (by decide) c_319)
                          refine lv_goto (tgt := 342) hx hb dX12_take_237 (by decide) ?_
                          refine z_backQ hQQ ?_
                          have hP9 := hP
                          have hD9 := hD
                          have hK9 := hK.sub (tys' := []) [] rfl
                          refine W.widen (k := 0) (n := 0) (Nat.le_of_ble_eq_true rfl) (Nat.le_of_ble_eq_true rfl) ?_
                          exact W.vret hx hb hr (fun t ht hW => ⟨⟨(), rfl, trivial, ⟨v_207, 1, r_222, v_4, hF_208, (by decide), hF_5, (show mnx.toInt ≤ v_207.toInt ∧ v_207.toInt ≤ mst.toInt by omega), (show (1 : Int) ≤ 8 * (v_207.toInt - mnx.toInt) by omega), (show v_4.toInt ≤ v_207.toInt by omega), (show z_tk8 (1 : Int) v_207.toInt v_4.toInt from fun h9 => by omega), (show z_tkw r_222.toInt (1 : Int) from fun h9 h8 h7 => by omega), (show f_M fa_te mst.toInt mnx.toInt (1 : Int) r_222.toInt v_207.toInt from f_M_w hrn (by omega) (show f_le _ from ⟨hsm0.2.1, hsm0.2.2⟩) hlr (fun h8 h9 => hw_290 ⟨h8, h9.1, h9.2⟩) hw_223.2 (by omega)), by rw [ht]; exact hP9, va_K.moved hW.alike hK9, hD9⟩⟩, hS.F ht⟩) hS.2.2 dX12_take_342
                exact loop_204 _ v_4 _ _ _ (Nat.lt_succ_self _) (show ((0 : Int) ≤ (v_4).toInt ∧ (v_4).toInt ≤ (700 : Int)) by omega) (show f_pre f_le fa_te (mst).toInt (v_4).toInt (v_4).toInt from f_pre0 (by omega)) (show (mnx).toInt ≤ (v_4).toInt ∧ (v_4).toInt ≤ (mst).toInt by omega) (show (v_4).toInt ≤ (v_4).toInt by omega) (show (mnx).toInt + 1 ≤ (v_4).toInt ∨ ((v_4).toInt < (mst).toInt ∧ 97 ≤ (fa_te (v_4 : Int32).toNatClampNeg).toInt ∧ (fa_te (v_4 : Int32).toNatClampNeg).toInt ≤ 122) by omega) hP hD hS hl
              · have hw_202 : ¬ (v_4.toInt < mst.toInt ∧ 97 ≤ (fa_te v_4.toNatClampNeg).toInt ∧ (fa_te v_4.toNatClampNeg).toInt ≤ 122) := hw_202
                refine lv_if_eq (tgt := 240) hx hb dX12_take_87 (by decide) (fun _ => ?_) (fun c_320 => absurd (by decide) c_320)
                refine lv_aload_n hx hb dX12_take_240 rfl (lv_at hl 0 rfl) ?_
                refine lv_aload_n hx hb dX12_take_241 rfl (lv_at hl 0 rfl) ?_
                refine va_get (D := (dC, dI)) (ci := 12) (v := .int v_4) (C := RX12) (T := TX12) (N := 70) hx hb hts hiX12 hown hK hP 0 rfl rfl 31 (by decide) w__fieldLink_RX12_207_ShellHeapModel_next_I_ (fun _ h9 => h9) rfl dX12_take_242 ?_
                obtain ⟨hPc, hDc⟩ := z_sub2 (ws' := [(h0, .inr (12, [.ref a_te, h0_1, h0_2, h0_3, h0_4, h0_5, h0_6, h0_7, h0_8, h0_9, h0_10, h0_11, h0_12, h0_13, h0_14, h0_15, h0_16, h0_17, h0_18, h0_19, h0_20, h0_21, h0_22, h0_23, h0_24, h0_25, h0_26, .ref a_wd, .int mf, .int mfp, .int mst, .int v_4, .int mkd, .int mwh, .int v_4, h0_35, h0_36, h0_37, h0_38, h0_39, h0_40, h0_41, h0_42, h0_43, h0_44, h0_45, h0_46, h0_47, h0_48, h0_49, h0_50, h0_51, h0_52, h0_53, h0_54, h0_55, h0_56, h0_57, h0_58, h0_59, h0_60, h0_61, h0_62, h0_63, h0_64, h0_65, h0_66, h0_67, h0_68, h0_69])), (a_te, .inl (ca_te, 700, .inl fa_te))]) hP hD [0, 1] (by decide) rfl
                have hKc := hK.sub (tys' := [(ca_te, .int)]) [0] rfl
                have hFc := va_free (ws := []) (wc := []) (z_D0 _) hS hA [] rfl
                refine va_calli (va_runV (As := [.int v_4]) (rest := []) ⟨hx, hb, hml, hown, hts⟩ (s_X12_isDigit l dC dI H_200.size h0 v_4 a_te h0_1 h0_2 h0_3 h0_4 h0_5 h0_6 h0_7 h0_8 h0_9 h0_10 h0_11 h0_12 h0_13 h0_14 h0_15 h0_16 h0_17 h0_18 h0_19 h0_20 h0_21 h0_22 h0_23 h0_24 h0_25 h0_26 a_wd mf mfp mst v_4 mkd mwh v_4 h0_35 h0_36 h0_37 h0_38 h0_39 h0_40 h0_41 h0_42 h0_43 h0_44 h0_45 h0_46 h0_47 h0_48 h0_49 h0_50 h0_51 h0_52 h0_53 h0_54 h0_55 h0_56 h0_57 h0_58 h0_59 h0_60 h0_61 h0_62 h0_63 h0_64 h0_65 h0_66 h0_67 h0_68 h0_69 ca_te fa_te hB_mst hF_5 hB_mkd hF_5 hF_5 hI_a_te) (cwV 1 hts gw_s_X12_take3_s_X12_isDigit_217 rfl rfl rfl (by decide +kernel) ⟨Nat.le_of_ble_eq_true rfl, Nat.le_of_ble_eq_true rfl⟩) ⟨z_blind, va_recv hKc hPc (ci := 12) (q0 := 0) rfl rfl, z_pre hPc hKc hDc⟩ rfl rfl hl.1 rfl (lv_room (Nat.le_of_ble_eq_true rfl)) dX12_take_245 ⟨Nat.le_of_ble_eq_true rfl, Nat.le_of_ble_eq_true rfl⟩) hS (fun q _ h => hFc q h) hFc (fun r_322 u t H_321 locs ht hvm hw_323 hB hz1 hk1 hS => ?_)
                replace hP := z_pure hP hk1
                clear hPc hDc hKc
                rcases hw_323 with ⟨rfl, hw_323⟩ | ⟨rfl, hw_323⟩
                · have hw_323 : (v_4.toInt < mst.toInt ∧ 48 ≤ (fa_te v_4.toNatClampNeg).toInt ∧ (fa_te v_4.toNatClampNeg).toInt ≤ 57) := hw_323
                  refine lv_if_eq (tgt := 263) hx hb dX12_take_248 (by decide) (fun c_324 => absurd c_324 (by decide)) (fun _ => ?_)
                  refine lv_aload_n hx hb dX12_take_251 rfl (lv_at hl 0 rfl) ?_
                  refine lv_iconst (v := 3) hx hb dX12_take_252 (by decide) ?_
                  refine va_put (D := (dC, dI)) (ci := 12) (v := .int 3) (ty := .int) (C := RX12) (T := TX12) (N := 70) hx hb hts hiX12 tyX12 tyX12_ok nmX12 hown hK hP hD hS 0 rfl rfl 32 (by decide) w__fieldLink_RX12_221_ShellHeapModel_kindNow_I_ (fun _ h9 => h9) rfl (by decide +kernel) rfl rfl (Nat.le_of_ble_eq_true rfl) dX12_take_253 (fun H_325 locs hP hD hS => ?_)
                  obtain ⟨hP, hD⟩ := z_s_0_32 hP hD
                  refine lv_aload_n hx hb dX12_take_256 rfl (lv_at hl 0 rfl) ?_
                  obtain ⟨hPc, hDc, hFc⟩ := z_sub3 (ws' := [(h0, .inr (12, [.ref a_te, h0_1, h0_2, h0_3, h0_4, h0_5, h0_6, h0_7, h0_8, h0_9, h0_10, h0_11, h0_12, h0_13, h0_14, h0_15, h0_16, h0_17, h0_18, h0_19, h0_20, h0_21, h0_22, h0_23, h0_24, h0_25, h0_26, .ref a_wd, .int mf, .int mfp, .int mst, .int v_4, .int 3, .int mwh, .int v_4, h0_35, h0_36, h0_37, h0_38, h0_39, h0_40, h0_41, h0_42, h0_43, h0_44, h0_45, h0_46, h0_47, h0_48, h0_49, h0_50, h0_51, h0_52, h0_53, h0_54, h0_55, h0_56, h0_57, h0_58, h0_59, h0_60, h0_61, h0_62, h0_63, h0_64, h0_65, h0_66, h0_67, h0_68, h0_69])), (a_te, .inl (ca_te, 700, .inl fa_te))]) hP hD hS hA [0, 1] (by decide) rfl
                  have hKc := hK.sub (tys' := [(ca_te, .int)]) [0] rfl
                  refine va_callv (va_runV (As := []) (rest := []) ⟨hx, hb, hml, hown, hts⟩ (s_X12_digits3 l dC dI H_325.size h0 a_te h0_1 h0_2 h0_3 h0_4 h0_5 h0_6 h0_7 h0_8 h0_9 h0_10 h0_11 h0_12 h0_13 h0_14 h0_15 h0_16 h0_17 h0_18 h0_19 h0_20 h0_21 h0_22 h0_23 h0_24 h0_25 h0_26 a_wd mf mfp mst v_4 3 mwh v_4 h0_35 h0_36 h0_37 h0_38 h0_39 h0_40 h0_41 h0_42 h0_43 h0_44 h0_45 h0_46 h0_47 h0_48 h0_49 h0_50 h0_51 h0_52 h0_53 h0_54 h0_55 h0_56 h0_57 h0_58 h0_59 h0_60 h0_61 h0_62 h0_63 h0_64 h0_65 h0_66 h0_67 h0_68 h0_69 ca_te fa_te hB_mst hF_5 (by decide) hF_5 hI_a_te (by first | omega | decide)) (cwV 0 hts gw_s_X12_take3_s_X12_digits3_230 rfl rfl rfl (by decide +kernel) ⟨Nat.le_of_ble_eq_true rfl, Nat.le_of_ble_eq_true rfl⟩) ⟨z_blind, va_recv hKc hPc (ci := 12) (q0 := 0) rfl rfl, z_pre hPc hKc hDc⟩ rfl rfl hl.1 rfl (lv_room (Nat.le_of_ble_eq_true rfl)) dX12_take_257 ⟨Nat.le_of_ble_eq_true rfl, Nat.le_of_ble_eq_true rfl⟩) hS (fun q _ h => hFc q h) hFc (fun u t H_326 locs ht hvm hw_328 hB hz1 hk1 hS => ?_)
                  obtain ⟨n_h0_next_329, n_h0_which_330, hp_331, hp_332, hp_333, hp_334, hp_335, hP1, hK1, hD1⟩ := hB
                  rw [ht] at hP1
                  have hK1 := va_K.moved hvm.symm hK1
                  obtain ⟨hP, hD⟩ := z_ap_1 (va_join (wr := [(a_wd, .inl (ca_wd, 115, .inl fa_wd))]) hP hD [0, 1] [2] rfl rfl (by decide) (by decide) hk1 hFc hP1 hD1)
                  have hp_333 : v_4.toInt + 1 ≤ n_h0_next_329.toInt ∧ n_h0_next_329.toInt ≤ mst.toInt := hp_333
                  have hp_334 : f_run f_di fa_te mst.toInt v_4.toInt n_h0_next_329.toInt := hp_334
                  have hp_335 : f_v n_h0_which_330.toInt = f_v (f_nm fa_te v_4.toInt n_h0_next_329.toInt) := hp_335
                  clear hPc hDc hKc
                  refine lv_goto (tgt := 342) hx hb dX12_take_260 (by decide) ?_
                  refine z_backQ hQQ ?_
                  obtain ⟨hP9, hD9⟩ := z_sub2 (ws' := [(h0, .inr (12, [.ref a_te, h0_1, h0_2, h0_3, h0_4, h0_5, h0_6, h0_7, h0_8, h0_9, h0_10, h0_11, h0_12, h0_13, h0_14, h0_15, h0_16, h0_17, h0_18, h0_19, h0_20, h0_21, h0_22, h0_23, h0_24, h0_25, h0_26, .ref a_wd, .int mf, .int mfp, .int mst, .int n_h0_next_329, .int 3, .int n_h0_which_330, .int v_4, h0_35, h0_36, h0_37, h0_38, h0_39, h0_40, h0_41, h0_42, h0_43, h0_44, h0_45, h0_46, h0_47, h0_48, h0_49, h0_50, h0_51, h0_52, h0_53, h0_54, h0_55, h0_56, h0_57, h0_58, h0_59, h0_60, h0_61, h0_62, h0_63, h0_64, h0_65, h0_66, h0_67, h0_68, h0_69])), (a_te, .inl (ca_te, 700, .inl fa_te)), (a_wd, .inl (ca_wd, 115, .inl fa_wd))]) hP hD [1, 2, 0] (by decide) rfl
                  have hK9 := hK.sub (tys' := []) [] rfl
                  refine W.widen (k := 0) (n := 0) (Nat.le_of_ble_eq_true rfl) (Nat.le_of_ble_eq_true rfl) ?_
                  exact W.vret hx hb hr (fun t ht hW => ⟨⟨(), rfl, trivial, ⟨n_h0_next_329, 3, n_h0_which_330, v_4, hp_331, (by decide), hF_5, (show mnx.toInt ≤ n_h0_next_329.toInt ∧ n_h0_next_329.toInt ≤ mst.toInt by omega), (show (3 : Int) ≤ 8 * (n_h0_next_329.toInt - mnx.toInt) by omega), (show v_4.toInt ≤ n_h0_next_329.toInt by omega), (show z_tk8 (3 : Int) n_h0_next_329.toInt v_4.toInt from fun h9 => by omega), (show z_tkw n_h0_which_330.toInt (3 : Int) from fun h9 h8 h7 => by omega), (show f_M fa_te mst.toInt mnx.toInt (3 : Int) n_h0_which_330.toInt n_h0_next_329.toInt from f_M_n hrn (by omega) (show f_di _ from ⟨hw_323.2.1, hw_323.2.2⟩) hp_334 hp_335 (by omega)), by rw [ht]; exact hP9, va_K.moved hW.alike hK9, hD9⟩⟩, hS.F ht⟩) hS.2.2 dX12_take_342
                · have hw_323 : ¬ (v_4.toInt < mst.toInt ∧ 48 ≤ (fa_te v_4.toNatClampNeg).toInt ∧ (fa_te v_4.toNatClampNeg).toInt ≤ 57) := hw_323
                  refine lv_if_eq (tgt := 263) hx hb dX12_take_248 (by decide) (fun _ => ?_) (fun c_336 => absurd (by decide) c_336)
                  refine lv_aload_n hx hb dX12_take_263 rfl (lv_at hl 0 rfl) ?_
                  refine va_get (D := (dC, dI)) (ci := 12) (v := .ref a_te) (C := RX12) (T := TX12) (N := 70) hx hb hts hiX12 hown hK hP 0 rfl rfl 0 (by decide) w__fieldLink_RX12_7_ShellHeapModel_tape_I_ (fun _ h9 => h9) rfl dX12_take_264 ?_
                  refine lv_aload_n hx hb dX12_take_267 rfl (lv_at hl 0 rfl) ?_
                  refine va_get (D := (dC, dI)) (ci := 12) (v := .int v_4) (C := RX12) (T := TX12) (N := 70) hx hb hts hiX12 hown hK hP 0 rfl rfl 31 (by decide) w__fieldLink_RX12_207_ShellHeapModel_next_I_ (fun _ h9 => h9) rfl dX12_take_268 ?_
                  refine va_iald hx hb hK hP 1 0 rfl rfl (z_vpin (by omega) (by omega)) dX12_take_271 ?_
                  refine lv_topi (fun z_337 ez_337 => ?_)
                  have kz_337 : ((0 : Int) ≤ (z_337).toInt ∧ (z_337).toInt ≤ (255 : Int)) := by rw [ez_337]; exact hI_a_te _
                  have kxz_337 : (z_337).toInt = (fa_te (v_4 : Int32).toNatClampNeg).toInt := by rw [ez_337]
                  have kwz_337 : (z_337).toInt = (fa_te (v_4 : Int32).toInt.toNat).toInt := by rw [ez_337]; rfl
                  refine lv_istore_n (lv' := [(2, .int z_337), (0, .ref h0), (1, .int 1)]) hx hb dX12_take_272 rfl hl (by decide) rfl (fun ls hl => ?_)
                  refine lv_aload_n hx hb dX12_take_273 rfl (lv_at hl 1 rfl) ?_
                  refine lv_dup hx hb dX12_take_274 rfl ?_
                  refine va_get (D := (dC, dI)) (ci := 12) (v := .int v_4) (C := RX12) (T := TX12) (N := 70) hx hb hts hiX12 hown hK hP 0 rfl rfl 31 (by decide) w__fieldLink_RX12_207_ShellHeapModel_next_I_ (fun _ h9 => h9) rfl dX12_take_275 ?_
                  refine lv_iconst (v := 1) hx hb dX12_take_278 (by decide) ?_
                  refine lv_iadd hx hb dX12_take_279 ?_
                  refine lv_topi (fun z_338 ez_338 => ?_)
                  have kz_338 : (z_338).toInt = (v_4).toInt + (1 : Int) := by rw [ez_338]; exact z_add (a := (v_4).toInt) (b := (1 : Int)) rfl rfl (z_al hF_5.1 (by decide)) (z_ah hF_5.2 (by decide))
                  refine va_put (D := (dC, dI)) (ci := 12) (v := .int z_338) (ty := .int) (C := RX12) (T := TX12) (N := 70) hx hb hts hiX12 tyX12 tyX12_ok nmX12 hown hK hP hD hS 0 rfl rfl 31 (by decide) w__fieldLink_RX12_207_ShellHeapModel_next_I_ (fun _ h9 => h9) rfl (by decide +kernel) rfl rfl (Nat.le_of_ble_eq_true rfl) dX12_take_280 (fun H_339 locs hP hD hS => ?_)
                  obtain ⟨hP, hD⟩ := z_s_0_31 hP hD
                  refine lv_aload_n hx hb dX12_take_283 rfl (lv_at hl 1 rfl) ?_
                  refine lv_aload_n hx hb dX12_take_284 rfl (lv_at hl 1 rfl) ?_
                  refine lv_iload_n hx hb dX12_take_285 rfl (lv_at hl 0 rfl) ?_
                  obtain ⟨hPc, hDc⟩ := z_sub2 (ws' := [(h0, .inr (12, [.ref a_te, h0_1, h0_2, h0_3, h0_4, h0_5, h0_6, h0_7, h0_8, h0_9, h0_10, h0_11, h0_12, h0_13, h0_14, h0_15, h0_16, h0_17, h0_18, h0_19, h0_20, h0_21, h0_22, h0_23, h0_24, h0_25, h0_26, .ref a_wd, .int mf, .int mfp, .int mst, .int z_338, .int mkd, .int mwh, .int v_4, h0_35, h0_36, h0_37, h0_38, h0_39, h0_40, h0_41, h0_42, h0_43, h0_44, h0_45, h0_46, h0_47, h0_48, h0_49, h0_50, h0_51, h0_52, h0_53, h0_54, h0_55, h0_56, h0_57, h0_58, h0_59, h0_60, h0_61, h0_62, h0_63, h0_64, h0_65, h0_66, h0_67, h0_68, h0_69])), (a_te, .inl (ca_te, 700, .inl fa_te))]) hP hD [0, 1] (by decide) rfl
                  have hKc := hK.sub (tys' := [(ca_te, .int)]) [0] rfl
                  have hFc := va_free (ws := []) (wc := []) (z_D0 _) hS hA [] rfl
                  refine va_calli (va_runV (As := [.int z_337]) (rest := [.ref h0]) ⟨hx, hb, hml, hown, hts⟩ (s_X12_signOf3 l dC dI H_339.size h0 z_337 a_te h0_1 h0_2 h0_3 h0_4 h0_5 h0_6 h0_7 h0_8 h0_9 h0_10 h0_11 h0_12 h0_13 h0_14 h0_15 h0_16 h0_17 h0_18 h0_19 h0_20 h0_21 h0_22 h0_23 h0_24 h0_25 h0_26 a_wd mf mfp mst z_338 mkd mwh v_4 h0_35 h0_36 h0_37 h0_38 h0_39 h0_40 h0_41 h0_42 h0_43 h0_44 h0_45 h0_46 h0_47 h0_48 h0_49 h0_50 h0_51 h0_52 h0_53 h0_54 h0_55 h0_56 h0_57 h0_58 h0_59 h0_60 h0_61 h0_62 h0_63 h0_64 h0_65 h0_66 h0_67 h0_68 h0_69 ca_te fa_te hB_mst (by first | omega | decide) hB_mkd hF_5 kz_337 hI_a_te) (cwV 1 hts gw_s_X12_take3_s_X12_signOf3_233 rfl rfl rfl (by decide +kernel) ⟨Nat.le_of_ble_eq_true rfl, Nat.le_of_ble_eq_true rfl⟩) ⟨z_blind, va_recv hKc hPc (ci := 12) (q0 := 0) rfl rfl, z_pre hPc hKc hDc⟩ rfl rfl hl.1 rfl (lv_room (Nat.le_of_ble_eq_true rfl)) dX12_take_286 ⟨Nat.le_of_ble_eq_true rfl, Nat.le_of_ble_eq_true rfl⟩) hS (fun q _ h => hFc q h) hFc (fun r_341 u t H_340 locs ht hvm hw_342 hB hz1 hk1 hS => ?_)
                  replace hP := z_pure hP hk1
                  clear hPc hDc hKc
                  refine va_put (D := (dC, dI)) (ci := 12) (v := .int r_341) (ty := .int) (C := RX12) (T := TX12) (N := 70) hx hb hts hiX12 tyX12 tyX12_ok nmX12 hown hK hP hD hS 0 rfl rfl 33 (by decide) w__fieldLink_RX12_214_ShellHeapModel_which_I_ (fun _ h9 => h9) rfl (by decide +kernel) rfl rfl (Nat.le_of_ble_eq_true rfl) dX12_take_289 (fun H_343 locs hP hD hS => ?_)
                  obtain ⟨hP, hD⟩ := z_s_0_33 hP hD
                  refine lv_aload_n hx hb dX12_take_292 rfl (lv_at hl 1 rfl) ?_
                  refine lv_aload_n hx hb dX12_take_293 rfl (lv_at hl 1 rfl) ?_
                  refine va_get (D := (dC, dI)) (ci := 12) (v := .int r_341) (C := RX12) (T := TX12) (N := 70) hx hb hts hiX12 hown hK hP 0 rfl rfl 33 (by decide) w__fieldLink_RX12_214_ShellHeapModel_which_I_ (fun _ h9 => h9) rfl dX12_take_294 ?_
                  refine lv_if_ge (tgt := 304) hx hb dX12_take_297 (by decide) (fun c_344 => ?_) (fun c_344 => ?_)
                  · have k_345 : (0 : Int) ≤ (r_341).toInt := z_le c_344
                    refine lv_iconst (v := 4) hx hb dX12_take_304 (by decide) ?_
                    refine va_put (D := (dC, dI)) (ci := 12) (v := .int 4) (ty := .int) (C := RX12) (T := TX12) (N := 70) hx hb hts hiX12 tyX12 tyX12_ok nmX12 hown hK hP hD hS 0 rfl rfl 32 (by decide) w__fieldLink_RX12_221_ShellHeapModel_kindNow_I_ (fun _ h9 => h9) rfl (by decide +kernel) rfl rfl (Nat.le_of_ble_eq_true rfl) dX12_take_305 (fun H_346 locs hP hD hS => ?_)
                    obtain ⟨hP, hD⟩ := z_s_0_32 hP hD
                    refine lv_aload_n hx hb dX12_take_308 rfl (lv_at hl 1 rfl) ?_
                    refine va_get (D := (dC, dI)) (ci := 12) (v := .int r_341) (C := RX12) (T := TX12) (N := 70) hx hb hts hiX12 hown hK hP 0 rfl rfl 33 (by decide) w__fieldLink_RX12_214_ShellHeapModel_which_I_ (fun _ h9 => h9) rfl dX12_take_309 ?_
                    refine lv_iconst (v := 2) hx hb dX12_take_312 (by decide) ?_
                    refine lv_icmp_eq (tgt := 332) hx hb dX12_take_313 (by decide) (fun c_347 => ?_) (fun c_347 => ?_)
                    · have k_348 : (r_341).toInt = (2 : Int) := z_eq c_347
                      obtain rfl : r_341 = 2 := z_eq' (show (r_341).toInt = (2 : Int) by omega)
                      refine lv_aload_n hx hb dX12_take_332 rfl (lv_at hl 1 rfl) ?_
                      refine lv_dup hx hb dX12_take_333 rfl ?_
                      refine va_get (D := (dC, dI)) (ci := 12) (v := .int z_338) (C := RX12) (T := TX12) (N := 70) hx hb hts hiX12 hown hK hP 0 rfl rfl 31 (by decide) w__fieldLink_RX12_207_ShellHeapModel_next_I_ (fun _ h9 => h9) rfl dX12_take_334 ?_
                      refine lv_iconst (v := 1) hx hb dX12_take_337 (by decide) ?_
                      refine lv_iadd hx hb dX12_take_338 ?_
                      refine lv_topi (fun z_350 ez_350 => ?_)
                      have kz_350 : (z_350).toInt = (z_338).toInt + (1 : Int) := by rw [ez_350]; exact z_add (a := (z_338).toInt) (b := (1 : Int)) rfl rfl (by omega) (by omega)
                      refine va_put (D := (dC, dI)) (ci := 12) (v := .int z_350) (ty := .int) (C := RX12) (T := TX12) (N := 70) hx hb hts hiX12 tyX12 tyX12_ok nmX12 hown hK hP hD hS 0 rfl rfl 31 (by decide) w__fieldLink_RX12_207_ShellHeapModel_next_I_ (fun _ h9 => h9) rfl (by decide +kernel) rfl rfl (Nat.le_of_ble_eq_true rfl) dX12_take_339 (fun H_351 locs hP hD hS => ?_)
                      obtain ⟨hP, hD⟩ := z_s_0_31 hP hD
                      refine z_backQ hQQ ?_
                      have hP9 := hP
                      have hD9 := hD
                      have hK9 := hK.sub (tys' := []) [] rfl
                      refine W.widen (k := 0) (n := 0) (Nat.le_of_ble_eq_true rfl) (Nat.le_of_ble_eq_true rfl) ?_
                      exact W.vret hx hb hr (fun t ht hW => ⟨⟨(), rfl, trivial, ⟨z_350, 4, 2, v_4, (by first | omega | decide), (by decide), hF_5, (show mnx.toInt ≤ z_350.toInt ∧ z_350.toInt ≤ mst.toInt by omega), (show (4 : Int) ≤ 8 * (z_350.toInt - mnx.toInt) by omega), (show v_4.toInt ≤ z_350.toInt by omega), (show z_tk8 (4 : Int) z_350.toInt v_4.toInt from fun h9 => by omega), (show z_tkw (2 : Int) (4 : Int) from fun h9 h8 h7 => by omega), (show f_M fa_te mst.toInt mnx.toInt (4 : Int) (2 : Int) z_350.toInt from f_M_s hrn (by omega) (fun h9 => hw_202 ⟨by omega, h9.1, h9.2⟩) (fun h9 => hw_323 ⟨by omega, h9.1, h9.2⟩) (c := (z_337).toInt) (congrArg Int32.toInt ez_337).symm hw_342.2.2 (by omega) (by omega)), by rw [ht]; exact hP9, va_K.moved hW.alike hK9, hD9⟩⟩, hS.F ht⟩) hS.2.2 dX12_take_342
                    · have k_352 : (r_341).toInt ≠ (2 : Int) := z_ne c_347
                      refine lv_aload_n hx hb dX12_take_316 rfl (lv_at hl 1 rfl) ?_
                      refine va_get (D := (dC, dI)) (ci := 12) (v := .int r_341) (C := RX12) (T := TX12) (N := 70) hx hb hts hiX12 hown hK hP 0 rfl rfl 33 (by decide) w__fieldLink_RX12_214_ShellHeapModel_which_I_ (fun _ h9 => h9) rfl dX12_take_317 ?_
                      refine lv_iconst (v := 4) hx hb dX12_take_320 (by decide) ?_
                      refine lv_icmp_eq (tgt := 332) hx hb dX12_take_321 (by decide) (fun c_353 => ?_) (fun c_353 => ?_)
                      · have k_354 : (r_341).toInt = (4 : Int) := z_eq c_353
                        obtain rfl : r_341 = 4 := z_eq' (show (r_341).toInt = (4 : Int) by omega)
                        refine lv_aload_n hx hb dX12_take_332 rfl (lv_at hl 1 rfl) ?_
                        refine lv_dup hx hb dX12_take_333 rfl ?_
                        refine va_get (D := (dC, dI)) (ci := 12) (v := .int z_338) (C := RX12) (T := TX12) (N := 70) hx hb hts hiX12 hown hK hP 0 rfl rfl 31 (by decide) w__fieldLink_RX12_207_ShellHeapModel_next_I_ (fun _ h9 => h9) rfl dX12_take_334 ?_
                        refine lv_iconst (v := 1) hx hb dX12_take_337 (by decide) ?_
                        refine lv_iadd hx hb dX12_take_338 ?_
                        refine lv_topi (fun z_356 ez_356 => ?_)
                        have kz_356 : (z_356).toInt = (z_338).toInt + (1 : Int) := by rw [ez_356]; exact z_add (a := (z_338).toInt) (b := (1 : Int)) rfl rfl (by omega) (by omega)
                        refine va_put (D := (dC, dI)) (ci := 12) (v := .int z_356) (ty := .int) (C := RX12) (T := TX12) (N := 70) hx hb hts hiX12 tyX12 tyX12_ok nmX12 hown hK hP hD hS 0 rfl rfl 31 (by decide) w__fieldLink_RX12_207_ShellHeapModel_next_I_ (fun _ h9 => h9) rfl (by decide +kernel) rfl rfl (Nat.le_of_ble_eq_true rfl) dX12_take_339 (fun H_357 locs hP hD hS => ?_)
                        obtain ⟨hP, hD⟩ := z_s_0_31 hP hD
                        refine z_backQ hQQ ?_
                        have hP9 := hP
                        have hD9 := hD
                        have hK9 := hK.sub (tys' := []) [] rfl
                        refine W.widen (k := 0) (n := 0) (Nat.le_of_ble_eq_true rfl) (Nat.le_of_ble_eq_true rfl) ?_
                        exact W.vret hx hb hr (fun t ht hW => ⟨⟨(), rfl, trivial, ⟨z_356, 4, 4, v_4, (by first | omega | decide), (by decide), hF_5, (show mnx.toInt ≤ z_356.toInt ∧ z_356.toInt ≤ mst.toInt by omega), (show (4 : Int) ≤ 8 * (z_356.toInt - mnx.toInt) by omega), (show v_4.toInt ≤ z_356.toInt by omega), (show z_tk8 (4 : Int) z_356.toInt v_4.toInt from fun h9 => by omega), (show z_tkw (4 : Int) (4 : Int) from fun h9 h8 h7 => by omega), (show f_M fa_te mst.toInt mnx.toInt (4 : Int) (4 : Int) z_356.toInt from f_M_s hrn (by omega) (fun h9 => hw_202 ⟨by omega, h9.1, h9.2⟩) (fun h9 => hw_323 ⟨by omega, h9.1, h9.2⟩) (c := (z_337).toInt) (congrArg Int32.toInt ez_337).symm hw_342.2.2 (by omega) (by omega)), by rw [ht]; exact hP9, va_K.moved hW.alike hK9, hD9⟩⟩, hS.F ht⟩) hS.2.2 dX12_take_342
                      · have k_358 : (r_341).toInt ≠ (4 : Int) := z_ne c_353
                        refine lv_aload_n hx hb dX12_take_324 rfl (lv_at hl 1 rfl) ?_
                        refine va_get (D := (dC, dI)) (ci := 12) (v := .int r_341) (C := RX12) (T := TX12) (N := 70) hx hb hts hiX12 hown hK hP 0 rfl rfl 33 (by decide) w__fieldLink_RX12_214_ShellHeapModel_which_I_ (fun _ h9 => h9) rfl dX12_take_325 ?_
                        refine lv_iconst (v := 5) hx hb dX12_take_328 (by decide) ?_
                        refine lv_icmp_ne (tgt := 342) hx hb dX12_take_329 (by decide) (fun c_359 => ?_) (fun c_359 => ?_)
                        · have k_360 : (r_341).toInt ≠ (5 : Int) := z_ne c_359
                          refine z_backQ hQQ ?_
                          have hP9 := hP
                          have hD9 := hD
                          have hK9 := hK.sub (tys' := []) [] rfl
                          refine W.widen (k := 0) (n := 0) (Nat.le_of_ble_eq_true rfl) (Nat.le_of_ble_eq_true rfl) ?_
                          exact W.vret hx hb hr (fun t ht hW => ⟨⟨(), rfl, trivial, ⟨z_338, 4, r_341, v_4, (by first | omega | decide), (by decide), hF_5, (show mnx.toInt ≤ z_338.toInt ∧ z_338.toInt ≤ mst.toInt by omega), (show (4 : Int) ≤ 8 * (z_338.toInt - mnx.toInt) by omega), (show v_4.toInt ≤ z_338.toInt by omega), (show z_tk8 (4 : Int) z_338.toInt v_4.toInt from fun h9 => by omega), (show z_tkw r_341.toInt (4 : Int) from fun h9 h8 h7 => by omega), (show f_M fa_te mst.toInt mnx.toInt (4 : Int) r_341.toInt z_338.toInt from f_M_s hrn (by omega) (fun h9 => hw_202 ⟨by omega, h9.1, h9.2⟩) (fun h9 => hw_323 ⟨by omega, h9.1, h9.2⟩) (c := (z_337).toInt) (congrArg Int32.toInt ez_337).symm hw_342.2.2 (by omega) (by omega)), by rw [ht]; exact hP9, va_K.moved hW.alike hK9, hD9⟩⟩, hS.F ht⟩) hS.2.2 dX12_take_342
                        · have k_361 : (r_341).toInt = (5 : Int) := z_eq c_359
                          obtain rfl : r_341 = 5 := z_eq' (show (r_341).toInt = (5 : Int) by omega)
                          refine lv_aload_n hx hb dX12_take_332 rfl (lv_at hl 1 rfl) ?_
                          refine lv_dup hx hb dX12_take_333 rfl ?_
                          refine va_get (D := (dC, dI)) (ci := 12) (v := .int z_338) (C := RX12) (T := TX12) (N := 70) hx hb hts hiX12 hown hK hP 0 rfl rfl 31 (by decide) w__fieldLink_RX12_207_ShellHeapModel_next_I_ (fun _ h9 => h9) rfl dX12_take_334 ?_
                          refine lv_iconst (v := 1) hx hb dX12_take_337 (by decide) ?_
                          refine lv_iadd hx hb dX12_take_338 ?_
                          refine lv_topi (fun z_363 ez_363 => ?_)
                          have kz_363 : (z_363).toInt = (z_338).toInt + (1 : Int) := by rw [ez_363]; exact z_add (a := (z_338).toInt) (b := (1 : Int)) rfl rfl (by omega) (by omega)
                          refine va_put (D := (dC, dI)) (ci := 12) (v := .int z_363) (ty := .int) (C := RX12) (T := TX12) (N := 70) hx hb hts hiX12 tyX12 tyX12_ok nmX12 hown hK hP hD hS 0 rfl rfl 31 (by decide) w__fieldLink_RX12_207_ShellHeapModel_next_I_ (fun _ h9 => h9) rfl (by decide +kernel) rfl rfl (Nat.le_of_ble_eq_true rfl) dX12_take_339 (fun H_364 locs hP hD hS => ?_)
                          obtain ⟨hP, hD⟩ := z_s_0_31 hP hD
                          refine z_backQ hQQ ?_
                          have hP9 := hP
                          have hD9 := hD
                          have hK9 := hK.sub (tys' := []) [] rfl
                          refine W.widen (k := 0) (n := 0) (Nat.le_of_ble_eq_true rfl) (Nat.le_of_ble_eq_true rfl) ?_
                          exact W.vret hx hb hr (fun t ht hW => ⟨⟨(), rfl, trivial, ⟨z_363, 4, 5, v_4, (by first | omega | decide), (by decide), hF_5, (show mnx.toInt ≤ z_363.toInt ∧ z_363.toInt ≤ mst.toInt by omega), (show (4 : Int) ≤ 8 * (z_363.toInt - mnx.toInt) by omega), (show v_4.toInt ≤ z_363.toInt by omega), (show z_tk8 (4 : Int) z_363.toInt v_4.toInt from fun h9 => by omega), (show z_tkw (5 : Int) (4 : Int) from fun h9 h8 h7 => by omega), (show f_M fa_te mst.toInt mnx.toInt (4 : Int) (5 : Int) z_363.toInt from f_M_s hrn (by omega) (fun h9 => hw_202 ⟨by omega, h9.1, h9.2⟩) (fun h9 => hw_323 ⟨by omega, h9.1, h9.2⟩) (c := (z_337).toInt) (congrArg Int32.toInt ez_337).symm hw_342.2.2 (by omega) (by omega)), by rw [ht]; exact hP9, va_K.moved hW.alike hK9, hD9⟩⟩, hS.F ht⟩) hS.2.2 dX12_take_342
                  · have k_365 : (0 : Int) > (r_341).toInt := z_nle c_344
                    obtain rfl : r_341 = (-1) := z_eq' (show (r_341).toInt = (-1 : Int) by omega)
                    refine lv_iconst (v := 5) hx hb dX12_take_300 (by decide) ?_
                    refine lv_goto (tgt := 305) hx hb dX12_take_301 (by decide) ?_
                    refine va_put (D := (dC, dI)) (ci := 12) (v := .int 5) (ty := .int) (C := RX12) (T := TX12) (N := 70) hx hb hts hiX12 tyX12 tyX12_ok nmX12 hown hK hP hD hS 0 rfl rfl 32 (by decide) w__fieldLink_RX12_221_ShellHeapModel_kindNow_I_ (fun _ h9 => h9) rfl (by decide +kernel) rfl rfl (Nat.le_of_ble_eq_true rfl) dX12_take_305 (fun H_367 locs hP hD hS => ?_)
                    obtain ⟨hP, hD⟩ := z_s_0_32 hP hD
                    refine lv_aload_n hx hb dX12_take_308 rfl (lv_at hl 1 rfl) ?_
                    refine va_get (D := (dC, dI)) (ci := 12) (v := .int (-1)) (C := RX12) (T := TX12) (N := 70) hx hb hts hiX12 hown hK hP 0 rfl rfl 33 (by decide) w__fieldLink_RX12_214_ShellHeapModel_which_I_ (fun _ h9 => h9) rfl dX12_take_309 ?_
                    refine lv_iconst (v := 2) hx hb dX12_take_312 (by decide) ?_
                    refine lv_icmp_eq (tgt := 332) hx hb dX12_take_313 (by decide) (fun c_368 => absurd c_368 (by decide)) (fun _ => ?_)
                    refine lv_aload_n hx hb dX12_take_316 rfl (lv_at hl 1 rfl) ?_
                    refine va_get (D := (dC, dI)) (ci := 12) (v := .int (-1)) (C := RX12) (T := TX12) (N := 70) hx hb hts hiX12 hown hK hP 0 rfl rfl 33 (by decide) w__fieldLink_RX12_214_ShellHeapModel_which_I_ (fun _ h9 => h9) rfl dX12_take_317 ?_
                    refine lv_iconst (v := 4) hx hb dX12_take_320 (by decide) ?_
                    refine lv_icmp_eq (tgt := 332) hx hb dX12_take_321 (by decide) (fun c_369 => absurd c_369 (by decide)) (fun _ => ?_)
                    refine lv_aload_n hx hb dX12_take_324 rfl (lv_at hl 1 rfl) ?_
                    refine va_get (D := (dC, dI)) (ci := 12) (v := .int (-1)) (C := RX12) (T := TX12) (N := 70) hx hb hts hiX12 hown hK hP 0 rfl rfl 33 (by decide) w__fieldLink_RX12_214_ShellHeapModel_which_I_ (fun _ h9 => h9) rfl dX12_take_325 ?_
                    refine lv_iconst (v := 5) hx hb dX12_take_328 (by decide) ?_
                    refine lv_icmp_ne (tgt := 342) hx hb dX12_take_329 (by decide) (fun _ => ?_) (fun c_370 => absurd c_370 (by decide))
                    refine z_backQ hQQ ?_
                    have hP9 := hP
                    have hD9 := hD
                    have hK9 := hK.sub (tys' := []) [] rfl
                    refine W.widen (k := 0) (n := 0) (Nat.le_of_ble_eq_true rfl) (Nat.le_of_ble_eq_true rfl) ?_
                    exact W.vret hx hb hr (fun t ht hW => ⟨⟨(), rfl, trivial, ⟨z_338, 5, (-1), v_4, (by first | omega | decide), (by decide), hF_5, (show mnx.toInt ≤ z_338.toInt ∧ z_338.toInt ≤ mst.toInt by omega), (show (5 : Int) ≤ 8 * (z_338.toInt - mnx.toInt) by omega), (show v_4.toInt ≤ z_338.toInt by omega), (show z_tk8 (5 : Int) z_338.toInt v_4.toInt from fun h9 => by omega), (show z_tkw (-1 : Int) (5 : Int) from fun h9 h8 h7 => by omega), (show f_M fa_te mst.toInt mnx.toInt (5 : Int) (-1 : Int) z_338.toInt from f_M_s hrn (by omega) (fun h9 => hw_202 ⟨by omega, h9.1, h9.2⟩) (fun h9 => hw_323 ⟨by omega, h9.1, h9.2⟩) (c := (z_337).toInt) (congrArg Int32.toInt ez_337).symm hw_342.2.2 (by omega) (by omega)), by rw [ht]; exact hP9, va_K.moved hW.alike hK9, hD9⟩⟩, hS.F ht⟩) hS.2.2 dX12_take_342
            · have k_371 : (v_4).toInt = (mst).toInt := z_eq c_198
              refine lv_aload_n hx hb dX12_take_71 rfl (lv_at hl 0 rfl) ?_
              refine lv_iconst (v := 0) hx hb dX12_take_72 (by decide) ?_
              refine va_put (D := (dC, dI)) (ci := 12) (v := .int 0) (ty := .int) (C := RX12) (T := TX12) (N := 70) hx hb hts hiX12 tyX12 tyX12_ok nmX12 hown hK hP hD hS 0 rfl rfl 32 (by decide) w__fieldLink_RX12_221_ShellHeapModel_kindNow_I_ (fun _ h9 => h9) rfl (by decide +kernel) rfl rfl (Nat.le_of_ble_eq_true rfl) dX12_take_73 (fun H_372 locs hP hD hS => ?_)
              obtain ⟨hP, hD⟩ := z_s_0_32 hP hD
              refine lv_goto (tgt := 342) hx hb dX12_take_76 (by decide) ?_
              refine z_backQ hQQ ?_
              have hP9 := hP
              have hD9 := hD
              have hK9 := hK.sub (tys' := []) [] rfl
              refine W.widen (k := 0) (n := 0) (Nat.le_of_ble_eq_true rfl) (Nat.le_of_ble_eq_true rfl) ?_
              exact W.vret hx hb hr (fun t ht hW => ⟨⟨(), rfl, trivial, ⟨v_4, 0, mwh, v_4, hF_5, (by decide), hF_5, (show mnx.toInt ≤ v_4.toInt ∧ v_4.toInt ≤ mst.toInt by omega), (show (0 : Int) ≤ 8 * (v_4.toInt - mnx.toInt) by omega), (show v_4.toInt ≤ v_4.toInt by omega), (show z_tk8 (0 : Int) v_4.toInt v_4.toInt from fun h9 => by omega), (show z_tkw mwh.toInt (0 : Int) from fun h9 h8 h7 => by omega), (show f_M fa_te mst.toInt mnx.toInt (0 : Int) mwh.toInt v_4.toInt from f_M_e hrn (by omega)), by rw [ht]; exact hP9, va_K.moved hW.alike hK9, hD9⟩⟩, hS.F ht⟩) hS.2.2 dX12_take_342
          · have k_373 : (z_194).toInt = (32 : Int) := z_eq c_195
            obtain rfl : z_194 = 32 := z_eq' (show (z_194).toInt = (32 : Int) by omega)
            refine lv_aload_n hx hb dX12_take_39 rfl (lv_at hl 0 rfl) ?_
            refine lv_dup hx hb dX12_take_40 rfl ?_
            refine va_get (D := (dC, dI)) (ci := 12) (v := .int v_4) (C := RX12) (T := TX12) (N := 70) hx hb hts hiX12 hown hK hP 0 rfl rfl 31 (by decide) w__fieldLink_RX12_207_ShellHeapModel_next_I_ (fun _ h9 => h9) rfl dX12_take_41 ?_
            refine lv_iconst (v := 1) hx hb dX12_take_44 (by decide) ?_
            refine lv_iadd hx hb dX12_take_45 ?_
            refine lv_topi (fun z_375 ez_375 => ?_)
            have kz_375 : (z_375).toInt = (v_4).toInt + (1 : Int) := by rw [ez_375]; exact z_add (a := (v_4).toInt) (b := (1 : Int)) rfl rfl (z_al hF_5.1 (by decide)) (z_ah hF_5.2 (by decide))
            refine va_put (D := (dC, dI)) (ci := 12) (v := .int z_375) (ty := .int) (C := RX12) (T := TX12) (N := 70) hx hb hts hiX12 tyX12 tyX12_ok nmX12 hown hK hP hD hS 0 rfl rfl 31 (by decide) w__fieldLink_RX12_207_ShellHeapModel_next_I_ (fun _ h9 => h9) rfl (by decide +kernel) rfl rfl (Nat.le_of_ble_eq_true rfl) dX12_take_46 (fun H_376 locs hP hD hS => ?_)
            obtain ⟨hP, hD⟩ := z_s_0_31 hP hD
            refine lv_goto (tgt := 0) hx hb dX12_take_49 (by decide) ?_
            exact ih_3 z_375 _ _ _ (show (701 - (z_375).toInt).toNat < n_2 by omega) (show ((0 : Int) ≤ (z_375).toInt ∧ (z_375).toInt ≤ (700 : Int)) by omega) (show f_pre f_bl fa_te (mst).toInt (mnx).toInt (z_375).toInt from f_pre1 (i := v_4) hF_6 (by omega) (by omega) (f_atb ez_194 (by first | (unfold f_bl; omega) | (unfold f_bl; decide))) (by omega)) (show (mnx).toInt ≤ (z_375).toInt ∧ (z_375).toInt ≤ (mst).toInt by omega) hP hD hS (lv_sub hl [0, 1] rfl)
  exact loop_1 _ mnx _ _ _ (Nat.lt_succ_self _) (show ((0 : Int) ≤ (mnx).toInt ∧ (mnx).toInt ≤ (700 : Int)) by omega) (show f_pre f_bl fa_te (mst).toInt (mnx).toInt (mnx).toInt from f_pre0 (by omega)) (show (mnx).toInt ≤ (mnx).toInt ∧ (mnx).toInt ≤ (mst).toInt by omega) hP hD hS hl
