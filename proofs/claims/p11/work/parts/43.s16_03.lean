def u_s_X12_take_r : List Cond := .code yX12_take cX12_take 3 none :: ([.fieldLink RX12 207 "ShellHeapModel" "next" "I", .fieldLink RX12 204 "ShellHeapModel" "stop" "I", .fieldLink RX12 201 "ShellHeapModel" "place" "I", .methodLink RX12 224 yX12_isSmall, .instanceMethod yX12_isSmall, .selects RX12 yX12_isSmall yX12_isSmall, .initialized RX12, .methodLink RX12 227 yX12_wordAt, .instanceMethod yX12_wordAt, .selects RX12 yX12_wordAt yX12_wordAt, .fieldLink RX12 214 "ShellHeapModel" "which" "I", .fieldLink RX12 221 "ShellHeapModel" "kindNow" "I", .methodLink RX12 217 yX12_isDigit, .instanceMethod yX12_isDigit, .selects RX12 yX12_isDigit yX12_isDigit, .methodLink RX12 230 yX12_digits, .instanceMethod yX12_digits, .selects RX12 yX12_digits yX12_digits, .fieldLink RX12 7 "ShellHeapModel" "tape" "[I", .methodLink RX12 233 yX12_signOf, .instanceMethod yX12_signOf, .selects RX12 yX12_signOf yX12_signOf] ++ (wsX120 ++ (u_s_X12_isSmall ++ (u_s_X12_wordAt ++ (u_s_X12_isDigit ++ (u_s_X12_digits ++ (u_s_X12_signOf ++ [])))))))
theorem gd_s_X12_take_r : z_gd u_s_X12_take_r := z_gdc (by decide +kernel) (z_gda gdX12 (z_gda gd_s_X12_isSmall (z_gda gd_s_X12_wordAt (z_gda gd_s_X12_isDigit (z_gda gd_s_X12_digits (z_gda gd_s_X12_signOf (z_gd0)))))))
set_option maxRecDepth 20000 in
theorem gw_s_X12_take_r_s_X12_isSmall_224 : GoodIn u_s_X12_take_r (wsV RX12 224 RX12 yX12_isSmall u_s_X12_isSmall) := z_gV (z_gr _ [4, 5, 6, 7] rfl (by decide +kernel)) (fun w h => ⟨z_mc (z_mr (z_mr (z_ml h))), gd_s_X12_isSmall w h⟩)
set_option maxRecDepth 20000 in
theorem gw_s_X12_take_r_s_X12_wordAt_227 : GoodIn u_s_X12_take_r (wsV RX12 227 RX12 yX12_wordAt u_s_X12_wordAt) := z_gV (z_gr _ [8, 9, 10, 7] rfl (by decide +kernel)) (fun w h => ⟨z_mc (z_mr (z_mr (z_mr (z_ml h)))), gd_s_X12_wordAt w h⟩)
set_option maxRecDepth 20000 in
theorem gw_s_X12_take_r_s_X12_isDigit_217 : GoodIn u_s_X12_take_r (wsV RX12 217 RX12 yX12_isDigit u_s_X12_isDigit) := z_gV (z_gr _ [13, 14, 15, 7] rfl (by decide +kernel)) (fun w h => ⟨z_mc (z_mr (z_mr (z_mr (z_mr (z_ml h))))), gd_s_X12_isDigit w h⟩)
set_option maxRecDepth 20000 in
theorem gw_s_X12_take_r_s_X12_digits_230 : GoodIn u_s_X12_take_r (wsV RX12 230 RX12 yX12_digits u_s_X12_digits) := z_gV (z_gr _ [16, 17, 18, 7] rfl (by decide +kernel)) (fun w h => ⟨z_mc (z_mr (z_mr (z_mr (z_mr (z_mr (z_ml h)))))), gd_s_X12_digits w h⟩)
set_option maxRecDepth 20000 in
theorem gw_s_X12_take_r_s_X12_signOf_233 : GoodIn u_s_X12_take_r (wsV RX12 233 RX12 yX12_signOf u_s_X12_signOf) := z_gV (z_gr _ [20, 21, 22, 7] rfl (by decide +kernel)) (fun w h => ⟨z_mc (z_mr (z_mr (z_mr (z_mr (z_mr (z_mr (z_ml h))))))), gd_s_X12_signOf w h⟩)
set_option maxHeartbeats 4000000 in
set_option maxRecDepth 100000 in
theorem s_X12_take_r (l : Launch) (dC : Nat → ClassId) (dI : Nat → Nat → Nat) (sz : Nat) (h0 : Nat) (a_te : Nat) (h0_1 : Value) (h0_2 : Value) (h0_3 : Value) (h0_4 : Value) (h0_5 : Value) (h0_6 : Value) (h0_7 : Value) (h0_8 : Value) (h0_9 : Value) (h0_10 : Value) (h0_11 : Value) (h0_12 : Value) (h0_13 : Value) (h0_14 : Value) (h0_15 : Value) (h0_16 : Value) (h0_17 : Value) (h0_18 : Value) (h0_19 : Value) (h0_20 : Value) (h0_21 : Value) (h0_22 : Value) (h0_23 : Value) (h0_24 : Value) (h0_25 : Value) (h0_26 : Value) (a_wd : Nat) (mf : Int32) (mfp : Int32) (mst : Int32) (mnx : Int32) (mkd : Int32) (mwh : Int32) (mpl : Int32) (h0_35 : Value) (h0_36 : Value) (h0_37 : Value) (h0_38 : Value) (h0_39 : Value) (h0_40 : Value) (h0_41 : Value) (h0_42 : Value) (h0_43 : Value) (h0_44 : Value) (h0_45 : Value) (h0_46 : Value) (h0_47 : Value) (h0_48 : Value) (h0_49 : Value) (h0_50 : Value) (h0_51 : Value) (h0_52 : Value) (h0_53 : Value) (h0_54 : Value) (h0_55 : Value) (h0_56 : Value) (h0_57 : Value) (h0_58 : Value) (h0_59 : Value) (h0_60 : Value) (h0_61 : Value) (h0_62 : Value) (h0_63 : Value) (h0_64 : Value) (h0_65 : Value) (h0_66 : Value) (h0_67 : Value) (h0_68 : Value) (h0_69 : Value) (ca_te : ClassId) (fa_te : Nat → Int32) (ca_wd : ClassId) (fa_wd : Nat → Int32) (hB_mst : ((0 : Int) ≤ (mst).toInt ∧ (mst).toInt ≤ (700 : Int))) (hB_mnx : ((0 : Int) ≤ (mnx).toInt ∧ (mnx).toInt ≤ (700 : Int))) (hB_mkd : ((0 : Int) ≤ (mkd).toInt ∧ (mkd).toInt ≤ (7 : Int))) (hB_mpl : ((0 : Int) ≤ (mpl).toInt ∧ (mpl).toInt ≤ (700 : Int))) (hI_a_te : ∀ j : Nat, ((0 : Int) ≤ (fa_te j).toInt ∧ (fa_te j).toInt ≤ (255 : Int))) (hWD : z_wd fa_wd) (hle : mnx.toInt ≤ mst.toInt) : Met l yX12_take u_s_X12_take_r ({ frames := 2, cells := 0, slots := 0, locals := 43 }) (va_Pc [.ref h0, .int 0] (z_C (dC, dI) vwCl [(h0, .inr (12, [.ref a_te, h0_1, h0_2, h0_3, h0_4, h0_5, h0_6, h0_7, h0_8, h0_9, h0_10, h0_11, h0_12, h0_13, h0_14, h0_15, h0_16, h0_17, h0_18, h0_19, h0_20, h0_21, h0_22, h0_23, h0_24, h0_25, h0_26, .ref a_wd, .int mf, .int mfp, .int mst, .int mnx, .int mkd, .int mwh, .int mpl, h0_35, h0_36, h0_37, h0_38, h0_39, h0_40, h0_41, h0_42, h0_43, h0_44, h0_45, h0_46, h0_47, h0_48, h0_49, h0_50, h0_51, h0_52, h0_53, h0_54, h0_55, h0_56, h0_57, h0_58, h0_59, h0_60, h0_61, h0_62, h0_63, h0_64, h0_65, h0_66, h0_67, h0_68, h0_69])), (a_te, .inl (ca_te, 700, .inl fa_te)), (a_wd, .inl (ca_wd, 115, .inl fa_wd))] [(ca_te, .int), (ca_wd, .int)] sz)) (va_Qv (fun (_ : Unit) => True) (fun (_ : Unit) (t : State) => ∃ (n_h0_next : Int32), ∃ (n_h0_kindNow : Int32), ∃ (n_h0_which : Int32), ∃ (n_h0_place : Int32), ((0 : Int) ≤ (n_h0_next).toInt ∧ (n_h0_next).toInt ≤ (700 : Int)) ∧ ((0 : Int) ≤ (n_h0_kindNow).toInt ∧ (n_h0_kindNow).toInt ≤ (7 : Int)) ∧ ((0 : Int) ≤ (n_h0_place).toInt ∧ (n_h0_place).toInt ≤ (700 : Int)) ∧ (mnx.toInt ≤ n_h0_next.toInt ∧ n_h0_next.toInt ≤ mst.toInt) ∧ (n_h0_kindNow.toInt ≤ 8 * (n_h0_next.toInt - mnx.toInt)) ∧ (n_h0_place.toInt ≤ n_h0_next.toInt) ∧ (z_tk8 n_h0_kindNow.toInt n_h0_next.toInt n_h0_place.toInt) ∧ (z_tkw n_h0_which.toInt n_h0_kindNow.toInt) ∧ va_P (dC, dI) vwCl [(h0, .inr (12, [.ref a_te, h0_1, h0_2, h0_3, h0_4, h0_5, h0_6, h0_7, h0_8, h0_9, h0_10, h0_11, h0_12, h0_13, h0_14, h0_15, h0_16, h0_17, h0_18, h0_19, h0_20, h0_21, h0_22, h0_23, h0_24, h0_25, h0_26, .ref a_wd, .int mf, .int mfp, .int mst, .int n_h0_next, .int n_h0_kindNow, .int n_h0_which, .int n_h0_place, h0_35, h0_36, h0_37, h0_38, h0_39, h0_40, h0_41, h0_42, h0_43, h0_44, h0_45, h0_46, h0_47, h0_48, h0_49, h0_50, h0_51, h0_52, h0_53, h0_54, h0_55, h0_56, h0_57, h0_58, h0_59, h0_60, h0_61, h0_62, h0_63, h0_64, h0_65, h0_66, h0_67, h0_68, h0_69])), (a_te, .inl (ca_te, 700, .inl fa_te)), (a_wd, .inl (ca_wd, 115, .inl fa_wd))] t.heap ∧ va_K (dC, dI) vwCl [] t ∧ va_D (va_A [(h0, .inr (12, [.ref a_te, h0_1, h0_2, h0_3, h0_4, h0_5, h0_6, h0_7, h0_8, h0_9, h0_10, h0_11, h0_12, h0_13, h0_14, h0_15, h0_16, h0_17, h0_18, h0_19, h0_20, h0_21, h0_22, h0_23, h0_24, h0_25, h0_26, .ref a_wd, .int mf, .int mfp, .int mst, .int mnx, .int mkd, .int mwh, .int mpl, h0_35, h0_36, h0_37, h0_38, h0_39, h0_40, h0_41, h0_42, h0_43, h0_44, h0_45, h0_46, h0_47, h0_48, h0_49, h0_50, h0_51, h0_52, h0_53, h0_54, h0_55, h0_56, h0_57, h0_58, h0_59, h0_60, h0_61, h0_62, h0_63, h0_64, h0_65, h0_66, h0_67, h0_68, h0_69])), (a_te, .inl (ca_te, 700, .inl fa_te)), (a_wd, .inl (ca_wd, 115, .inl fa_wd))] sz) [(h0, .inr (12, [.ref a_te, h0_1, h0_2, h0_3, h0_4, h0_5, h0_6, h0_7, h0_8, h0_9, h0_10, h0_11, h0_12, h0_13, h0_14, h0_15, h0_16, h0_17, h0_18, h0_19, h0_20, h0_21, h0_22, h0_23, h0_24, h0_25, h0_26, .ref a_wd, .int mf, .int mfp, .int mst, .int n_h0_next, .int n_h0_kindNow, .int n_h0_which, .int n_h0_place, h0_35, h0_36, h0_37, h0_38, h0_39, h0_40, h0_41, h0_42, h0_43, h0_44, h0_45, h0_46, h0_47, h0_48, h0_49, h0_50, h0_51, h0_52, h0_53, h0_54, h0_55, h0_56, h0_57, h0_58, h0_59, h0_60, h0_61, h0_62, h0_63, h0_64, h0_65, h0_66, h0_67, h0_68, h0_69])), (a_te, .inl (ca_te, 700, .inl fa_te)), (a_wd, .inl (ca_wd, 115, .inl fa_wd))]) (va_A [(h0, .inr (12, [.ref a_te, h0_1, h0_2, h0_3, h0_4, h0_5, h0_6, h0_7, h0_8, h0_9, h0_10, h0_11, h0_12, h0_13, h0_14, h0_15, h0_16, h0_17, h0_18, h0_19, h0_20, h0_21, h0_22, h0_23, h0_24, h0_25, h0_26, .ref a_wd, .int mf, .int mfp, .int mst, .int mnx, .int mkd, .int mwh, .int mpl, h0_35, h0_36, h0_37, h0_38, h0_39, h0_40, h0_41, h0_42, h0_43, h0_44, h0_45, h0_46, h0_47, h0_48, h0_49, h0_50, h0_51, h0_52, h0_53, h0_54, h0_55, h0_56, h0_57, h0_58, h0_59, h0_60, h0_61, h0_62, h0_63, h0_64, h0_65, h0_66, h0_67, h0_68, h0_69])), (a_te, .inl (ca_te, 700, .inl fa_te)), (a_wd, .inl (ca_wd, 115, .inl fa_wd))] sz)) 0 0 (va_A [(h0, .inr (12, [.ref a_te, h0_1, h0_2, h0_3, h0_4, h0_5, h0_6, h0_7, h0_8, h0_9, h0_10, h0_11, h0_12, h0_13, h0_14, h0_15, h0_16, h0_17, h0_18, h0_19, h0_20, h0_21, h0_22, h0_23, h0_24, h0_25, h0_26, .ref a_wd, .int mf, .int mfp, .int mst, .int mnx, .int mkd, .int mwh, .int mpl, h0_35, h0_36, h0_37, h0_38, h0_39, h0_40, h0_41, h0_42, h0_43, h0_44, h0_45, h0_46, h0_47, h0_48, h0_49, h0_50, h0_51, h0_52, h0_53, h0_54, h0_55, h0_56, h0_57, h0_58, h0_59, h0_60, h0_61, h0_62, h0_63, h0_64, h0_65, h0_66, h0_67, h0_68, h0_69])), (a_te, .inl (ca_te, 700, .inl fa_te)), (a_wd, .inl (ca_wd, 115, .inl fa_wd))] sz) := by
  refine Met.ofW (cc := cX12_take) (maxL := 3) (ret := none) (by decide) rfl ?_
  intro p e s m args below meth c s₁ B hml hv
  obtain ⟨rfl, hsz, hP, hK, hD0⟩ := hv
  have hx := B.exec
  have hb := B.bytes
  have hr := B.returns
  have hts := atoms_spec (ws := u_s_X12_take_r) B.pre
  have hown : s.vm.findClass RX12 = some m.cls := findClass_of_methodNamed B.named
  have hlocks := B.notSynchronized
  subst hsz
  have hD := hD0.self (sz := s.heap.size)
  generalize hAe : va_A [(h0, .inr (12, [.ref a_te, h0_1, h0_2, h0_3, h0_4, h0_5, h0_6, h0_7, h0_8, h0_9, h0_10, h0_11, h0_12, h0_13, h0_14, h0_15, h0_16, h0_17, h0_18, h0_19, h0_20, h0_21, h0_22, h0_23, h0_24, h0_25, h0_26, .ref a_wd, .int mf, .int mfp, .int mst, .int mnx, .int mkd, .int mwh, .int mpl, h0_35, h0_36, h0_37, h0_38, h0_39, h0_40, h0_41, h0_42, h0_43, h0_44, h0_45, h0_46, h0_47, h0_48, h0_49, h0_50, h0_51, h0_52, h0_53, h0_54, h0_55, h0_56, h0_57, h0_58, h0_59, h0_60, h0_61, h0_62, h0_63, h0_64, h0_65, h0_66, h0_67, h0_68, h0_69])), (a_te, .inl (ca_te, 700, .inl fa_te)), (a_wd, .inl (ca_wd, 115, .inl fa_wd))] s.heap.size = A at hD ⊢
  have hA : ∀ q : Nat, s.heap.size ≤ q → A q := fun q h => by rw [← hAe]; exact Or.inr h
  have hS : va_S A s.heap s.heap [] := va_S.rf
  have hP : va_P (dC, dI) vwCl [(h0, .inr (12, [.ref a_te, h0_1, h0_2, h0_3, h0_4, h0_5, h0_6, h0_7, h0_8, h0_9, h0_10, h0_11, h0_12, h0_13, h0_14, h0_15, h0_16, h0_17, h0_18, h0_19, h0_20, h0_21, h0_22, h0_23, h0_24, h0_25, h0_26, .ref a_wd, .int mf, .int mfp, .int mst, .int mnx, .int mkd, .int mwh, .int mpl, h0_35, h0_36, h0_37, h0_38, h0_39, h0_40, h0_41, h0_42, h0_43, h0_44, h0_45, h0_46, h0_47, h0_48, h0_49, h0_50, h0_51, h0_52, h0_53, h0_54, h0_55, h0_56, h0_57, h0_58, h0_59, h0_60, h0_61, h0_62, h0_63, h0_64, h0_65, h0_66, h0_67, h0_68, h0_69])), (a_te, .inl (ca_te, 700, .inl fa_te)), (a_wd, .inl (ca_wd, 115, .inl fa_wd))] s.heap := hP
  have w__fieldLink_RX12_207_ShellHeapModel_next_I_ := hts (.fieldLink RX12 207 "ShellHeapModel" "next" "I") (z_mc (z_ml z_m0))
  have hiX12 := show ∀ w ∈ u_ws RX12 TX12 70, w ∈ u_s_X12_take_r from fun w h => z_mc (z_mr (z_ml h))
  have w__fieldLink_RX12_204_ShellHeapModel_stop_I_ := hts (.fieldLink RX12 204 "ShellHeapModel" "stop" "I") (z_mc (z_ml z_m1))
  have w__fieldLink_RX12_201_ShellHeapModel_place_I_ := hts (.fieldLink RX12 201 "ShellHeapModel" "place" "I") (z_mc (z_ml z_m2))
  have w__fieldLink_RX12_214_ShellHeapModel_which_I_ := hts (.fieldLink RX12 214 "ShellHeapModel" "which" "I") (z_mc (z_ml z_m10))
  have w__fieldLink_RX12_221_ShellHeapModel_kindNow_I_ := hts (.fieldLink RX12 221 "ShellHeapModel" "kindNow" "I") (z_mc (z_ml z_m11))
  have w__fieldLink_RX12_7_ShellHeapModel_tape_I_ := hts (.fieldLink RX12 7 "ShellHeapModel" "tape" "[I") (z_mc (z_ml z_m18))
  have hl := lv_entry ([.ref h0, .int 0]) (n := 3) (Nat.le_of_ble_eq_true rfl)
  rw [lg_entry_eq]
  generalize (lg_sl ([.ref h0, .int 0]) ++ List.replicate (3 - (lg_sl ([.ref h0, .int 0])).length) Slot.unset).toArray = ls at hl ⊢
  have hl : lv_has ls 3 [(0, .ref h0), (1, .int 0)] := hl
  refine z_nameQ (fun QQ hQQ => ?_)
  have loop_1 : ∀ (n_2 : Nat) (v_4 : Int32) (H : Heap) (locs : List Loc) (ls : Array Slot), (701 - (v_4).toInt).toNat < n_2 → (((0 : Int) ≤ (v_4).toInt ∧ (v_4).toInt ≤ (700 : Int))) → ((mnx).toInt ≤ (v_4).toInt ∧ (v_4).toInt ≤ (mst).toInt) → va_P (dC, dI) vwCl [(h0, .inr (12, [.ref a_te, h0_1, h0_2, h0_3, h0_4, h0_5, h0_6, h0_7, h0_8, h0_9, h0_10, h0_11, h0_12, h0_13, h0_14, h0_15, h0_16, h0_17, h0_18, h0_19, h0_20, h0_21, h0_22, h0_23, h0_24, h0_25, h0_26, .ref a_wd, .int mf, .int mfp, .int mst, .int v_4, .int mkd, .int mwh, .int mpl, h0_35, h0_36, h0_37, h0_38, h0_39, h0_40, h0_41, h0_42, h0_43, h0_44, h0_45, h0_46, h0_47, h0_48, h0_49, h0_50, h0_51, h0_52, h0_53, h0_54, h0_55, h0_56, h0_57, h0_58, h0_59, h0_60, h0_61, h0_62, h0_63, h0_64, h0_65, h0_66, h0_67, h0_68, h0_69])), (a_te, .inl (ca_te, 700, .inl fa_te)), (a_wd, .inl (ca_wd, 115, .inl fa_wd))] H → va_D A [(h0, .inr (12, [.ref a_te, h0_1, h0_2, h0_3, h0_4, h0_5, h0_6, h0_7, h0_8, h0_9, h0_10, h0_11, h0_12, h0_13, h0_14, h0_15, h0_16, h0_17, h0_18, h0_19, h0_20, h0_21, h0_22, h0_23, h0_24, h0_25, h0_26, .ref a_wd, .int mf, .int mfp, .int mst, .int v_4, .int mkd, .int mwh, .int mpl, h0_35, h0_36, h0_37, h0_38, h0_39, h0_40, h0_41, h0_42, h0_43, h0_44, h0_45, h0_46, h0_47, h0_48, h0_49, h0_50, h0_51, h0_52, h0_53, h0_54, h0_55, h0_56, h0_57, h0_58, h0_59, h0_60, h0_61, h0_62, h0_63, h0_64, h0_65, h0_66, h0_67, h0_68, h0_69])), (a_te, .inl (ca_te, 700, .inl fa_te)), (a_wd, .inl (ca_wd, 115, .inl fa_wd))] → va_S A s.heap H locs → lv_has ls 3 [(0, .ref h0), (1, .int 0)] → W p l e ({ frames := 2, cells := 0, slots := 0, locals := 43 } : Room) s m ([.ref h0, .int 0] : List Value).toArray below meth c H locs 0 0 QQ (F0 m 0 ls []) := by
    intro n_2
    induction n_2 with
    | zero => intro v_4 H locs ls hm; exact absurd hm (Nat.not_lt_zero _)
    | succ n_2 ih_3 =>
      intro v_4 H locs ls hm hF_5 hF_6 hP hD hS hl
      refine lv_aload_n hx hb dX12_take_0 rfl (lv_at hl 0 rfl) ?_
      refine va_get (D := (dC, dI)) (ci := 12) (v := .int v_4) (C := RX12) (T := TX12) (N := 70) hx hb hts hiX12 hown hK hP 0 rfl rfl 31 (by decide) w__fieldLink_RX12_207_ShellHeapModel_next_I_ (fun _ h9 => h9) rfl dX12_take_1 ?_
      refine lv_aload_n hx hb dX12_take_4 rfl (lv_at hl 0 rfl) ?_
      refine va_get (D := (dC, dI)) (ci := 12) (v := .int mst) (C := RX12) (T := TX12) (N := 70) hx hb hts hiX12 hown hK hP 0 rfl rfl 30 (by decide) w__fieldLink_RX12_204_ShellHeapModel_stop_I_ (fun _ h9 => h9) rfl dX12_take_5 ?_
      refine lv_icmp_ge (tgt := 52) hx hb dX12_take_8 (by decide) (fun c_7 => ?_) (fun c_7 => ?_)
      · have k_8 : (mst).toInt ≤ (v_4).toInt := z_le c_7
        refine lv_aload_n hx hb dX12_take_52 rfl (lv_at hl 0 rfl) ?_
        refine lv_aload_n hx hb dX12_take_53 rfl (lv_at hl 0 rfl) ?_
        refine va_get (D := (dC, dI)) (ci := 12) (v := .int v_4) (C := RX12) (T := TX12) (N := 70) hx hb hts hiX12 hown hK hP 0 rfl rfl 31 (by decide) w__fieldLink_RX12_207_ShellHeapModel_next_I_ (fun _ h9 => h9) rfl dX12_take_54 ?_
        refine va_put (D := (dC, dI)) (ci := 12) (v := .int v_4) (ty := .int) (C := RX12) (T := TX12) (N := 70) hx hb hts hiX12 tyX12 tyX12_ok nmX12 hown hK hP hD hS 0 rfl rfl 34 (by decide) w__fieldLink_RX12_201_ShellHeapModel_place_I_ (fun _ h9 => h9) rfl (by decide +kernel) rfl rfl (Nat.le_of_ble_eq_true rfl) dX12_take_57 (fun H_9 locs hP hD hS => ?_)
        obtain ⟨hP, hD⟩ := z_s_0_34 hP hD
        refine lv_aload_n hx hb dX12_take_60 rfl (lv_at hl 0 rfl) ?_
        refine va_get (D := (dC, dI)) (ci := 12) (v := .int v_4) (C := RX12) (T := TX12) (N := 70) hx hb hts hiX12 hown hK hP 0 rfl rfl 31 (by decide) w__fieldLink_RX12_207_ShellHeapModel_next_I_ (fun _ h9 => h9) rfl dX12_take_61 ?_
        refine lv_aload_n hx hb dX12_take_64 rfl (lv_at hl 0 rfl) ?_
        refine va_get (D := (dC, dI)) (ci := 12) (v := .int mst) (C := RX12) (T := TX12) (N := 70) hx hb hts hiX12 hown hK hP 0 rfl rfl 30 (by decide) w__fieldLink_RX12_204_ShellHeapModel_stop_I_ (fun _ h9 => h9) rfl dX12_take_65 ?_
        refine lv_icmp_ne (tgt := 79) hx hb dX12_take_68 (by decide) (fun c_10 => ?_) (fun c_10 => ?_)
        · have k_11 : (v_4).toInt ≠ (mst).toInt := z_ne c_10
          refine lv_aload_n hx hb dX12_take_79 rfl (lv_at hl 0 rfl) ?_
          refine lv_aload_n hx hb dX12_take_80 rfl (lv_at hl 0 rfl) ?_
          refine va_get (D := (dC, dI)) (ci := 12) (v := .int v_4) (C := RX12) (T := TX12) (N := 70) hx hb hts hiX12 hown hK hP 0 rfl rfl 31 (by decide) w__fieldLink_RX12_207_ShellHeapModel_next_I_ (fun _ h9 => h9) rfl dX12_take_81 ?_
          obtain ⟨hPc, hDc⟩ := z_sub2 (ws' := [(h0, .inr (12, [.ref a_te, h0_1, h0_2, h0_3, h0_4, h0_5, h0_6, h0_7, h0_8, h0_9, h0_10, h0_11, h0_12, h0_13, h0_14, h0_15, h0_16, h0_17, h0_18, h0_19, h0_20, h0_21, h0_22, h0_23, h0_24, h0_25, h0_26, .ref a_wd, .int mf, .int mfp, .int mst, .int v_4, .int mkd, .int mwh, .int v_4, h0_35, h0_36, h0_37, h0_38, h0_39, h0_40, h0_41, h0_42, h0_43, h0_44, h0_45, h0_46, h0_47, h0_48, h0_49, h0_50, h0_51, h0_52, h0_53, h0_54, h0_55, h0_56, h0_57, h0_58, h0_59, h0_60, h0_61, h0_62, h0_63, h0_64, h0_65, h0_66, h0_67, h0_68, h0_69])), (a_te, .inl (ca_te, 700, .inl fa_te))]) hP hD [0, 1] (by decide) rfl
          have hKc := hK.sub (tys' := [(ca_te, .int)]) [0] rfl
          have hFc := va_free (ws := []) (wc := []) (z_D0 _) hS hA [] rfl
          refine va_calli (va_runV (As := [.int v_4]) (rest := []) ⟨hx, hb, hml, hown, hts⟩ (s_X12_isSmall l dC dI H_9.size h0 v_4 a_te h0_1 h0_2 h0_3 h0_4 h0_5 h0_6 h0_7 h0_8 h0_9 h0_10 h0_11 h0_12 h0_13 h0_14 h0_15 h0_16 h0_17 h0_18 h0_19 h0_20 h0_21 h0_22 h0_23 h0_24 h0_25 h0_26 a_wd mf mfp mst v_4 mkd mwh v_4 h0_35 h0_36 h0_37 h0_38 h0_39 h0_40 h0_41 h0_42 h0_43 h0_44 h0_45 h0_46 h0_47 h0_48 h0_49 h0_50 h0_51 h0_52 h0_53 h0_54 h0_55 h0_56 h0_57 h0_58 h0_59 h0_60 h0_61 h0_62 h0_63 h0_64 h0_65 h0_66 h0_67 h0_68 h0_69 ca_te fa_te hB_mst hF_5 hB_mkd hF_5 hF_5 hI_a_te) (cwV 1 hts gw_s_X12_take_r_s_X12_isSmall_224 rfl rfl rfl (by decide +kernel) ⟨Nat.le_of_ble_eq_true rfl, Nat.le_of_ble_eq_true rfl⟩) ⟨z_blind, va_recv hKc hPc (ci := 12) (q0 := 0) rfl rfl, z_pre hPc hKc hDc⟩ rfl rfl hl.1 rfl (lv_room (Nat.le_of_ble_eq_true rfl)) dX12_take_84 ⟨Nat.le_of_ble_eq_true rfl, Nat.le_of_ble_eq_true rfl⟩) hS (fun q _ h => hFc q h) hFc (fun r_13 u t H_12 locs ht hvm hw_14 hB hz1 hk1 hS => ?_)
          replace hP := z_pure hP hk1
          clear hPc hDc hKc
          rcases hw_14 with ⟨rfl, hw_14⟩ | ⟨rfl, hw_14⟩
          · have hw_14 : (v_4.toInt < mst.toInt ∧ 97 ≤ (fa_te v_4.toNatClampNeg).toInt ∧ (fa_te v_4.toNatClampNeg).toInt ≤ 122) := hw_14
            refine lv_if_eq (tgt := 240) hx hb dX12_take_87 (by decide) (fun c_15 => absurd c_15 (by decide)) (fun _ => ?_)
            have loop_16 : ∀ (n_17 : Nat) (v_19 : Int32) (H : Heap) (locs : List Loc) (ls : Array Slot), (701 - (v_19).toInt).toNat < n_17 → (((0 : Int) ≤ (v_19).toInt ∧ (v_19).toInt ≤ (700 : Int))) → ((mnx).toInt ≤ (v_19).toInt ∧ (v_19).toInt ≤ (mst).toInt) → ((v_4).toInt ≤ (v_19).toInt) → ((mnx).toInt + 1 ≤ (v_19).toInt ∨ ((v_19).toInt < (mst).toInt ∧ 97 ≤ (fa_te (v_19 : Int32).toNatClampNeg).toInt ∧ (fa_te (v_19 : Int32).toNatClampNeg).toInt ≤ 122)) → va_P (dC, dI) vwCl [(h0, .inr (12, [.ref a_te, h0_1, h0_2, h0_3, h0_4, h0_5, h0_6, h0_7, h0_8, h0_9, h0_10, h0_11, h0_12, h0_13, h0_14, h0_15, h0_16, h0_17, h0_18, h0_19, h0_20, h0_21, h0_22, h0_23, h0_24, h0_25, h0_26, .ref a_wd, .int mf, .int mfp, .int mst, .int v_19, .int mkd, .int mwh, .int v_4, h0_35, h0_36, h0_37, h0_38, h0_39, h0_40, h0_41, h0_42, h0_43, h0_44, h0_45, h0_46, h0_47, h0_48, h0_49, h0_50, h0_51, h0_52, h0_53, h0_54, h0_55, h0_56, h0_57, h0_58, h0_59, h0_60, h0_61, h0_62, h0_63, h0_64, h0_65, h0_66, h0_67, h0_68, h0_69])), (a_te, .inl (ca_te, 700, .inl fa_te)), (a_wd, .inl (ca_wd, 115, .inl fa_wd))] H → va_D A [(h0, .inr (12, [.ref a_te, h0_1, h0_2, h0_3, h0_4, h0_5, h0_6, h0_7, h0_8, h0_9, h0_10, h0_11, h0_12, h0_13, h0_14, h0_15, h0_16, h0_17, h0_18, h0_19, h0_20, h0_21, h0_22, h0_23, h0_24, h0_25, h0_26, .ref a_wd, .int mf, .int mfp, .int mst, .int v_19, .int mkd, .int mwh, .int v_4, h0_35, h0_36, h0_37, h0_38, h0_39, h0_40, h0_41, h0_42, h0_43, h0_44, h0_45, h0_46, h0_47, h0_48, h0_49, h0_50, h0_51, h0_52, h0_53, h0_54, h0_55, h0_56, h0_57, h0_58, h0_59, h0_60, h0_61, h0_62, h0_63, h0_64, h0_65, h0_66, h0_67, h0_68, h0_69])), (a_te, .inl (ca_te, 700, .inl fa_te)), (a_wd, .inl (ca_wd, 115, .inl fa_wd))] → va_S A s.heap H locs → lv_has ls 3 [(0, .ref h0), (1, .int 0)] → W p l e ({ frames := 2, cells := 0, slots := 0, locals := 43 } : Room) s m ([.ref h0, .int 0] : List Value).toArray below meth c H locs 0 0 QQ (F0 m 90 ls []) := by
              intro n_17
              induction n_17 with
              | zero => intro v_19 H locs ls hm; exact absurd hm (Nat.not_lt_zero _)
              | succ n_17 ih_18 =>
                intro v_19 H locs ls hm hF_20 hF_21 hF_22 hF_23 hP hD hS hl
                refine lv_aload_n hx hb dX12_take_90 rfl (lv_at hl 0 rfl) ?_
                refine lv_aload_n hx hb dX12_take_91 rfl (lv_at hl 0 rfl) ?_
                refine va_get (D := (dC, dI)) (ci := 12) (v := .int v_19) (C := RX12) (T := TX12) (N := 70) hx hb hts hiX12 hown hK hP 0 rfl rfl 31 (by decide) w__fieldLink_RX12_207_ShellHeapModel_next_I_ (fun _ h9 => h9) rfl dX12_take_92 ?_
                obtain ⟨hPc, hDc⟩ := z_sub2 (ws' := [(h0, .inr (12, [.ref a_te, h0_1, h0_2, h0_3, h0_4, h0_5, h0_6, h0_7, h0_8, h0_9, h0_10, h0_11, h0_12, h0_13, h0_14, h0_15, h0_16, h0_17, h0_18, h0_19, h0_20, h0_21, h0_22, h0_23, h0_24, h0_25, h0_26, .ref a_wd, .int mf, .int mfp, .int mst, .int v_19, .int mkd, .int mwh, .int v_4, h0_35, h0_36, h0_37, h0_38, h0_39, h0_40, h0_41, h0_42, h0_43, h0_44, h0_45, h0_46, h0_47, h0_48, h0_49, h0_50, h0_51, h0_52, h0_53, h0_54, h0_55, h0_56, h0_57, h0_58, h0_59, h0_60, h0_61, h0_62, h0_63, h0_64, h0_65, h0_66, h0_67, h0_68, h0_69])), (a_te, .inl (ca_te, 700, .inl fa_te))]) hP hD [0, 1] (by decide) rfl
                have hKc := hK.sub (tys' := [(ca_te, .int)]) [0] rfl
                have hFc := va_free (ws := []) (wc := []) (z_D0 _) hS hA [] rfl
                refine va_calli (va_runV (As := [.int v_19]) (rest := []) ⟨hx, hb, hml, hown, hts⟩ (s_X12_isSmall l dC dI H.size h0 v_19 a_te h0_1 h0_2 h0_3 h0_4 h0_5 h0_6 h0_7 h0_8 h0_9 h0_10 h0_11 h0_12 h0_13 h0_14 h0_15 h0_16 h0_17 h0_18 h0_19 h0_20 h0_21 h0_22 h0_23 h0_24 h0_25 h0_26 a_wd mf mfp mst v_19 mkd mwh v_4 h0_35 h0_36 h0_37 h0_38 h0_39 h0_40 h0_41 h0_42 h0_43 h0_44 h0_45 h0_46 h0_47 h0_48 h0_49 h0_50 h0_51 h0_52 h0_53 h0_54 h0_55 h0_56 h0_57 h0_58 h0_59 h0_60 h0_61 h0_62 h0_63 h0_64 h0_65 h0_66 h0_67 h0_68 h0_69 ca_te fa_te hB_mst hF_20 hB_mkd hF_5 hF_20 hI_a_te) (cwV 1 hts gw_s_X12_take_r_s_X12_isSmall_224 rfl rfl rfl (by decide +kernel) ⟨Nat.le_of_ble_eq_true rfl, Nat.le_of_ble_eq_true rfl⟩) ⟨z_blind, va_recv hKc hPc (ci := 12) (q0 := 0) rfl rfl, z_pre hPc hKc hDc⟩ rfl rfl hl.1 rfl (lv_room (Nat.le_of_ble_eq_true rfl)) dX12_take_95 ⟨Nat.le_of_ble_eq_true rfl, Nat.le_of_ble_eq_true rfl⟩) hS (fun q _ h => hFc q h) hFc (fun r_25 u t H_24 locs ht hvm hw_26 hB hz1 hk1 hS => ?_)
                replace hP := z_pure hP hk1
                clear hPc hDc hKc
                rcases hw_26 with ⟨rfl, hw_26⟩ | ⟨rfl, hw_26⟩
                · have hw_26 : (v_19.toInt < mst.toInt ∧ 97 ≤ (fa_te v_19.toNatClampNeg).toInt ∧ (fa_te v_19.toNatClampNeg).toInt ≤ 122) := hw_26
                  refine lv_if_eq (tgt := 114) hx hb dX12_take_98 (by decide) (fun c_27 => absurd c_27 (by decide)) (fun _ => ?_)
                  refine lv_aload_n hx hb dX12_take_101 rfl (lv_at hl 0 rfl) ?_
                  refine lv_dup hx hb dX12_take_102 rfl ?_
                  refine va_get (D := (dC, dI)) (ci := 12) (v := .int v_19) (C := RX12) (T := TX12) (N := 70) hx hb hts hiX12 hown hK hP 0 rfl rfl 31 (by decide) w__fieldLink_RX12_207_ShellHeapModel_next_I_ (fun _ h9 => h9) rfl dX12_take_103 ?_
                  refine lv_iconst (v := 1) hx hb dX12_take_106 (by decide) ?_
                  refine lv_iadd hx hb dX12_take_107 ?_
                  refine lv_topi (fun z_28 ez_28 => ?_)
                  have kz_28 : (z_28).toInt = (v_19).toInt + (1 : Int) := by rw [ez_28]; exact z_add (a := (v_19).toInt) (b := (1 : Int)) rfl rfl (z_al hF_20.1 (by decide)) (z_ah hF_20.2 (by decide))
                  refine va_put (D := (dC, dI)) (ci := 12) (v := .int z_28) (ty := .int) (C := RX12) (T := TX12) (N := 70) hx hb hts hiX12 tyX12 tyX12_ok nmX12 hown hK hP hD hS 0 rfl rfl 31 (by decide) w__fieldLink_RX12_207_ShellHeapModel_next_I_ (fun _ h9 => h9) rfl (by decide +kernel) rfl rfl (Nat.le_of_ble_eq_true rfl) dX12_take_108 (fun H_29 locs hP hD hS => ?_)
                  obtain ⟨hP, hD⟩ := z_s_0_31 hP hD
                  refine lv_goto (tgt := 90) hx hb dX12_take_111 (by decide) ?_
                  exact ih_18 z_28 _ _ _ (show (701 - (z_28).toInt).toNat < n_17 by omega) (show ((0 : Int) ≤ (z_28).toInt ∧ (z_28).toInt ≤ (700 : Int)) by omega) (show (mnx).toInt ≤ (z_28).toInt ∧ (z_28).toInt ≤ (mst).toInt by omega) (show (v_4).toInt ≤ (z_28).toInt by omega) (show (mnx).toInt + 1 ≤ (z_28).toInt ∨ ((z_28).toInt < (mst).toInt ∧ 97 ≤ (fa_te (z_28 : Int32).toNatClampNeg).toInt ∧ (fa_te (z_28 : Int32).toNatClampNeg).toInt ≤ 122) by omega) hP hD hS (lv_sub hl [0, 1] rfl)
                · have hw_26 : ¬ (v_19.toInt < mst.toInt ∧ 97 ≤ (fa_te v_19.toNatClampNeg).toInt ∧ (fa_te v_19.toNatClampNeg).toInt ≤ 122) := hw_26
                  refine lv_if_eq (tgt := 114) hx hb dX12_take_98 (by decide) (fun _ => ?_) (fun c_30 => absurd (by decide) c_30)
                  refine lv_aload_n hx hb dX12_take_114 rfl (lv_at hl 0 rfl) ?_
                  refine va_get (D := (dC, dI)) (ci := 12) (v := .int v_19) (C := RX12) (T := TX12) (N := 70) hx hb hts hiX12 hown hK hP 0 rfl rfl 31 (by decide) w__fieldLink_RX12_207_ShellHeapModel_next_I_ (fun _ h9 => h9) rfl dX12_take_115 ?_
                  refine lv_aload_n hx hb dX12_take_118 rfl (lv_at hl 0 rfl) ?_
                  refine va_get (D := (dC, dI)) (ci := 12) (v := .int v_4) (C := RX12) (T := TX12) (N := 70) hx hb hts hiX12 hown hK hP 0 rfl rfl 34 (by decide) w__fieldLink_RX12_201_ShellHeapModel_place_I_ (fun _ h9 => h9) rfl dX12_take_119 ?_
                  refine lv_isub hx hb dX12_take_122 ?_
                  refine lv_topi (fun z_31 ez_31 => ?_)
                  have kz_31 : (z_31).toInt = (v_19).toInt - (v_4).toInt := by rw [ez_31]; exact z_sub (a := (v_19).toInt) (b := (v_4).toInt) rfl rfl (by omega) (by omega)
                  refine lv_istore_n (lv' := [(2, .int z_31), (0, .ref h0), (1, .int 0)]) hx hb dX12_take_123 rfl hl (by decide) rfl (fun ls hl => ?_)
                  refine lv_aload_n hx hb dX12_take_124 rfl (lv_at hl 1 rfl) ?_
                  refine lv_aload_n hx hb dX12_take_125 rfl (lv_at hl 1 rfl) ?_
                  refine lv_aload_n hx hb dX12_take_126 rfl (lv_at hl 1 rfl) ?_
                  refine va_get (D := (dC, dI)) (ci := 12) (v := .int v_4) (C := RX12) (T := TX12) (N := 70) hx hb hts hiX12 hown hK hP 0 rfl rfl 34 (by decide) w__fieldLink_RX12_201_ShellHeapModel_place_I_ (fun _ h9 => h9) rfl dX12_take_127 ?_
                  refine lv_aload_n hx hb dX12_take_130 rfl (lv_at hl 1 rfl) ?_
                  refine va_get (D := (dC, dI)) (ci := 12) (v := .int v_19) (C := RX12) (T := TX12) (N := 70) hx hb hts hiX12 hown hK hP 0 rfl rfl 31 (by decide) w__fieldLink_RX12_207_ShellHeapModel_next_I_ (fun _ h9 => h9) rfl dX12_take_131 ?_
                  have hPc := hP
                  have hDc := hD
                  have hKc := hK
                  have hFc := va_free (ws := []) (wc := []) (z_D0 _) hS hA [] rfl
                  refine va_calli (va_runV (As := [.int v_4, .int v_19]) (rest := [.ref h0]) ⟨hx, hb, hml, hown, hts⟩ (s_X12_wordAt l dC dI H_24.size h0 v_4 v_19 a_te h0_1 h0_2 h0_3 h0_4 h0_5 h0_6 h0_7 h0_8 h0_9 h0_10 h0_11 h0_12 h0_13 h0_14 h0_15 h0_16 h0_17 h0_18 h0_19 h0_20 h0_21 h0_22 h0_23 h0_24 h0_25 h0_26 a_wd mf mfp mst v_19 mkd mwh v_4 h0_35 h0_36 h0_37 h0_38 h0_39 h0_40 h0_41 h0_42 h0_43 h0_44 h0_45 h0_46 h0_47 h0_48 h0_49 h0_50 h0_51 h0_52 h0_53 h0_54 h0_55 h0_56 h0_57 h0_58 h0_59 h0_60 h0_61 h0_62 h0_63 h0_64 h0_65 h0_66 h0_67 h0_68 h0_69 ca_te fa_te ca_wd fa_wd hF_5 hF_20 hI_a_te hWD (by first | omega | decide)) (cwV 2 hts gw_s_X12_take_r_s_X12_wordAt_227 rfl rfl rfl (by decide +kernel) ⟨Nat.le_of_ble_eq_true rfl, Nat.le_of_ble_eq_true rfl⟩) ⟨z_blind, va_recv hKc hPc (ci := 12) (q0 := 0) rfl rfl, z_pre hPc hKc hDc⟩ rfl rfl hl.1 rfl (lv_room (Nat.le_of_ble_eq_true rfl)) dX12_take_134 ⟨Nat.le_of_ble_eq_true rfl, Nat.le_of_ble_eq_true rfl⟩) hS (fun q _ h => hFc q h) hFc (fun r_33 u t H_32 locs ht hvm hw_34 hB hz1 hk1 hS => ?_)
                  replace hP := z_pure hP hk1
                  clear hPc hDc hKc
                  refine va_put (D := (dC, dI)) (ci := 12) (v := .int r_33) (ty := .int) (C := RX12) (T := TX12) (N := 70) hx hb hts hiX12 tyX12 tyX12_ok nmX12 hown hK hP hD hS 0 rfl rfl 33 (by decide) w__fieldLink_RX12_214_ShellHeapModel_which_I_ (fun _ h9 => h9) rfl (by decide +kernel) rfl rfl (Nat.le_of_ble_eq_true rfl) dX12_take_137 (fun H_35 locs hP hD hS => ?_)
                  obtain ⟨hP, hD⟩ := z_s_0_33 hP hD
                  refine lv_aload_n hx hb dX12_take_140 rfl (lv_at hl 1 rfl) ?_
                  refine lv_aload_n hx hb dX12_take_141 rfl (lv_at hl 1 rfl) ?_
                  refine va_get (D := (dC, dI)) (ci := 12) (v := .int r_33) (C := RX12) (T := TX12) (N := 70) hx hb hts hiX12 hown hK hP 0 rfl rfl 33 (by decide) w__fieldLink_RX12_214_ShellHeapModel_which_I_ (fun _ h9 => h9) rfl dX12_take_142 ?_
                  refine lv_if_lt (tgt := 152) hx hb dX12_take_145 (by decide) (fun c_36 => ?_) (fun c_36 => ?_)
                  · have k_37 : (r_33).toInt < (0 : Int) := z_lt c_36
                    obtain rfl : r_33 = (-1) := z_eq' (show (r_33).toInt = (-1 : Int) by omega)
                    refine lv_iload_n hx hb dX12_take_152 rfl (lv_at hl 0 rfl) ?_
                    refine lv_bipush (v := 8) hx hb dX12_take_153 (by decide) ?_
                    refine lv_icmp_le (tgt := 162) hx hb dX12_take_155 (by decide) (fun c_39 => ?_) (fun c_39 => ?_)
                    · have k_40 : (z_31).toInt ≤ (8 : Int) := z_le c_39
                      refine lv_iconst (v := 2) hx hb dX12_take_162 (by decide) ?_
                      refine va_put (D := (dC, dI)) (ci := 12) (v := .int 2) (ty := .int) (C := RX12) (T := TX12) (N := 70) hx hb hts hiX12 tyX12 tyX12_ok nmX12 hown hK hP hD hS 0 rfl rfl 32 (by decide) w__fieldLink_RX12_221_ShellHeapModel_kindNow_I_ (fun _ h9 => h9) rfl (by decide +kernel) rfl rfl (Nat.le_of_ble_eq_true rfl) dX12_take_163 (fun H_41 locs hP hD hS => ?_)
                      obtain ⟨hP, hD⟩ := z_s_0_32 hP hD
                      refine lv_iload_n hx hb dX12_take_166 rfl (lv_at hl 2 rfl) ?_
                      refine lv_if_eq (tgt := 237) hx hb dX12_take_167 (by decide) (fun _ => ?_) (fun c_42 => absurd (by decide) c_42)
                      refine lv_goto (tgt := 342) hx hb dX12_take_237 (by decide) ?_
                      refine z_backQ hQQ ?_
                      have hP9 := hP
                      have hD9 := hD
                      have hK9 := hK.sub (tys' := []) [] rfl
                      refine W.widen (k := 0) (n := 0) (Nat.le_of_ble_eq_true rfl) (Nat.le_of_ble_eq_true rfl) ?_
                      exact W.vret hx hb hr (fun t ht hW => ⟨⟨(), rfl, trivial, ⟨v_19, 2, (-1), v_4, hF_20, (by decide), hF_5, (show mnx.toInt ≤ v_19.toInt ∧ v_19.toInt ≤ mst.toInt by omega), (show (2 : Int) ≤ 8 * (v_19.toInt - mnx.toInt) by omega), (show v_4.toInt ≤ v_19.toInt by omega), (show z_tk8 (2 : Int) v_19.toInt v_4.toInt from fun h9 => by omega), (show z_tkw (-1 : Int) (2 : Int) from fun h9 h8 h7 => by omega), by rw [ht]; exact hP9, va_K.moved hW.alike hK9, hD9⟩⟩, hS.F ht⟩) hS.2.2 dX12_take_342
                    · have k_43 : (z_31).toInt > (8 : Int) := z_nle c_39
                      refine lv_iconst (v := 5) hx hb dX12_take_158 (by decide) ?_
                      refine lv_goto (tgt := 163) hx hb dX12_take_159 (by decide) ?_
                      refine va_put (D := (dC, dI)) (ci := 12) (v := .int 5) (ty := .int) (C := RX12) (T := TX12) (N := 70) hx hb hts hiX12 tyX12 tyX12_ok nmX12 hown hK hP hD hS 0 rfl rfl 32 (by decide) w__fieldLink_RX12_221_ShellHeapModel_kindNow_I_ (fun _ h9 => h9) rfl (by decide +kernel) rfl rfl (Nat.le_of_ble_eq_true rfl) dX12_take_163 (fun H_44 locs hP hD hS => ?_)
                      obtain ⟨hP, hD⟩ := z_s_0_32 hP hD
                      refine lv_iload_n hx hb dX12_take_166 rfl (lv_at hl 2 rfl) ?_
                      refine lv_if_eq (tgt := 237) hx hb dX12_take_167 (by decide) (fun _ => ?_) (fun c_45 => absurd (by decide) c_45)
                      refine lv_goto (tgt := 342) hx hb dX12_take_237 (by decide) ?_
                      refine z_backQ hQQ ?_
                      have hP9 := hP
                      have hD9 := hD
                      have hK9 := hK.sub (tys' := []) [] rfl
                      refine W.widen (k := 0) (n := 0) (Nat.le_of_ble_eq_true rfl) (Nat.le_of_ble_eq_true rfl) ?_
                      exact W.vret hx hb hr (fun t ht hW => ⟨⟨(), rfl, trivial, ⟨v_19, 5, (-1), v_4, hF_20, (by decide), hF_5, (show mnx.toInt ≤ v_19.toInt ∧ v_19.toInt ≤ mst.toInt by omega), (show (5 : Int) ≤ 8 * (v_19.toInt - mnx.toInt) by omega), (show v_4.toInt ≤ v_19.toInt by omega), (show z_tk8 (5 : Int) v_19.toInt v_4.toInt from fun h9 => by omega), (show z_tkw (-1 : Int) (5 : Int) from fun h9 h8 h7 => by omega), by rw [ht]; exact hP9, va_K.moved hW.alike hK9, hD9⟩⟩, hS.F ht⟩) hS.2.2 dX12_take_342
                  · have k_46 : (r_33).toInt ≥ (0 : Int) := z_nlt c_36
                    refine lv_iconst (v := 1) hx hb dX12_take_148 (by decide) ?_
                    refine lv_goto (tgt := 163) hx hb dX12_take_149 (by decide) ?_
                    refine va_put (D := (dC, dI)) (ci := 12) (v := .int 1) (ty := .int) (C := RX12) (T := TX12) (N := 70) hx hb hts hiX12 tyX12 tyX12_ok nmX12 hown hK hP hD hS 0 rfl rfl 32 (by decide) w__fieldLink_RX12_221_ShellHeapModel_kindNow_I_ (fun _ h9 => h9) rfl (by decide +kernel) rfl rfl (Nat.le_of_ble_eq_true rfl) dX12_take_163 (fun H_47 locs hP hD hS => ?_)
                    obtain ⟨hP, hD⟩ := z_s_0_32 hP hD
                    refine lv_iload_n hx hb dX12_take_166 rfl (lv_at hl 2 rfl) ?_
                    refine lv_if_eq (tgt := 237) hx hb dX12_take_167 (by decide) (fun _ => ?_) (fun c_48 => absurd (by decide) c_48)
                    refine lv_goto (tgt := 342) hx hb dX12_take_237 (by decide) ?_
                    refine z_backQ hQQ ?_
                    have hP9 := hP
                    have hD9 := hD
                    have hK9 := hK.sub (tys' := []) [] rfl
                    refine W.widen (k := 0) (n := 0) (Nat.le_of_ble_eq_true rfl) (Nat.le_of_ble_eq_true rfl) ?_
                    exact W.vret hx hb hr (fun t ht hW => ⟨⟨(), rfl, trivial, ⟨v_19, 1, r_33, v_4, hF_20, (by decide), hF_5, (show mnx.toInt ≤ v_19.toInt ∧ v_19.toInt ≤ mst.toInt by omega), (show (1 : Int) ≤ 8 * (v_19.toInt - mnx.toInt) by omega), (show v_4.toInt ≤ v_19.toInt by omega), (show z_tk8 (1 : Int) v_19.toInt v_4.toInt from fun h9 => by omega), (show z_tkw r_33.toInt (1 : Int) from fun h9 h8 h7 => by omega), by rw [ht]; exact hP9, va_K.moved hW.alike hK9, hD9⟩⟩, hS.F ht⟩) hS.2.2 dX12_take_342
            exact loop_16 _ v_4 _ _ _ (Nat.lt_succ_self _) (show ((0 : Int) ≤ (v_4).toInt ∧ (v_4).toInt ≤ (700 : Int)) by omega) (show (mnx).toInt ≤ (v_4).toInt ∧ (v_4).toInt ≤ (mst).toInt by omega) (show (v_4).toInt ≤ (v_4).toInt by omega) (show (mnx).toInt + 1 ≤ (v_4).toInt ∨ ((v_4).toInt < (mst).toInt ∧ 97 ≤ (fa_te (v_4 : Int32).toNatClampNeg).toInt ∧ (fa_te (v_4 : Int32).toNatClampNeg).toInt ≤ 122) by omega) hP hD hS hl
          · have hw_14 : ¬ (v_4.toInt < mst.toInt ∧ 97 ≤ (fa_te v_4.toNatClampNeg).toInt ∧ (fa_te v_4.toNatClampNeg).toInt ≤ 122) := hw_14
            refine lv_if_eq (tgt := 240) hx hb dX12_take_87 (by decide) (fun _ => ?_) (fun c_49 => absurd (by decide) c_49)
            refine lv_aload_n hx hb dX12_take_240 rfl (lv_at hl 0 rfl) ?_
            refine lv_aload_n hx hb dX12_take_241 rfl (lv_at hl 0 rfl) ?_
            refine va_get (D := (dC, dI)) (ci := 12) (v := .int v_4) (C := RX12) (T := TX12) (N := 70) hx hb hts hiX12 hown hK hP 0 rfl rfl 31 (by decide) w__fieldLink_RX12_207_ShellHeapModel_next_I_ (fun _ h9 => h9) rfl dX12_take_242 ?_
            obtain ⟨hPc, hDc⟩ := z_sub2 (ws' := [(h0, .inr (12, [.ref a_te, h0_1, h0_2, h0_3, h0_4, h0_5, h0_6, h0_7, h0_8, h0_9, h0_10, h0_11, h0_12, h0_13, h0_14, h0_15, h0_16, h0_17, h0_18, h0_19, h0_20, h0_21, h0_22, h0_23, h0_24, h0_25, h0_26, .ref a_wd, .int mf, .int mfp, .int mst, .int v_4, .int mkd, .int mwh, .int v_4, h0_35, h0_36, h0_37, h0_38, h0_39, h0_40, h0_41, h0_42, h0_43, h0_44, h0_45, h0_46, h0_47, h0_48, h0_49, h0_50, h0_51, h0_52, h0_53, h0_54, h0_55, h0_56, h0_57, h0_58, h0_59, h0_60, h0_61, h0_62, h0_63, h0_64, h0_65, h0_66, h0_67, h0_68, h0_69])), (a_te, .inl (ca_te, 700, .inl fa_te))]) hP hD [0, 1] (by decide) rfl
            have hKc := hK.sub (tys' := [(ca_te, .int)]) [0] rfl
            have hFc := va_free (ws := []) (wc := []) (z_D0 _) hS hA [] rfl
            refine va_calli (va_runV (As := [.int v_4]) (rest := []) ⟨hx, hb, hml, hown, hts⟩ (s_X12_isDigit l dC dI H_12.size h0 v_4 a_te h0_1 h0_2 h0_3 h0_4 h0_5 h0_6 h0_7 h0_8 h0_9 h0_10 h0_11 h0_12 h0_13 h0_14 h0_15 h0_16 h0_17 h0_18 h0_19 h0_20 h0_21 h0_22 h0_23 h0_24 h0_25 h0_26 a_wd mf mfp mst v_4 mkd mwh v_4 h0_35 h0_36 h0_37 h0_38 h0_39 h0_40 h0_41 h0_42 h0_43 h0_44 h0_45 h0_46 h0_47 h0_48 h0_49 h0_50 h0_51 h0_52 h0_53 h0_54 h0_55 h0_56 h0_57 h0_58 h0_59 h0_60 h0_61 h0_62 h0_63 h0_64 h0_65 h0_66 h0_67 h0_68 h0_69 ca_te fa_te hB_mst hF_5 hB_mkd hF_5 hF_5 hI_a_te) (cwV 1 hts gw_s_X12_take_r_s_X12_isDigit_217 rfl rfl rfl (by decide +kernel) ⟨Nat.le_of_ble_eq_true rfl, Nat.le_of_ble_eq_true rfl⟩) ⟨z_blind, va_recv hKc hPc (ci := 12) (q0 := 0) rfl rfl, z_pre hPc hKc hDc⟩ rfl rfl hl.1 rfl (lv_room (Nat.le_of_ble_eq_true rfl)) dX12_take_245 ⟨Nat.le_of_ble_eq_true rfl, Nat.le_of_ble_eq_true rfl⟩) hS (fun q _ h => hFc q h) hFc (fun r_51 u t H_50 locs ht hvm hw_52 hB hz1 hk1 hS => ?_)
            replace hP := z_pure hP hk1
            clear hPc hDc hKc
            rcases hw_52 with ⟨rfl, hw_52⟩ | ⟨rfl, hw_52⟩
            · have hw_52 : (v_4.toInt < mst.toInt ∧ 48 ≤ (fa_te v_4.toNatClampNeg).toInt ∧ (fa_te v_4.toNatClampNeg).toInt ≤ 57) := hw_52
              refine lv_if_eq (tgt := 263) hx hb dX12_take_248 (by decide) (fun c_53 => absurd c_53 (by decide)) (fun _ => ?_)
              refine lv_aload_n hx hb dX12_take_251 rfl (lv_at hl 0 rfl) ?_
              refine lv_iconst (v := 3) hx hb dX12_take_252 (by decide) ?_
              refine va_put (D := (dC, dI)) (ci := 12) (v := .int 3) (ty := .int) (C := RX12) (T := TX12) (N := 70) hx hb hts hiX12 tyX12 tyX12_ok nmX12 hown hK hP hD hS 0 rfl rfl 32 (by decide) w__fieldLink_RX12_221_ShellHeapModel_kindNow_I_ (fun _ h9 => h9) rfl (by decide +kernel) rfl rfl (Nat.le_of_ble_eq_true rfl) dX12_take_253 (fun H_54 locs hP hD hS => ?_)
              obtain ⟨hP, hD⟩ := z_s_0_32 hP hD
              refine lv_aload_n hx hb dX12_take_256 rfl (lv_at hl 0 rfl) ?_
              obtain ⟨hPc, hDc, hFc⟩ := z_sub3 (ws' := [(h0, .inr (12, [.ref a_te, h0_1, h0_2, h0_3, h0_4, h0_5, h0_6, h0_7, h0_8, h0_9, h0_10, h0_11, h0_12, h0_13, h0_14, h0_15, h0_16, h0_17, h0_18, h0_19, h0_20, h0_21, h0_22, h0_23, h0_24, h0_25, h0_26, .ref a_wd, .int mf, .int mfp, .int mst, .int v_4, .int 3, .int mwh, .int v_4, h0_35, h0_36, h0_37, h0_38, h0_39, h0_40, h0_41, h0_42, h0_43, h0_44, h0_45, h0_46, h0_47, h0_48, h0_49, h0_50, h0_51, h0_52, h0_53, h0_54, h0_55, h0_56, h0_57, h0_58, h0_59, h0_60, h0_61, h0_62, h0_63, h0_64, h0_65, h0_66, h0_67, h0_68, h0_69])), (a_te, .inl (ca_te, 700, .inl fa_te))]) hP hD hS hA [0, 1] (by decide) rfl
              have hKc := hK.sub (tys' := [(ca_te, .int)]) [0] rfl
              refine va_callv (va_runV (As := []) (rest := []) ⟨hx, hb, hml, hown, hts⟩ (s_X12_digits l dC dI H_54.size h0 a_te h0_1 h0_2 h0_3 h0_4 h0_5 h0_6 h0_7 h0_8 h0_9 h0_10 h0_11 h0_12 h0_13 h0_14 h0_15 h0_16 h0_17 h0_18 h0_19 h0_20 h0_21 h0_22 h0_23 h0_24 h0_25 h0_26 a_wd mf mfp mst v_4 3 mwh v_4 h0_35 h0_36 h0_37 h0_38 h0_39 h0_40 h0_41 h0_42 h0_43 h0_44 h0_45 h0_46 h0_47 h0_48 h0_49 h0_50 h0_51 h0_52 h0_53 h0_54 h0_55 h0_56 h0_57 h0_58 h0_59 h0_60 h0_61 h0_62 h0_63 h0_64 h0_65 h0_66 h0_67 h0_68 h0_69 ca_te fa_te hB_mst hF_5 (by decide) hF_5 hI_a_te (by first | omega | decide)) (cwV 0 hts gw_s_X12_take_r_s_X12_digits_230 rfl rfl rfl (by decide +kernel) ⟨Nat.le_of_ble_eq_true rfl, Nat.le_of_ble_eq_true rfl⟩) ⟨z_blind, va_recv hKc hPc (ci := 12) (q0 := 0) rfl rfl, z_pre hPc hKc hDc⟩ rfl rfl hl.1 rfl (lv_room (Nat.le_of_ble_eq_true rfl)) dX12_take_257 ⟨Nat.le_of_ble_eq_true rfl, Nat.le_of_ble_eq_true rfl⟩) hS (fun q _ h => hFc q h) hFc (fun u t H_55 locs ht hvm hw_57 hB hz1 hk1 hS => ?_)
              obtain ⟨n_h0_next_58, n_h0_which_59, hp_60, hp_61, hp_62, hP1, hK1, hD1⟩ := hB
              rw [ht] at hP1
              have hK1 := va_K.moved hvm.symm hK1
              obtain ⟨hP, hD⟩ := z_ap_1 (va_join (wr := [(a_wd, .inl (ca_wd, 115, .inl fa_wd))]) hP hD [0, 1] [2] rfl rfl (by decide) (by decide) hk1 hFc hP1 hD1)
              have hp_62 : v_4.toInt + 1 ≤ n_h0_next_58.toInt ∧ n_h0_next_58.toInt ≤ mst.toInt := hp_62
              clear hPc hDc hKc
              refine lv_goto (tgt := 342) hx hb dX12_take_260 (by decide) ?_
              refine z_backQ hQQ ?_
              obtain ⟨hP9, hD9⟩ := z_sub2 (ws' := [(h0, .inr (12, [.ref a_te, h0_1, h0_2, h0_3, h0_4, h0_5, h0_6, h0_7, h0_8, h0_9, h0_10, h0_11, h0_12, h0_13, h0_14, h0_15, h0_16, h0_17, h0_18, h0_19, h0_20, h0_21, h0_22, h0_23, h0_24, h0_25, h0_26, .ref a_wd, .int mf, .int mfp, .int mst, .int n_h0_next_58, .int 3, .int n_h0_which_59, .int v_4, h0_35, h0_36, h0_37, h0_38, h0_39, h0_40, h0_41, h0_42, h0_43, h0_44, h0_45, h0_46, h0_47, h0_48, h0_49, h0_50, h0_51, h0_52, h0_53, h0_54, h0_55, h0_56, h0_57, h0_58, h0_59, h0_60, h0_61, h0_62, h0_63, h0_64, h0_65, h0_66, h0_67, h0_68, h0_69])), (a_te, .inl (ca_te, 700, .inl fa_te)), (a_wd, .inl (ca_wd, 115, .inl fa_wd))]) hP hD [1, 2, 0] (by decide) rfl
              have hK9 := hK.sub (tys' := []) [] rfl
              refine W.widen (k := 0) (n := 0) (Nat.le_of_ble_eq_true rfl) (Nat.le_of_ble_eq_true rfl) ?_
              exact W.vret hx hb hr (fun t ht hW => ⟨⟨(), rfl, trivial, ⟨n_h0_next_58, 3, n_h0_which_59, v_4, hp_60, (by decide), hF_5, (show mnx.toInt ≤ n_h0_next_58.toInt ∧ n_h0_next_58.toInt ≤ mst.toInt by omega), (show (3 : Int) ≤ 8 * (n_h0_next_58.toInt - mnx.toInt) by omega), (show v_4.toInt ≤ n_h0_next_58.toInt by omega), (show z_tk8 (3 : Int) n_h0_next_58.toInt v_4.toInt from fun h9 => by omega), (show z_tkw n_h0_which_59.toInt (3 : Int) from fun h9 h8 h7 => by omega), by rw [ht]; exact hP9, va_K.moved hW.alike hK9, hD9⟩⟩, hS.F ht⟩) hS.2.2 dX12_take_342
            · have hw_52 : ¬ (v_4.toInt < mst.toInt ∧ 48 ≤ (fa_te v_4.toNatClampNeg).toInt ∧ (fa_te v_4.toNatClampNeg).toInt ≤ 57) := hw_52
              refine lv_if_eq (tgt := 263) hx hb dX12_take_248 (by decide) (fun _ => ?_) (fun c_63 => absurd (by decide) c_63)
              refine lv_aload_n hx hb dX12_take_263 rfl (lv_at hl 0 rfl) ?_
              refine va_get (D := (dC, dI)) (ci := 12) (v := .ref a_te) (C := RX12) (T := TX12) (N := 70) hx hb hts hiX12 hown hK hP 0 rfl rfl 0 (by decide) w__fieldLink_RX12_7_ShellHeapModel_tape_I_ (fun _ h9 => h9) rfl dX12_take_264 ?_
              refine lv_aload_n hx hb dX12_take_267 rfl (lv_at hl 0 rfl) ?_
              refine va_get (D := (dC, dI)) (ci := 12) (v := .int v_4) (C := RX12) (T := TX12) (N := 70) hx hb hts hiX12 hown hK hP 0 rfl rfl 31 (by decide) w__fieldLink_RX12_207_ShellHeapModel_next_I_ (fun _ h9 => h9) rfl dX12_take_268 ?_
              refine va_iald hx hb hK hP 1 0 rfl rfl (z_vpin (by omega) (by omega)) dX12_take_271 ?_
              refine lv_topi (fun z_64 ez_64 => ?_)
              have kz_64 : ((0 : Int) ≤ (z_64).toInt ∧ (z_64).toInt ≤ (255 : Int)) := by rw [ez_64]; exact hI_a_te _
              refine lv_istore_n (lv' := [(2, .int z_64), (0, .ref h0), (1, .int 0)]) hx hb dX12_take_272 rfl hl (by decide) rfl (fun ls hl => ?_)
              refine lv_aload_n hx hb dX12_take_273 rfl (lv_at hl 1 rfl) ?_
              refine lv_dup hx hb dX12_take_274 rfl ?_
              refine va_get (D := (dC, dI)) (ci := 12) (v := .int v_4) (C := RX12) (T := TX12) (N := 70) hx hb hts hiX12 hown hK hP 0 rfl rfl 31 (by decide) w__fieldLink_RX12_207_ShellHeapModel_next_I_ (fun _ h9 => h9) rfl dX12_take_275 ?_
              refine lv_iconst (v := 1) hx hb dX12_take_278 (by decide) ?_
              refine lv_iadd hx hb dX12_take_279 ?_
              refine lv_topi (fun z_65 ez_65 => ?_)
              have kz_65 : (z_65).toInt = (v_4).toInt + (1 : Int) := by rw [ez_65]; exact z_add (a := (v_4).toInt) (b := (1 : Int)) rfl rfl (z_al hF_5.1 (by decide)) (z_ah hF_5.2 (by decide))
              refine va_put (D := (dC, dI)) (ci := 12) (v := .int z_65) (ty := .int) (C := RX12) (T := TX12) (N := 70) hx hb hts hiX12 tyX12 tyX12_ok nmX12 hown hK hP hD hS 0 rfl rfl 31 (by decide) w__fieldLink_RX12_207_ShellHeapModel_next_I_ (fun _ h9 => h9) rfl (by decide +kernel) rfl rfl (Nat.le_of_ble_eq_true rfl) dX12_take_280 (fun H_66 locs hP hD hS => ?_)
              obtain ⟨hP, hD⟩ := z_s_0_31 hP hD
              refine lv_aload_n hx hb dX12_take_283 rfl (lv_at hl 1 rfl) ?_
              refine lv_aload_n hx hb dX12_take_284 rfl (lv_at hl 1 rfl) ?_
              refine lv_iload_n hx hb dX12_take_285 rfl (lv_at hl 0 rfl) ?_
              obtain ⟨hPc, hDc⟩ := z_sub2 (ws' := [(h0, .inr (12, [.ref a_te, h0_1, h0_2, h0_3, h0_4, h0_5, h0_6, h0_7, h0_8, h0_9, h0_10, h0_11, h0_12, h0_13, h0_14, h0_15, h0_16, h0_17, h0_18, h0_19, h0_20, h0_21, h0_22, h0_23, h0_24, h0_25, h0_26, .ref a_wd, .int mf, .int mfp, .int mst, .int z_65, .int mkd, .int mwh, .int v_4, h0_35, h0_36, h0_37, h0_38, h0_39, h0_40, h0_41, h0_42, h0_43, h0_44, h0_45, h0_46, h0_47, h0_48, h0_49, h0_50, h0_51, h0_52, h0_53, h0_54, h0_55, h0_56, h0_57, h0_58, h0_59, h0_60, h0_61, h0_62, h0_63, h0_64, h0_65, h0_66, h0_67, h0_68, h0_69])), (a_te, .inl (ca_te, 700, .inl fa_te))]) hP hD [0, 1] (by decide) rfl
              have hKc := hK.sub (tys' := [(ca_te, .int)]) [0] rfl
              have hFc := va_free (ws := []) (wc := []) (z_D0 _) hS hA [] rfl
              refine va_calli (va_runV (As := [.int z_64]) (rest := [.ref h0]) ⟨hx, hb, hml, hown, hts⟩ (s_X12_signOf l dC dI H_66.size h0 z_64 a_te h0_1 h0_2 h0_3 h0_4 h0_5 h0_6 h0_7 h0_8 h0_9 h0_10 h0_11 h0_12 h0_13 h0_14 h0_15 h0_16 h0_17 h0_18 h0_19 h0_20 h0_21 h0_22 h0_23 h0_24 h0_25 h0_26 a_wd mf mfp mst z_65 mkd mwh v_4 h0_35 h0_36 h0_37 h0_38 h0_39 h0_40 h0_41 h0_42 h0_43 h0_44 h0_45 h0_46 h0_47 h0_48 h0_49 h0_50 h0_51 h0_52 h0_53 h0_54 h0_55 h0_56 h0_57 h0_58 h0_59 h0_60 h0_61 h0_62 h0_63 h0_64 h0_65 h0_66 h0_67 h0_68 h0_69 ca_te fa_te hB_mst (by first | omega | decide) hB_mkd hF_5 kz_64 hI_a_te) (cwV 1 hts gw_s_X12_take_r_s_X12_signOf_233 rfl rfl rfl (by decide +kernel) ⟨Nat.le_of_ble_eq_true rfl, Nat.le_of_ble_eq_true rfl⟩) ⟨z_blind, va_recv hKc hPc (ci := 12) (q0 := 0) rfl rfl, z_pre hPc hKc hDc⟩ rfl rfl hl.1 rfl (lv_room (Nat.le_of_ble_eq_true rfl)) dX12_take_286 ⟨Nat.le_of_ble_eq_true rfl, Nat.le_of_ble_eq_true rfl⟩) hS (fun q _ h => hFc q h) hFc (fun r_68 u t H_67 locs ht hvm hw_69 hB hz1 hk1 hS => ?_)
              replace hP := z_pure hP hk1
              clear hPc hDc hKc
              refine va_put (D := (dC, dI)) (ci := 12) (v := .int r_68) (ty := .int) (C := RX12) (T := TX12) (N := 70) hx hb hts hiX12 tyX12 tyX12_ok nmX12 hown hK hP hD hS 0 rfl rfl 33 (by decide) w__fieldLink_RX12_214_ShellHeapModel_which_I_ (fun _ h9 => h9) rfl (by decide +kernel) rfl rfl (Nat.le_of_ble_eq_true rfl) dX12_take_289 (fun H_70 locs hP hD hS => ?_)
              obtain ⟨hP, hD⟩ := z_s_0_33 hP hD
              refine lv_aload_n hx hb dX12_take_292 rfl (lv_at hl 1 rfl) ?_
              refine lv_aload_n hx hb dX12_take_293 rfl (lv_at hl 1 rfl) ?_
              refine va_get (D := (dC, dI)) (ci := 12) (v := .int r_68) (C := RX12) (T := TX12) (N := 70) hx hb hts hiX12 hown hK hP 0 rfl rfl 33 (by decide) w__fieldLink_RX12_214_ShellHeapModel_which_I_ (fun _ h9 => h9) rfl dX12_take_294 ?_
              refine lv_if_ge (tgt := 304) hx hb dX12_take_297 (by decide) (fun c_71 => ?_) (fun c_71 => ?_)
              · have k_72 : (0 : Int) ≤ (r_68).toInt := z_le c_71
                refine lv_iconst (v := 4) hx hb dX12_take_304 (by decide) ?_
                refine va_put (D := (dC, dI)) (ci := 12) (v := .int 4) (ty := .int) (C := RX12) (T := TX12) (N := 70) hx hb hts hiX12 tyX12 tyX12_ok nmX12 hown hK hP hD hS 0 rfl rfl 32 (by decide) w__fieldLink_RX12_221_ShellHeapModel_kindNow_I_ (fun _ h9 => h9) rfl (by decide +kernel) rfl rfl (Nat.le_of_ble_eq_true rfl) dX12_take_305 (fun H_73 locs hP hD hS => ?_)
                obtain ⟨hP, hD⟩ := z_s_0_32 hP hD
                refine lv_aload_n hx hb dX12_take_308 rfl (lv_at hl 1 rfl) ?_
                refine va_get (D := (dC, dI)) (ci := 12) (v := .int r_68) (C := RX12) (T := TX12) (N := 70) hx hb hts hiX12 hown hK hP 0 rfl rfl 33 (by decide) w__fieldLink_RX12_214_ShellHeapModel_which_I_ (fun _ h9 => h9) rfl dX12_take_309 ?_
                refine lv_iconst (v := 2) hx hb dX12_take_312 (by decide) ?_
                refine lv_icmp_eq (tgt := 332) hx hb dX12_take_313 (by decide) (fun c_74 => ?_) (fun c_74 => ?_)
                · have k_75 : (r_68).toInt = (2 : Int) := z_eq c_74
                  obtain rfl : r_68 = 2 := z_eq' (show (r_68).toInt = (2 : Int) by omega)
                  refine lv_aload_n hx hb dX12_take_332 rfl (lv_at hl 1 rfl) ?_
                  refine lv_dup hx hb dX12_take_333 rfl ?_
                  refine va_get (D := (dC, dI)) (ci := 12) (v := .int z_65) (C := RX12) (T := TX12) (N := 70) hx hb hts hiX12 hown hK hP 0 rfl rfl 31 (by decide) w__fieldLink_RX12_207_ShellHeapModel_next_I_ (fun _ h9 => h9) rfl dX12_take_334 ?_
                  refine lv_iconst (v := 1) hx hb dX12_take_337 (by decide) ?_
                  refine lv_iadd hx hb dX12_take_338 ?_
                  refine lv_topi (fun z_77 ez_77 => ?_)
                  have kz_77 : (z_77).toInt = (z_65).toInt + (1 : Int) := by rw [ez_77]; exact z_add (a := (z_65).toInt) (b := (1 : Int)) rfl rfl (by omega) (by omega)
                  refine va_put (D := (dC, dI)) (ci := 12) (v := .int z_77) (ty := .int) (C := RX12) (T := TX12) (N := 70) hx hb hts hiX12 tyX12 tyX12_ok nmX12 hown hK hP hD hS 0 rfl rfl 31 (by decide) w__fieldLink_RX12_207_ShellHeapModel_next_I_ (fun _ h9 => h9) rfl (by decide +kernel) rfl rfl (Nat.le_of_ble_eq_true rfl) dX12_take_339 (fun H_78 locs hP hD hS => ?_)
                  obtain ⟨hP, hD⟩ := z_s_0_31 hP hD
                  refine z_backQ hQQ ?_
                  have hP9 := hP
                  have hD9 := hD
                  have hK9 := hK.sub (tys' := []) [] rfl
                  refine W.widen (k := 0) (n := 0) (Nat.le_of_ble_eq_true rfl) (Nat.le_of_ble_eq_true rfl) ?_
                  exact W.vret hx hb hr (fun t ht hW => ⟨⟨(), rfl, trivial, ⟨z_77, 4, 2, v_4, (by first | omega | decide), (by decide), hF_5, (show mnx.toInt ≤ z_77.toInt ∧ z_77.toInt ≤ mst.toInt by omega), (show (4 : Int) ≤ 8 * (z_77.toInt - mnx.toInt) by omega), (show v_4.toInt ≤ z_77.toInt by omega), (show z_tk8 (4 : Int) z_77.toInt v_4.toInt from fun h9 => by omega), (show z_tkw (2 : Int) (4 : Int) from fun h9 h8 h7 => by omega), by rw [ht]; exact hP9, va_K.moved hW.alike hK9, hD9⟩⟩, hS.F ht⟩) hS.2.2 dX12_take_342
                · have k_79 : (r_68).toInt ≠ (2 : Int) := z_ne c_74
                  refine lv_aload_n hx hb dX12_take_316 rfl (lv_at hl 1 rfl) ?_
                  refine va_get (D := (dC, dI)) (ci := 12) (v := .int r_68) (C := RX12) (T := TX12) (N := 70) hx hb hts hiX12 hown hK hP 0 rfl rfl 33 (by decide) w__fieldLink_RX12_214_ShellHeapModel_which_I_ (fun _ h9 => h9) rfl dX12_take_317 ?_
                  refine lv_iconst (v := 4) hx hb dX12_take_320 (by decide) ?_
                  refine lv_icmp_eq (tgt := 332) hx hb dX12_take_321 (by decide) (fun c_80 => ?_) (fun c_80 => ?_)
                  · have k_81 : (r_68).toInt = (4 : Int) := z_eq c_80
                    obtain rfl : r_68 = 4 := z_eq' (show (r_68).toInt = (4 : Int) by omega)
                    refine lv_aload_n hx hb dX12_take_332 rfl (lv_at hl 1 rfl) ?_
                    refine lv_dup hx hb dX12_take_333 rfl ?_
                    refine va_get (D := (dC, dI)) (ci := 12) (v := .int z_65) (C := RX12) (T := TX12) (N := 70) hx hb hts hiX12 hown hK hP 0 rfl rfl 31 (by decide) w__fieldLink_RX12_207_ShellHeapModel_next_I_ (fun _ h9 => h9) rfl dX12_take_334 ?_
                    refine lv_iconst (v := 1) hx hb dX12_take_337 (by decide) ?_
                    refine lv_iadd hx hb dX12_take_338 ?_
                    refine lv_topi (fun z_83 ez_83 => ?_)
                    have kz_83 : (z_83).toInt = (z_65).toInt + (1 : Int) := by rw [ez_83]; exact z_add (a := (z_65).toInt) (b := (1 : Int)) rfl rfl (by omega) (by omega)
                    refine va_put (D := (dC, dI)) (ci := 12) (v := .int z_83) (ty := .int) (C := RX12) (T := TX12) (N := 70) hx hb hts hiX12 tyX12 tyX12_ok nmX12 hown hK hP hD hS 0 rfl rfl 31 (by decide) w__fieldLink_RX12_207_ShellHeapModel_next_I_ (fun _ h9 => h9) rfl (by decide +kernel) rfl rfl (Nat.le_of_ble_eq_true rfl) dX12_take_339 (fun H_84 locs hP hD hS => ?_)
                    obtain ⟨hP, hD⟩ := z_s_0_31 hP hD
                    refine z_backQ hQQ ?_
                    have hP9 := hP
                    have hD9 := hD
                    have hK9 := hK.sub (tys' := []) [] rfl
                    refine W.widen (k := 0) (n := 0) (Nat.le_of_ble_eq_true rfl) (Nat.le_of_ble_eq_true rfl) ?_
                    exact W.vret hx hb hr (fun t ht hW => ⟨⟨(), rfl, trivial, ⟨z_83, 4, 4, v_4, (by first | omega | decide), (by decide), hF_5, (show mnx.toInt ≤ z_83.toInt ∧ z_83.toInt ≤ mst.toInt by omega), (show (4 : Int) ≤ 8 * (z_83.toInt - mnx.toInt) by omega), (show v_4.toInt ≤ z_83.toInt by omega), (show z_tk8 (4 : Int) z_83.toInt v_4.toInt from fun h9 => by omega), (show z_tkw (4 : Int) (4 : Int) from fun h9 h8 h7 => by omega), by rw [ht]; exact hP9, va_K.moved hW.alike hK9, hD9⟩⟩, hS.F ht⟩) hS.2.2 dX12_take_342
                  · have k_85 : (r_68).toInt ≠ (4 : Int) := z_ne c_80
                    refine lv_aload_n hx hb dX12_take_324 rfl (lv_at hl 1 rfl) ?_
                    refine va_get (D := (dC, dI)) (ci := 12) (v := .int r_68) (C := RX12) (T := TX12) (N := 70) hx hb hts hiX12 hown hK hP 0 rfl rfl 33 (by decide) w__fieldLink_RX12_214_ShellHeapModel_which_I_ (fun _ h9 => h9) rfl dX12_take_325 ?_
                    refine lv_iconst (v := 5) hx hb dX12_take_328 (by decide) ?_
                    refine lv_icmp_ne (tgt := 342) hx hb dX12_take_329 (by decide) (fun c_86 => ?_) (fun c_86 => ?_)
                    · have k_87 : (r_68).toInt ≠ (5 : Int) := z_ne c_86
                      refine z_backQ hQQ ?_
                      have hP9 := hP
                      have hD9 := hD
                      have hK9 := hK.sub (tys' := []) [] rfl
                      refine W.widen (k := 0) (n := 0) (Nat.le_of_ble_eq_true rfl) (Nat.le_of_ble_eq_true rfl) ?_
                      exact W.vret hx hb hr (fun t ht hW => ⟨⟨(), rfl, trivial, ⟨z_65, 4, r_68, v_4, (by first | omega | decide), (by decide), hF_5, (show mnx.toInt ≤ z_65.toInt ∧ z_65.toInt ≤ mst.toInt by omega), (show (4 : Int) ≤ 8 * (z_65.toInt - mnx.toInt) by omega), (show v_4.toInt ≤ z_65.toInt by omega), (show z_tk8 (4 : Int) z_65.toInt v_4.toInt from fun h9 => by omega), (show z_tkw r_68.toInt (4 : Int) from fun h9 h8 h7 => by omega), by rw [ht]; exact hP9, va_K.moved hW.alike hK9, hD9⟩⟩, hS.F ht⟩) hS.2.2 dX12_take_342
                    · have k_88 : (r_68).toInt = (5 : Int) := z_eq c_86
                      obtain rfl : r_68 = 5 := z_eq' (show (r_68).toInt = (5 : Int) by omega)
                      refine lv_aload_n hx hb dX12_take_332 rfl (lv_at hl 1 rfl) ?_
                      refine lv_dup hx hb dX12_take_333 rfl ?_
                      refine va_get (D := (dC, dI)) (ci := 12) (v := .int z_65) (C := RX12) (T := TX12) (N := 70) hx hb hts hiX12 hown hK hP 0 rfl rfl 31 (by decide) w__fieldLink_RX12_207_ShellHeapModel_next_I_ (fun _ h9 => h9) rfl dX12_take_334 ?_
                      refine lv_iconst (v := 1) hx hb dX12_take_337 (by decide) ?_
                      refine lv_iadd hx hb dX12_take_338 ?_
                      refine lv_topi (fun z_90 ez_90 => ?_)
                      have kz_90 : (z_90).toInt = (z_65).toInt + (1 : Int) := by rw [ez_90]; exact z_add (a := (z_65).toInt) (b := (1 : Int)) rfl rfl (by omega) (by omega)
                      refine va_put (D := (dC, dI)) (ci := 12) (v := .int z_90) (ty := .int) (C := RX12) (T := TX12) (N := 70) hx hb hts hiX12 tyX12 tyX12_ok nmX12 hown hK hP hD hS 0 rfl rfl 31 (by decide) w__fieldLink_RX12_207_ShellHeapModel_next_I_ (fun _ h9 => h9) rfl (by decide +kernel) rfl rfl (Nat.le_of_ble_eq_true rfl) dX12_take_339 (fun H_91 locs hP hD hS => ?_)
                      obtain ⟨hP, hD⟩ := z_s_0_31 hP hD
                      refine z_backQ hQQ ?_
                      have hP9 := hP
                      have hD9 := hD
                      have hK9 := hK.sub (tys' := []) [] rfl
                      refine W.widen (k := 0) (n := 0) (Nat.le_of_ble_eq_true rfl) (Nat.le_of_ble_eq_true rfl) ?_
                      exact W.vret hx hb hr (fun t ht hW => ⟨⟨(), rfl, trivial, ⟨z_90, 4, 5, v_4, (by first | omega | decide), (by decide), hF_5, (show mnx.toInt ≤ z_90.toInt ∧ z_90.toInt ≤ mst.toInt by omega), (show (4 : Int) ≤ 8 * (z_90.toInt - mnx.toInt) by omega), (show v_4.toInt ≤ z_90.toInt by omega), (show z_tk8 (4 : Int) z_90.toInt v_4.toInt from fun h9 => by omega), (show z_tkw (5 : Int) (4 : Int) from fun h9 h8 h7 => by omega), by rw [ht]; exact hP9, va_K.moved hW.alike hK9, hD9⟩⟩, hS.F ht⟩) hS.2.2 dX12_take_342
              · have k_92 : (0 : Int) > (r_68).toInt := z_nle c_71
                obtain rfl : r_68 = (-1) := z_eq' (show (r_68).toInt = (-1 : Int) by omega)
                refine lv_iconst (v := 5) hx hb dX12_take_300 (by decide) ?_
                refine lv_goto (tgt := 305) hx hb dX12_take_301 (by decide) ?_
                refine va_put (D := (dC, dI)) (ci := 12) (v := .int 5) (ty := .int) (C := RX12) (T := TX12) (N := 70) hx hb hts hiX12 tyX12 tyX12_ok nmX12 hown hK hP hD hS 0 rfl rfl 32 (by decide) w__fieldLink_RX12_221_ShellHeapModel_kindNow_I_ (fun _ h9 => h9) rfl (by decide +kernel) rfl rfl (Nat.le_of_ble_eq_true rfl) dX12_take_305 (fun H_94 locs hP hD hS => ?_)
                obtain ⟨hP, hD⟩ := z_s_0_32 hP hD
                refine lv_aload_n hx hb dX12_take_308 rfl (lv_at hl 1 rfl) ?_
                refine va_get (D := (dC, dI)) (ci := 12) (v := .int (-1)) (C := RX12) (T := TX12) (N := 70) hx hb hts hiX12 hown hK hP 0 rfl rfl 33 (by decide) w__fieldLink_RX12_214_ShellHeapModel_which_I_ (fun _ h9 => h9) rfl dX12_take_309 ?_
                refine lv_iconst (v := 2) hx hb dX12_take_312 (by decide) ?_
                refine lv_icmp_eq (tgt := 332) hx hb dX12_take_313 (by decide) (fun c_95 => absurd c_95 (by decide)) (fun _ => ?_)
                refine lv_aload_n hx hb dX12_take_316 rfl (lv_at hl 1 rfl) ?_
                refine va_get (D := (dC, dI)) (ci := 12) (v := .int (-1)) (C := RX12) (T := TX12) (N := 70) hx hb hts hiX12 hown hK hP 0 rfl rfl 33 (by decide) w__fieldLink_RX12_214_ShellHeapModel_which_I_ (fun _ h9 => h9) rfl dX12_take_317 ?_
                refine lv_iconst (v := 4) hx hb dX12_take_320 (by decide) ?_
                refine lv_icmp_eq (tgt := 332) hx hb dX12_take_321 (by decide) (fun c_96 => absurd c_96 (by decide)) (fun _ => ?_)
                refine lv_aload_n hx hb dX12_take_324 rfl (lv_at hl 1 rfl) ?_
                refine va_get (D := (dC, dI)) (ci := 12) (v := .int (-1)) (C := RX12) (T := TX12) (N := 70) hx hb hts hiX12 hown hK hP 0 rfl rfl 33 (by decide) w__fieldLink_RX12_214_ShellHeapModel_which_I_ (fun _ h9 => h9) rfl dX12_take_325 ?_
                refine lv_iconst (v := 5) hx hb dX12_take_328 (by decide) ?_
                refine lv_icmp_ne (tgt := 342) hx hb dX12_take_329 (by decide) (fun _ => ?_) (fun c_97 => absurd c_97 (by decide))
                refine z_backQ hQQ ?_
                have hP9 := hP
                have hD9 := hD
                have hK9 := hK.sub (tys' := []) [] rfl
                refine W.widen (k := 0) (n := 0) (Nat.le_of_ble_eq_true rfl) (Nat.le_of_ble_eq_true rfl) ?_
                exact W.vret hx hb hr (fun t ht hW => ⟨⟨(), rfl, trivial, ⟨z_65, 5, (-1), v_4, (by first | omega | decide), (by decide), hF_5, (show mnx.toInt ≤ z_65.toInt ∧ z_65.toInt ≤ mst.toInt by omega), (show (5 : Int) ≤ 8 * (z_65.toInt - mnx.toInt) by omega), (show v_4.toInt ≤ z_65.toInt by omega), (show z_tk8 (5 : Int) z_65.toInt v_4.toInt from fun h9 => by omega), (show z_tkw (-1 : Int) (5 : Int) from fun h9 h8 h7 => by omega), by rw [ht]; exact hP9, va_K.moved hW.alike hK9, hD9⟩⟩, hS.F ht⟩) hS.2.2 dX12_take_342
        · have k_98 : (v_4).toInt = (mst).toInt := z_eq c_10
          refine lv_aload_n hx hb dX12_take_71 rfl (lv_at hl 0 rfl) ?_
          refine lv_iconst (v := 0) hx hb dX12_take_72 (by decide) ?_
          refine va_put (D := (dC, dI)) (ci := 12) (v := .int 0) (ty := .int) (C := RX12) (T := TX12) (N := 70) hx hb hts hiX12 tyX12 tyX12_ok nmX12 hown hK hP hD hS 0 rfl rfl 32 (by decide) w__fieldLink_RX12_221_ShellHeapModel_kindNow_I_ (fun _ h9 => h9) rfl (by decide +kernel) rfl rfl (Nat.le_of_ble_eq_true rfl) dX12_take_73 (fun H_99 locs hP hD hS => ?_)
          obtain ⟨hP, hD⟩ := z_s_0_32 hP hD
          refine lv_goto (tgt := 342) hx hb dX12_take_76 (by decide) ?_
          refine z_backQ hQQ ?_
          have hP9 := hP
          have hD9 := hD
          have hK9 := hK.sub (tys' := []) [] rfl
          refine W.widen (k := 0) (n := 0) (Nat.le_of_ble_eq_true rfl) (Nat.le_of_ble_eq_true rfl) ?_
          exact W.vret hx hb hr (fun t ht hW => ⟨⟨(), rfl, trivial, ⟨v_4, 0, mwh, v_4, hF_5, (by decide), hF_5, (show mnx.toInt ≤ v_4.toInt ∧ v_4.toInt ≤ mst.toInt by omega), (show (0 : Int) ≤ 8 * (v_4.toInt - mnx.toInt) by omega), (show v_4.toInt ≤ v_4.toInt by omega), (show z_tk8 (0 : Int) v_4.toInt v_4.toInt from fun h9 => by omega), (show z_tkw mwh.toInt (0 : Int) from fun h9 h8 h7 => by omega), by rw [ht]; exact hP9, va_K.moved hW.alike hK9, hD9⟩⟩, hS.F ht⟩) hS.2.2 dX12_take_342
      · have k_100 : (mst).toInt > (v_4).toInt := z_nle c_7
        refine lv_aload_n hx hb dX12_take_11 rfl (lv_at hl 0 rfl) ?_
        refine va_get (D := (dC, dI)) (ci := 12) (v := .ref a_te) (C := RX12) (T := TX12) (N := 70) hx hb hts hiX12 hown hK hP 0 rfl rfl 0 (by decide) w__fieldLink_RX12_7_ShellHeapModel_tape_I_ (fun _ h9 => h9) rfl dX12_take_12 ?_
        refine lv_aload_n hx hb dX12_take_15 rfl (lv_at hl 0 rfl) ?_
        refine va_get (D := (dC, dI)) (ci := 12) (v := .int v_4) (C := RX12) (T := TX12) (N := 70) hx hb hts hiX12 hown hK hP 0 rfl rfl 31 (by decide) w__fieldLink_RX12_207_ShellHeapModel_next_I_ (fun _ h9 => h9) rfl dX12_take_16 ?_
        refine va_iald hx hb hK hP 1 0 rfl rfl (z_vpin (by omega) (by omega)) dX12_take_19 ?_
        refine lv_topi (fun z_101 ez_101 => ?_)
        have kz_101 : ((0 : Int) ≤ (z_101).toInt ∧ (z_101).toInt ≤ (255 : Int)) := by rw [ez_101]; exact hI_a_te _
        refine lv_bipush (v := 10) hx hb dX12_take_20 (by decide) ?_
        refine lv_icmp_eq (tgt := 39) hx hb dX12_take_22 (by decide) (fun c_102 => ?_) (fun c_102 => ?_)
        · have k_103 : (z_101).toInt = (10 : Int) := z_eq c_102
          obtain rfl : z_101 = 10 := z_eq' (show (z_101).toInt = (10 : Int) by omega)
          refine lv_aload_n hx hb dX12_take_39 rfl (lv_at hl 0 rfl) ?_
          refine lv_dup hx hb dX12_take_40 rfl ?_
          refine va_get (D := (dC, dI)) (ci := 12) (v := .int v_4) (C := RX12) (T := TX12) (N := 70) hx hb hts hiX12 hown hK hP 0 rfl rfl 31 (by decide) w__fieldLink_RX12_207_ShellHeapModel_next_I_ (fun _ h9 => h9) rfl dX12_take_41 ?_
          refine lv_iconst (v := 1) hx hb dX12_take_44 (by decide) ?_
          refine lv_iadd hx hb dX12_take_45 ?_
          refine lv_topi (fun z_105 ez_105 => ?_)
          have kz_105 : (z_105).toInt = (v_4).toInt + (1 : Int) := by rw [ez_105]; exact z_add (a := (v_4).toInt) (b := (1 : Int)) rfl rfl (z_al hF_5.1 (by decide)) (z_ah hF_5.2 (by decide))
          refine va_put (D := (dC, dI)) (ci := 12) (v := .int z_105) (ty := .int) (C := RX12) (T := TX12) (N := 70) hx hb hts hiX12 tyX12 tyX12_ok nmX12 hown hK hP hD hS 0 rfl rfl 31 (by decide) w__fieldLink_RX12_207_ShellHeapModel_next_I_ (fun _ h9 => h9) rfl (by decide +kernel) rfl rfl (Nat.le_of_ble_eq_true rfl) dX12_take_46 (fun H_106 locs hP hD hS => ?_)
          obtain ⟨hP, hD⟩ := z_s_0_31 hP hD
          refine lv_goto (tgt := 0) hx hb dX12_take_49 (by decide) ?_
          exact ih_3 z_105 _ _ _ (show (701 - (z_105).toInt).toNat < n_2 by omega) (show ((0 : Int) ≤ (z_105).toInt ∧ (z_105).toInt ≤ (700 : Int)) by omega) (show (mnx).toInt ≤ (z_105).toInt ∧ (z_105).toInt ≤ (mst).toInt by omega) hP hD hS (lv_sub hl [0, 1] rfl)
        · have k_107 : (z_101).toInt ≠ (10 : Int) := z_ne c_102
          refine lv_aload_n hx hb dX12_take_25 rfl (lv_at hl 0 rfl) ?_
          refine va_get (D := (dC, dI)) (ci := 12) (v := .ref a_te) (C := RX12) (T := TX12) (N := 70) hx hb hts hiX12 hown hK hP 0 rfl rfl 0 (by decide) w__fieldLink_RX12_7_ShellHeapModel_tape_I_ (fun _ h9 => h9) rfl dX12_take_26 ?_
          refine lv_aload_n hx hb dX12_take_29 rfl (lv_at hl 0 rfl) ?_
          refine va_get (D := (dC, dI)) (ci := 12) (v := .int v_4) (C := RX12) (T := TX12) (N := 70) hx hb hts hiX12 hown hK hP 0 rfl rfl 31 (by decide) w__fieldLink_RX12_207_ShellHeapModel_next_I_ (fun _ h9 => h9) rfl dX12_take_30 ?_
          refine va_iald hx hb hK hP 1 0 rfl rfl (z_vpin (by omega) (by omega)) dX12_take_33 ?_
          refine lv_topi (fun z_108 ez_108 => ?_)
          have kz_108 : ((0 : Int) ≤ (z_108).toInt ∧ (z_108).toInt ≤ (255 : Int)) := by rw [ez_108]; exact hI_a_te _
          refine lv_bipush (v := 32) hx hb dX12_take_34 (by decide) ?_
          refine lv_icmp_ne (tgt := 52) hx hb dX12_take_36 (by decide) (fun c_109 => ?_) (fun c_109 => ?_)
          · have k_110 : (z_108).toInt ≠ (32 : Int) := z_ne c_109
            refine lv_aload_n hx hb dX12_take_52 rfl (lv_at hl 0 rfl) ?_
            refine lv_aload_n hx hb dX12_take_53 rfl (lv_at hl 0 rfl) ?_
            refine va_get (D := (dC, dI)) (ci := 12) (v := .int v_4) (C := RX12) (T := TX12) (N := 70) hx hb hts hiX12 hown hK hP 0 rfl rfl 31 (by decide) w__fieldLink_RX12_207_ShellHeapModel_next_I_ (fun _ h9 => h9) rfl dX12_take_54 ?_
            refine va_put (D := (dC, dI)) (ci := 12) (v := .int v_4) (ty := .int) (C := RX12) (T := TX12) (N := 70) hx hb hts hiX12 tyX12 tyX12_ok nmX12 hown hK hP hD hS 0 rfl rfl 34 (by decide) w__fieldLink_RX12_201_ShellHeapModel_place_I_ (fun _ h9 => h9) rfl (by decide +kernel) rfl rfl (Nat.le_of_ble_eq_true rfl) dX12_take_57 (fun H_111 locs hP hD hS => ?_)
            obtain ⟨hP, hD⟩ := z_s_0_34 hP hD
            refine lv_aload_n hx hb dX12_take_60 rfl (lv_at hl 0 rfl) ?_
            refine va_get (D := (dC, dI)) (ci := 12) (v := .int v_4) (C := RX12) (T := TX12) (N := 70) hx hb hts hiX12 hown hK hP 0 rfl rfl 31 (by decide) w__fieldLink_RX12_207_ShellHeapModel_next_I_ (fun _ h9 => h9) rfl dX12_take_61 ?_
            refine lv_aload_n hx hb dX12_take_64 rfl (lv_at hl 0 rfl) ?_
            refine va_get (D := (dC, dI)) (ci := 12) (v := .int mst) (C := RX12) (T := TX12) (N := 70) hx hb hts hiX12 hown hK hP 0 rfl rfl 30 (by decide) w__fieldLink_RX12_204_ShellHeapModel_stop_I_ (fun _ h9 => h9) rfl dX12_take_65 ?_
            refine lv_icmp_ne (tgt := 79) hx hb dX12_take_68 (by decide) (fun c_112 => ?_) (fun c_112 => ?_)
            · have k_113 : (v_4).toInt ≠ (mst).toInt := z_ne c_112
              refine lv_aload_n hx hb dX12_take_79 rfl (lv_at hl 0 rfl) ?_
              refine lv_aload_n hx hb dX12_take_80 rfl (lv_at hl 0 rfl) ?_
              refine va_get (D := (dC, dI)) (ci := 12) (v := .int v_4) (C := RX12) (T := TX12) (N := 70) hx hb hts hiX12 hown hK hP 0 rfl rfl 31 (by decide) w__fieldLink_RX12_207_ShellHeapModel_next_I_ (fun _ h9 => h9) rfl dX12_take_81 ?_
              obtain ⟨hPc, hDc⟩ := z_sub2 (ws' := [(h0, .inr (12, [.ref a_te, h0_1, h0_2, h0_3, h0_4, h0_5, h0_6, h0_7, h0_8, h0_9, h0_10, h0_11, h0_12, h0_13, h0_14, h0_15, h0_16, h0_17, h0_18, h0_19, h0_20, h0_21, h0_22, h0_23, h0_24, h0_25, h0_26, .ref a_wd, .int mf, .int mfp, .int mst, .int v_4, .int mkd, .int mwh, .int v_4, h0_35, h0_36, h0_37, h0_38, h0_39, h0_40, h0_41, h0_42, h0_43, h0_44, h0_45, h0_46, h0_47, h0_48, h0_49, h0_50, h0_51, h0_52, h0_53, h0_54, h0_55, h0_56, h0_57, h0_58, h0_59, h0_60, h0_61, h0_62, h0_63, h0_64, h0_65, h0_66, h0_67, h0_68, h0_69])), (a_te, .inl (ca_te, 700, .inl fa_te))]) hP hD [0, 1] (by decide) rfl
              have hKc := hK.sub (tys' := [(ca_te, .int)]) [0] rfl
              have hFc := va_free (ws := []) (wc := []) (z_D0 _) hS hA [] rfl
              refine va_calli (va_runV (As := [.int v_4]) (rest := []) ⟨hx, hb, hml, hown, hts⟩ (s_X12_isSmall l dC dI H_111.size h0 v_4 a_te h0_1 h0_2 h0_3 h0_4 h0_5 h0_6 h0_7 h0_8 h0_9 h0_10 h0_11 h0_12 h0_13 h0_14 h0_15 h0_16 h0_17 h0_18 h0_19 h0_20 h0_21 h0_22 h0_23 h0_24 h0_25 h0_26 a_wd mf mfp mst v_4 mkd mwh v_4 h0_35 h0_36 h0_37 h0_38 h0_39 h0_40 h0_41 h0_42 h0_43 h0_44 h0_45 h0_46 h0_47 h0_48 h0_49 h0_50 h0_51 h0_52 h0_53 h0_54 h0_55 h0_56 h0_57 h0_58 h0_59 h0_60 h0_61 h0_62 h0_63 h0_64 h0_65 h0_66 h0_67 h0_68 h0_69 ca_te fa_te hB_mst hF_5 hB_mkd hF_5 hF_5 hI_a_te) (cwV 1 hts gw_s_X12_take_r_s_X12_isSmall_224 rfl rfl rfl (by decide +kernel) ⟨Nat.le_of_ble_eq_true rfl, Nat.le_of_ble_eq_true rfl⟩) ⟨z_blind, va_recv hKc hPc (ci := 12) (q0 := 0) rfl rfl, z_pre hPc hKc hDc⟩ rfl rfl hl.1 rfl (lv_room (Nat.le_of_ble_eq_true rfl)) dX12_take_84 ⟨Nat.le_of_ble_eq_true rfl, Nat.le_of_ble_eq_true rfl⟩) hS (fun q _ h => hFc q h) hFc (fun r_115 u t H_114 locs ht hvm hw_116 hB hz1 hk1 hS => ?_)
              replace hP := z_pure hP hk1
              clear hPc hDc hKc
              rcases hw_116 with ⟨rfl, hw_116⟩ | ⟨rfl, hw_116⟩
              · have hw_116 : (v_4.toInt < mst.toInt ∧ 97 ≤ (fa_te v_4.toNatClampNeg).toInt ∧ (fa_te v_4.toNatClampNeg).toInt ≤ 122) := hw_116
                refine lv_if_eq (tgt := 240) hx hb dX12_take_87 (by decide) (fun c_117 => absurd c_117 (by decide)) (fun _ => ?_)
                have loop_118 : ∀ (n_119 : Nat) (v_121 : Int32) (H : Heap) (locs : List Loc) (ls : Array Slot), (701 - (v_121).toInt).toNat < n_119 → (((0 : Int) ≤ (v_121).toInt ∧ (v_121).toInt ≤ (700 : Int))) → ((mnx).toInt ≤ (v_121).toInt ∧ (v_121).toInt ≤ (mst).toInt) → ((v_4).toInt ≤ (v_121).toInt) → ((mnx).toInt + 1 ≤ (v_121).toInt ∨ ((v_121).toInt < (mst).toInt ∧ 97 ≤ (fa_te (v_121 : Int32).toNatClampNeg).toInt ∧ (fa_te (v_121 : Int32).toNatClampNeg).toInt ≤ 122)) → va_P (dC, dI) vwCl [(h0, .inr (12, [.ref a_te, h0_1, h0_2, h0_3, h0_4, h0_5, h0_6, h0_7, h0_8, h0_9, h0_10, h0_11, h0_12, h0_13, h0_14, h0_15, h0_16, h0_17, h0_18, h0_19, h0_20, h0_21, h0_22, h0_23, h0_24, h0_25, h0_26, .ref a_wd, .int mf, .int mfp, .int mst, .int v_121, .int mkd, .int mwh, .int v_4, h0_35, h0_36, h0_37, h0_38, h0_39, h0_40, h0_41, h0_42, h0_43, h0_44, h0_45, h0_46, h0_47, h0_48, h0_49, h0_50, h0_51, h0_52, h0_53, h0_54, h0_55, h0_56, h0_57, h0_58, h0_59, h0_60, h0_61, h0_62, h0_63, h0_64, h0_65, h0_66, h0_67, h0_68, h0_69])), (a_te, .inl (ca_te, 700, .inl fa_te)), (a_wd, .inl (ca_wd, 115, .inl fa_wd))] H → va_D A [(h0, .inr (12, [.ref a_te, h0_1, h0_2, h0_3, h0_4, h0_5, h0_6, h0_7, h0_8, h0_9, h0_10, h0_11, h0_12, h0_13, h0_14, h0_15, h0_16, h0_17, h0_18, h0_19, h0_20, h0_21, h0_22, h0_23, h0_24, h0_25, h0_26, .ref a_wd, .int mf, .int mfp, .int mst, .int v_121, .int mkd, .int mwh, .int v_4, h0_35, h0_36, h0_37, h0_38, h0_39, h0_40, h0_41, h0_42, h0_43, h0_44, h0_45, h0_46, h0_47, h0_48, h0_49, h0_50, h0_51, h0_52, h0_53, h0_54, h0_55, h0_56, h0_57, h0_58, h0_59, h0_60, h0_61, h0_62, h0_63, h0_64, h0_65, h0_66, h0_67, h0_68, h0_69])), (a_te, .inl (ca_te, 700, .inl fa_te)), (a_wd, .inl (ca_wd, 115, .inl fa_wd))] → va_S A s.heap H locs → lv_has ls 3 [(0, .ref h0), (1, .int 0)] → W p l e ({ frames := 2, cells := 0, slots := 0, locals := 43 } : Room) s m ([.ref h0, .int 0] : List Value).toArray below meth c H locs 0 0 QQ (F0 m 90 ls []) := by
                  intro n_119
                  induction n_119 with
                  | zero => intro v_121 H locs ls hm; exact absurd hm (Nat.not_lt_zero _)
                  | succ n_119 ih_120 =>
                    intro v_121 H locs ls hm hF_122 hF_123 hF_124 hF_125 hP hD hS hl
                    refine lv_aload_n hx hb dX12_take_90 rfl (lv_at hl 0 rfl) ?_
                    refine lv_aload_n hx hb dX12_take_91 rfl (lv_at hl 0 rfl) ?_
                    refine va_get (D := (dC, dI)) (ci := 12) (v := .int v_121) (C := RX12) (T := TX12) (N := 70) hx hb hts hiX12 hown hK hP 0 rfl rfl 31 (by decide) w__fieldLink_RX12_207_ShellHeapModel_next_I_ (fun _ h9 => h9) rfl dX12_take_92 ?_
                    obtain ⟨hPc, hDc⟩ := z_sub2 (ws' := [(h0, .inr (12, [.ref a_te, h0_1, h0_2, h0_3, h0_4, h0_5, h0_6, h0_7, h0_8, h0_9, h0_10, h0_11, h0_12, h0_13, h0_14, h0_15, h0_16, h0_17, h0_18, h0_19, h0_20, h0_21, h0_22, h0_23, h0_24, h0_25, h0_26, .ref a_wd, .int mf, .int mfp, .int mst, .int v_121, .int mkd, .int mwh, .int v_4, h0_35, h0_36, h0_37, h0_38, h0_39, h0_40, h0_41, h0_42, h0_43, h0_44, h0_45, h0_46, h0_47, h0_48, h0_49, h0_50, h0_51, h0_52, h0_53, h0_54, h0_55, h0_56, h0_57, h0_58, h0_59, h0_60, h0_61, h0_62, h0_63, h0_64, h0_65, h0_66, h0_67, h0_68, h0_69])), (a_te, .inl (ca_te, 700, .inl fa_te))]) hP hD [0, 1] (by decide) rfl
                    have hKc := hK.sub (tys' := [(ca_te, .int)]) [0] rfl
                    have hFc := va_free (ws := []) (wc := []) (z_D0 _) hS hA [] rfl
                    refine va_calli (va_runV (As := [.int v_121]) (rest := []) ⟨hx, hb, hml, hown, hts⟩ (s_X12_isSmall l dC dI H.size h0 v_121 a_te h0_1 h0_2 h0_3 h0_4 h0_5 h0_6 h0_7 h0_8 h0_9 h0_10 h0_11 h0_12 h0_13 h0_14 h0_15 h0_16 h0_17 h0_18 h0_19 h0_20 h0_21 h0_22 h0_23 h0_24 h0_25 h0_26 a_wd mf mfp mst v_121 mkd mwh v_4 h0_35 h0_36 h0_37 h0_38 h0_39 h0_40 h0_41 h0_42 h0_43 h0_44 h0_45 h0_46 h0_47 h0_48 h0_49 h0_50 h0_51 h0_52 h0_53 h0_54 h0_55 h0_56 h0_57 h0_58 h0_59 h0_60 h0_61 h0_62 h0_63 h0_64 h0_65 h0_66 h0_67 h0_68 h0_69 ca_te fa_te hB_mst hF_122 hB_mkd hF_5 hF_122 hI_a_te) (cwV 1 hts gw_s_X12_take_r_s_X12_isSmall_224 rfl rfl rfl (by decide +kernel) ⟨Nat.le_of_ble_eq_true rfl, Nat.le_of_ble_eq_true rfl⟩) ⟨z_blind, va_recv hKc hPc (ci := 12) (q0 := 0) rfl rfl, z_pre hPc hKc hDc⟩ rfl rfl hl.1 rfl (lv_room (Nat.le_of_ble_eq_true rfl)) dX12_take_95 ⟨Nat.le_of_ble_eq_true rfl, Nat.le_of_ble_eq_true rfl⟩) hS (fun q _ h => hFc q h) hFc (fun r_127 u t H_126 locs ht hvm hw_128 hB hz1 hk1 hS => ?_)
                    replace hP := z_pure hP hk1
                    clear hPc hDc hKc
                    rcases hw_128 with ⟨rfl, hw_128⟩ | ⟨rfl, hw_128⟩
                    · have hw_128 : (v_121.toInt < mst.toInt ∧ 97 ≤ (fa_te v_121.toNatClampNeg).toInt ∧ (fa_te v_121.toNatClampNeg).toInt ≤ 122) := hw_128
                      refine lv_if_eq (tgt := 114) hx hb dX12_take_98 (by decide) (fun c_129 => absurd c_129 (by decide)) (fun _ => ?_)
                      refine lv_aload_n hx hb dX12_take_101 rfl (lv_at hl 0 rfl) ?_
                      refine lv_dup hx hb dX12_take_102 rfl ?_
                      refine va_get (D := (dC, dI)) (ci := 12) (v := .int v_121) (C := RX12) (T := TX12) (N := 70) hx hb hts hiX12 hown hK hP 0 rfl rfl 31 (by decide) w__fieldLink_RX12_207_ShellHeapModel_next_I_ (fun _ h9 => h9) rfl dX12_take_103 ?_
                      refine lv_iconst (v := 1) hx hb dX12_take_106 (by decide) ?_
                      refine lv_iadd hx hb dX12_take_107 ?_
                      refine lv_topi (fun z_130 ez_130 => ?_)
                      have kz_130 : (z_130).toInt = (v_121).toInt + (1 : Int) := by rw [ez_130]; exact z_add (a := (v_121).toInt) (b := (1 : Int)) rfl rfl (z_al hF_122.1 (by decide)) (z_ah hF_122.2 (by decide))
                      refine va_put (D := (dC, dI)) (ci := 12) (v := .int z_130) (ty := .int) (C := RX12) (T := TX12) (N := 70) hx hb hts hiX12 tyX12 tyX12_ok nmX12 hown hK hP hD hS 0 rfl rfl 31 (by decide) w__fieldLink_RX12_207_ShellHeapModel_next_I_ (fun _ h9 => h9) rfl (by decide +kernel) rfl rfl (Nat.le_of_ble_eq_true rfl) dX12_take_108 (fun H_131 locs hP hD hS => ?_)
                      obtain ⟨hP, hD⟩ := z_s_0_31 hP hD
                      refine lv_goto (tgt := 90) hx hb dX12_take_111 (by decide) ?_
                      exact ih_120 z_130 _ _ _ (show (701 - (z_130).toInt).toNat < n_119 by omega) (show ((0 : Int) ≤ (z_130).toInt ∧ (z_130).toInt ≤ (700 : Int)) by omega) (show (mnx).toInt ≤ (z_130).toInt ∧ (z_130).toInt ≤ (mst).toInt by omega) (show (v_4).toInt ≤ (z_130).toInt by omega) (show (mnx).toInt + 1 ≤ (z_130).toInt ∨ ((z_130).toInt < (mst).toInt ∧ 97 ≤ (fa_te (z_130 : Int32).toNatClampNeg).toInt ∧ (fa_te (z_130 : Int32).toNatClampNeg).toInt ≤ 122) by omega) hP hD hS (lv_sub hl [0, 1] rfl)
                    · have hw_128 : ¬ (v_121.toInt < mst.toInt ∧ 97 ≤ (fa_te v_121.toNatClampNeg).toInt ∧ (fa_te v_121.toNatClampNeg).toInt ≤ 122) := hw_128
                      refine lv_if_eq (tgt := 114) hx hb dX12_take_98 (by decide) (fun _ => ?_) (fun c_132 => absurd (by decide) c_132)
                      refine lv_aload_n hx hb dX12_take_114 rfl (lv_at hl 0 rfl) ?_
                      refine va_get (D := (dC, dI)) (ci := 12) (v := .int v_121) (C := RX12) (T := TX12) (N := 70) hx hb hts hiX12 hown hK hP 0 rfl rfl 31 (by decide) w__fieldLink_RX12_207_ShellHeapModel_next_I_ (fun _ h9 => h9) rfl dX12_take_115 ?_
                      refine lv_aload_n hx hb dX12_take_118 rfl (lv_at hl 0 rfl) ?_
                      refine va_get (D := (dC, dI)) (ci := 12) (v := .int v_4) (C := RX12) (T := TX12) (N := 70) hx hb hts hiX12 hown hK hP 0 rfl rfl 34 (by decide) w__fieldLink_RX12_201_ShellHeapModel_place_I_ (fun _ h9 => h9) rfl dX12_take_119 ?_
                      refine lv_isub hx hb dX12_take_122 ?_
                      refine lv_topi (fun z_133 ez_133 => ?_)
                      have kz_133 : (z_133).toInt = (v_121).toInt - (v_4).toInt := by rw [ez_133]; exact z_sub (a := (v_121).toInt) (b := (v_4).toInt) rfl rfl (by omega) (by omega)
                      refine lv_istore_n (lv' := [(2, .int z_133), (0, .ref h0), (1, .int 0)]) hx hb dX12_take_123 rfl hl (by decide) rfl (fun ls hl => ?_)
                      refine lv_aload_n hx hb dX12_take_124 rfl (lv_at hl 1 rfl) ?_
                      refine lv_aload_n hx hb dX12_take_125 rfl (lv_at hl 1 rfl) ?_
                      refine lv_aload_n hx hb dX12_take_126 rfl (lv_at hl 1 rfl) ?_
                      refine va_get (D := (dC, dI)) (ci := 12) (v := .int v_4) (C := RX12) (T := TX12) (N := 70) hx hb hts hiX12 hown hK hP 0 rfl rfl 34 (by decide) w__fieldLink_RX12_201_ShellHeapModel_place_I_ (fun _ h9 => h9) rfl dX12_take_127 ?_
                      refine lv_aload_n hx hb dX12_take_130 rfl (lv_at hl 1 rfl) ?_
                      refine va_get (D := (dC, dI)) (ci := 12) (v := .int v_121) (C := RX12) (T := TX12) (N := 70) hx hb hts hiX12 hown hK hP 0 rfl rfl 31 (by decide) w__fieldLink_RX12_207_ShellHeapModel_next_I_ (fun _ h9 => h9) rfl dX12_take_131 ?_
                      have hPc := hP
                      have hDc := hD
                      have hKc := hK
                      have hFc := va_free (ws := []) (wc := []) (z_D0 _) hS hA [] rfl
                      refine va_calli (va_runV (As := [.int v_4, .int v_121]) (rest := [.ref h0]) ⟨hx, hb, hml, hown, hts⟩ (s_X12_wordAt l dC dI H_126.size h0 v_4 v_121 a_te h0_1 h0_2 h0_3 h0_4 h0_5 h0_6 h0_7 h0_8 h0_9 h0_10 h0_11 h0_12 h0_13 h0_14 h0_15 h0_16 h0_17 h0_18 h0_19 h0_20 h0_21 h0_22 h0_23 h0_24 h0_25 h0_26 a_wd mf mfp mst v_121 mkd mwh v_4 h0_35 h0_36 h0_37 h0_38 h0_39 h0_40 h0_41 h0_42 h0_43 h0_44 h0_45 h0_46 h0_47 h0_48 h0_49 h0_50 h0_51 h0_52 h0_53 h0_54 h0_55 h0_56 h0_57 h0_58 h0_59 h0_60 h0_61 h0_62 h0_63 h0_64 h0_65 h0_66 h0_67 h0_68 h0_69 ca_te fa_te ca_wd fa_wd hF_5 hF_122 hI_a_te hWD (by first | omega | decide)) (cwV 2 hts gw_s_X12_take_r_s_X12_wordAt_227 rfl rfl rfl (by decide +kernel) ⟨Nat.le_of_ble_eq_true rfl, Nat.le_of_ble_eq_true rfl⟩) ⟨z_blind, va_recv hKc hPc (ci := 12) (q0 := 0) rfl rfl, z_pre hPc hKc hDc⟩ rfl rfl hl.1 rfl (lv_room (Nat.le_of_ble_eq_true rfl)) dX12_take_134 ⟨Nat.le_of_ble_eq_true rfl, Nat.le_of_ble_eq_true rfl⟩) hS (fun q _ h => hFc q h) hFc (fun r_135 u t H_134 locs ht hvm hw_136 hB hz1 hk1 hS => ?_)
                      replace hP := z_pure hP hk1
                      clear hPc hDc hKc
                      refine va_put (D := (dC, dI)) (ci := 12) (v := .int r_135) (ty := .int) (C := RX12) (T := TX12) (N := 70) hx hb hts hiX12 tyX12 tyX12_ok nmX12 hown hK hP hD hS 0 rfl rfl 33 (by decide) w__fieldLink_RX12_214_ShellHeapModel_which_I_ (fun _ h9 => h9) rfl (by decide +kernel) rfl rfl (Nat.le_of_ble_eq_true rfl) dX12_take_137 (fun H_137 locs hP hD hS => ?_)
                      obtain ⟨hP, hD⟩ := z_s_0_33 hP hD
                      refine lv_aload_n hx hb dX12_take_140 rfl (lv_at hl 1 rfl) ?_
                      refine lv_aload_n hx hb dX12_take_141 rfl (lv_at hl 1 rfl) ?_
                      refine va_get (D := (dC, dI)) (ci := 12) (v := .int r_135) (C := RX12) (T := TX12) (N := 70) hx hb hts hiX12 hown hK hP 0 rfl rfl 33 (by decide) w__fieldLink_RX12_214_ShellHeapModel_which_I_ (fun _ h9 => h9) rfl dX12_take_142 ?_
                      refine lv_if_lt (tgt := 152) hx hb dX12_take_145 (by decide) (fun c_138 => ?_) (fun c_138 => ?_)
                      · have k_139 : (r_135).toInt < (0 : Int) := z_lt c_138
                        obtain rfl : r_135 = (-1) := z_eq' (show (r_135).toInt = (-1 : Int) by omega)
                        refine lv_iload_n hx hb dX12_take_152 rfl (lv_at hl 0 rfl) ?_
                        refine lv_bipush (v := 8) hx hb dX12_take_153 (by decide) ?_
                        refine lv_icmp_le (tgt := 162) hx hb dX12_take_155 (by decide) (fun c_141 => ?_) (fun c_141 => ?_)
                        · have k_142 : (z_133).toInt ≤ (8 : Int) := z_le c_141
                          refine lv_iconst (v := 2) hx hb dX12_take_162 (by decide) ?_
                          refine va_put (D := (dC, dI)) (ci := 12) (v := .int 2) (ty := .int) (C := RX12) (T := TX12) (N := 70) hx hb hts hiX12 tyX12 tyX12_ok nmX12 hown hK hP hD hS 0 rfl rfl 32 (by decide) w__fieldLink_RX12_221_ShellHeapModel_kindNow_I_ (fun _ h9 => h9) rfl (by decide +kernel) rfl rfl (Nat.le_of_ble_eq_true rfl) dX12_take_163 (fun H_143 locs hP hD hS => ?_)
                          obtain ⟨hP, hD⟩ := z_s_0_32 hP hD
                          refine lv_iload_n hx hb dX12_take_166 rfl (lv_at hl 2 rfl) ?_
                          refine lv_if_eq (tgt := 237) hx hb dX12_take_167 (by decide) (fun _ => ?_) (fun c_144 => absurd (by decide) c_144)
                          refine lv_goto (tgt := 342) hx hb dX12_take_237 (by decide) ?_
                          refine z_backQ hQQ ?_
                          have hP9 := hP
                          have hD9 := hD
                          have hK9 := hK.sub (tys' := []) [] rfl
                          refine W.widen (k := 0) (n := 0) (Nat.le_of_ble_eq_true rfl) (Nat.le_of_ble_eq_true rfl) ?_
                          exact W.vret hx hb hr (fun t ht hW => ⟨⟨(), rfl, trivial, ⟨v_121, 2, (-1), v_4, hF_122, (by decide), hF_5, (show mnx.toInt ≤ v_121.toInt ∧ v_121.toInt ≤ mst.toInt by omega), (show (2 : Int) ≤ 8 * (v_121.toInt - mnx.toInt) by omega), (show v_4.toInt ≤ v_121.toInt by omega), (show z_tk8 (2 : Int) v_121.toInt v_4.toInt from fun h9 => by omega), (show z_tkw (-1 : Int) (2 : Int) from fun h9 h8 h7 => by omega), by rw [ht]; exact hP9, va_K.moved hW.alike hK9, hD9⟩⟩, hS.F ht⟩) hS.2.2 dX12_take_342
                        · have k_145 : (z_133).toInt > (8 : Int) := z_nle c_141
                          refine lv_iconst (v := 5) hx hb dX12_take_158 (by decide) ?_
                          refine lv_goto (tgt := 163) hx hb dX12_take_159 (by decide) ?_
                          refine va_put (D := (dC, dI)) (ci := 12) (v := .int 5) (ty := .int) (C := RX12) (T := TX12) (N := 70) hx hb hts hiX12 tyX12 tyX12_ok nmX12 hown hK hP hD hS 0 rfl rfl 32 (by decide) w__fieldLink_RX12_221_ShellHeapModel_kindNow_I_ (fun _ h9 => h9) rfl (by decide +kernel) rfl rfl (Nat.le_of_ble_eq_true rfl) dX12_take_163 (fun H_146 locs hP hD hS => ?_)
                          obtain ⟨hP, hD⟩ := z_s_0_32 hP hD
                          refine lv_iload_n hx hb dX12_take_166 rfl (lv_at hl 2 rfl) ?_
                          refine lv_if_eq (tgt := 237) hx hb dX12_take_167 (by decide) (fun _ => ?_) (fun c_147 => absurd (by decide) c_147)
                          refine lv_goto (tgt := 342) hx hb dX12_take_237 (by decide) ?_
                          refine z_backQ hQQ ?_
                          have hP9 := hP
                          have hD9 := hD
                          have hK9 := hK.sub (tys' := []) [] rfl
                          refine W.widen (k := 0) (n := 0) (Nat.le_of_ble_eq_true rfl) (Nat.le_of_ble_eq_true rfl) ?_
                          exact W.vret hx hb hr (fun t ht hW => ⟨⟨(), rfl, trivial, ⟨v_121, 5, (-1), v_4, hF_122, (by decide), hF_5, (show mnx.toInt ≤ v_121.toInt ∧ v_121.toInt ≤ mst.toInt by omega), (show (5 : Int) ≤ 8 * (v_121.toInt - mnx.toInt) by omega), (show v_4.toInt ≤ v_121.toInt by omega), (show z_tk8 (5 : Int) v_121.toInt v_4.toInt from fun h9 => by omega), (show z_tkw (-1 : Int) (5 : Int) from fun h9 h8 h7 => by omega), by rw [ht]; exact hP9, va_K.moved hW.alike hK9, hD9⟩⟩, hS.F ht⟩) hS.2.2 dX12_take_342
                      · have k_148 : (r_135).toInt ≥ (0 : Int) := z_nlt c_138
                        refine lv_iconst (v := 1) hx hb dX12_take_148 (by decide) ?_
                        refine lv_goto (tgt := 163) hx hb dX12_take_149 (by decide) ?_
                        refine va_put (D := (dC, dI)) (ci := 12) (v := .int 1) (ty := .int) (C := RX12) (T := TX12) (N := 70) hx hb hts hiX12 tyX12 tyX12_ok nmX12 hown hK hP hD hS 0 rfl rfl 32 (by decide) w__fieldLink_RX12_221_ShellHeapModel_kindNow_I_ (fun _ h9 => h9) rfl (by decide +kernel) rfl rfl (Nat.le_of_ble_eq_true rfl) dX12_take_163 (fun H_149 locs hP hD hS => ?_)
                        obtain ⟨hP, hD⟩ := z_s_0_32 hP hD
                        refine lv_iload_n hx hb dX12_take_166 rfl (lv_at hl 2 rfl) ?_
                        refine lv_if_eq (tgt := 237) hx hb dX12_take_167 (by decide) (fun _ => ?_) (fun c_150 => absurd (by decide) c_150)
                        refine lv_goto (tgt := 342) hx hb dX12_take_237 (by decide) ?_
                        refine z_backQ hQQ ?_
                        have hP9 := hP
                        have hD9 := hD
                        have hK9 := hK.sub (tys' := []) [] rfl
                        refine W.widen (k := 0) (n := 0) (Nat.le_of_ble_eq_true rfl) (Nat.le_of_ble_eq_true rfl) ?_
                        exact W.vret hx hb hr (fun t ht hW => ⟨⟨(), rfl, trivial, ⟨v_121, 1, r_135, v_4, hF_122, (by decide), hF_5, (show mnx.toInt ≤ v_121.toInt ∧ v_121.toInt ≤ mst.toInt by omega), (show (1 : Int) ≤ 8 * (v_121.toInt - mnx.toInt) by omega), (show v_4.toInt ≤ v_121.toInt by omega), (show z_tk8 (1 : Int) v_121.toInt v_4.toInt from fun h9 => by omega), (show z_tkw r_135.toInt (1 : Int) from fun h9 h8 h7 => by omega), by rw [ht]; exact hP9, va_K.moved hW.alike hK9, hD9⟩⟩, hS.F ht⟩) hS.2.2 dX12_take_342
                exact loop_118 _ v_4 _ _ _ (Nat.lt_succ_self _) (show ((0 : Int) ≤ (v_4).toInt ∧ (v_4).toInt ≤ (700 : Int)) by omega) (show (mnx).toInt ≤ (v_4).toInt ∧ (v_4).toInt ≤ (mst).toInt by omega) (show (v_4).toInt ≤ (v_4).toInt by omega) (show (mnx).toInt + 1 ≤ (v_4).toInt ∨ ((v_4).toInt < (mst).toInt ∧ 97 ≤ (fa_te (v_4 : Int32).toNatClampNeg).toInt ∧ (fa_te (v_4 : Int32).toNatClampNeg).toInt ≤ 122) by omega) hP hD hS hl
              · have hw_116 : ¬ (v_4.toInt < mst.toInt ∧ 97 ≤ (fa_te v_4.toNatClampNeg).toInt ∧ (fa_te v_4.toNatClampNeg).toInt ≤ 122) := hw_116
                refine lv_if_eq (tgt := 240) hx hb dX12_take_87 (by decide) (fun _ => ?_) (fun c_151 => absurd (by decide) c_151)
                refine lv_aload_n hx hb dX12_take_240 rfl (lv_at hl 0 rfl) ?_
                refine lv_aload_n hx hb dX12_take_241 rfl (lv_at hl 0 rfl) ?_
                refine va_get (D := (dC, dI)) (ci := 12) (v := .int v_4) (C := RX12) (T := TX12) (N := 70) hx hb hts hiX12 hown hK hP 0 rfl rfl 31 (by decide) w__fieldLink_RX12_207_ShellHeapModel_next_I_ (fun _ h9 => h9) rfl dX12_take_242 ?_
                obtain ⟨hPc, hDc⟩ := z_sub2 (ws' := [(h0, .inr (12, [.ref a_te, h0_1, h0_2, h0_3, h0_4, h0_5, h0_6, h0_7, h0_8, h0_9, h0_10, h0_11, h0_12, h0_13, h0_14, h0_15, h0_16, h0_17, h0_18, h0_19, h0_20, h0_21, h0_22, h0_23, h0_24, h0_25, h0_26, .ref a_wd, .int mf, .int mfp, .int mst, .int v_4, .int mkd, .int mwh, .int v_4, h0_35, h0_36, h0_37, h0_38, h0_39, h0_40, h0_41, h0_42, h0_43, h0_44, h0_45, h0_46, h0_47, h0_48, h0_49, h0_50, h0_51, h0_52, h0_53, h0_54, h0_55, h0_56, h0_57, h0_58, h0_59, h0_60, h0_61, h0_62, h0_63, h0_64, h0_65, h0_66, h0_67, h0_68, h0_69])), (a_te, .inl (ca_te, 700, .inl fa_te))]) hP hD [0, 1] (by decide) rfl
                have hKc := hK.sub (tys' := [(ca_te, .int)]) [0] rfl
                have hFc := va_free (ws := []) (wc := []) (z_D0 _) hS hA [] rfl
                refine va_calli (va_runV (As := [.int v_4]) (rest := []) ⟨hx, hb, hml, hown, hts⟩ (s_X12_isDigit l dC dI H_114.size h0 v_4 a_te h0_1 h0_2 h0_3 h0_4 h0_5 h0_6 h0_7 h0_8 h0_9 h0_10 h0_11 h0_12 h0_13 h0_14 h0_15 h0_16 h0_17 h0_18 h0_19 h0_20 h0_21 h0_22 h0_23 h0_24 h0_25 h0_26 a_wd mf mfp mst v_4 mkd mwh v_4 h0_35 h0_36 h0_37 h0_38 h0_39 h0_40 h0_41 h0_42 h0_43 h0_44 h0_45 h0_46 h0_47 h0_48 h0_49 h0_50 h0_51 h0_52 h0_53 h0_54 h0_55 h0_56 h0_57 h0_58 h0_59 h0_60 h0_61 h0_62 h0_63 h0_64 h0_65 h0_66 h0_67 h0_68 h0_69 ca_te fa_te hB_mst hF_5 hB_mkd hF_5 hF_5 hI_a_te) (cwV 1 hts gw_s_X12_take_r_s_X12_isDigit_217 rfl rfl rfl (by decide +kernel) ⟨Nat.le_of_ble_eq_true rfl, Nat.le_of_ble_eq_true rfl⟩) ⟨z_blind, va_recv hKc hPc (ci := 12) (q0 := 0) rfl rfl, z_pre hPc hKc hDc⟩ rfl rfl hl.1 rfl (lv_room (Nat.le_of_ble_eq_true rfl)) dX12_take_245 ⟨Nat.le_of_ble_eq_true rfl, Nat.le_of_ble_eq_true rfl⟩) hS (fun q _ h => hFc q h) hFc (fun r_153 u t H_152 locs ht hvm hw_154 hB hz1 hk1 hS => ?_)
                replace hP := z_pure hP hk1
                clear hPc hDc hKc
                rcases hw_154 with ⟨rfl, hw_154⟩ | ⟨rfl, hw_154⟩
                · have hw_154 : (v_4.toInt < mst.toInt ∧ 48 ≤ (fa_te v_4.toNatClampNeg).toInt ∧ (fa_te v_4.toNatClampNeg).toInt ≤ 57) := hw_154
                  refine lv_if_eq (tgt := 263) hx hb dX12_take_248 (by decide) (fun c_155 => absurd c_155 (by decide)) (fun _ => ?_)
                  refine lv_aload_n hx hb dX12_take_251 rfl (lv_at hl 0 rfl) ?_
                  refine lv_iconst (v := 3) hx hb dX12_take_252 (by decide) ?_
                  refine va_put (D := (dC, dI)) (ci := 12) (v := .int 3) (ty := .int) (C := RX12) (T := TX12) (N := 70) hx hb hts hiX12 tyX12 tyX12_ok nmX12 hown hK hP hD hS 0 rfl rfl 32 (by decide) w__fieldLink_RX12_221_ShellHeapModel_kindNow_I_ (fun _ h9 => h9) rfl (by decide +kernel) rfl rfl (Nat.le_of_ble_eq_true rfl) dX12_take_253 (fun H_156 locs hP hD hS => ?_)
                  obtain ⟨hP, hD⟩ := z_s_0_32 hP hD
                  refine lv_aload_n hx hb dX12_take_256 rfl (lv_at hl 0 rfl) ?_
                  obtain ⟨hPc, hDc, hFc⟩ := z_sub3 (ws' := [(h0, .inr (12, [.ref a_te, h0_1, h0_2, h0_3, h0_4, h0_5, h0_6, h0_7, h0_8, h0_9, h0_10, h0_11, h0_12, h0_13, h0_14, h0_15, h0_16, h0_17, h0_18, h0_19, h0_20, h0_21, h0_22, h0_23, h0_24, h0_25, h0_26, .ref a_wd, .int mf, .int mfp, .int mst, .int v_4, .int 3, .int mwh, .int v_4, h0_35, h0_36, h0_37, h0_38, h0_39, h0_40, h0_41, h0_42, h0_43, h0_44, h0_45, h0_46, h0_47, h0_48, h0_49, h0_50, h0_51, h0_52, h0_53, h0_54, h0_55, h0_56, h0_57, h0_58, h0_59, h0_60, h0_61, h0_62, h0_63, h0_64, h0_65, h0_66, h0_67, h0_68, h0_69])), (a_te, .inl (ca_te, 700, .inl fa_te))]) hP hD hS hA [0, 1] (by decide) rfl
                  have hKc := hK.sub (tys' := [(ca_te, .int)]) [0] rfl
                  refine va_callv (va_runV (As := []) (rest := []) ⟨hx, hb, hml, hown, hts⟩ (s_X12_digits l dC dI H_156.size h0 a_te h0_1 h0_2 h0_3 h0_4 h0_5 h0_6 h0_7 h0_8 h0_9 h0_10 h0_11 h0_12 h0_13 h0_14 h0_15 h0_16 h0_17 h0_18 h0_19 h0_20 h0_21 h0_22 h0_23 h0_24 h0_25 h0_26 a_wd mf mfp mst v_4 3 mwh v_4 h0_35 h0_36 h0_37 h0_38 h0_39 h0_40 h0_41 h0_42 h0_43 h0_44 h0_45 h0_46 h0_47 h0_48 h0_49 h0_50 h0_51 h0_52 h0_53 h0_54 h0_55 h0_56 h0_57 h0_58 h0_59 h0_60 h0_61 h0_62 h0_63 h0_64 h0_65 h0_66 h0_67 h0_68 h0_69 ca_te fa_te hB_mst hF_5 (by decide) hF_5 hI_a_te (by first | omega | decide)) (cwV 0 hts gw_s_X12_take_r_s_X12_digits_230 rfl rfl rfl (by decide +kernel) ⟨Nat.le_of_ble_eq_true rfl, Nat.le_of_ble_eq_true rfl⟩) ⟨z_blind, va_recv hKc hPc (ci := 12) (q0 := 0) rfl rfl, z_pre hPc hKc hDc⟩ rfl rfl hl.1 rfl (lv_room (Nat.le_of_ble_eq_true rfl)) dX12_take_257 ⟨Nat.le_of_ble_eq_true rfl, Nat.le_of_ble_eq_true rfl⟩) hS (fun q _ h => hFc q h) hFc (fun u t H_157 locs ht hvm hw_159 hB hz1 hk1 hS => ?_)
                  obtain ⟨n_h0_next_160, n_h0_which_161, hp_162, hp_163, hp_164, hP1, hK1, hD1⟩ := hB
                  rw [ht] at hP1
                  have hK1 := va_K.moved hvm.symm hK1
                  obtain ⟨hP, hD⟩ := z_ap_1 (va_join (wr := [(a_wd, .inl (ca_wd, 115, .inl fa_wd))]) hP hD [0, 1] [2] rfl rfl (by decide) (by decide) hk1 hFc hP1 hD1)
                  have hp_164 : v_4.toInt + 1 ≤ n_h0_next_160.toInt ∧ n_h0_next_160.toInt ≤ mst.toInt := hp_164
                  clear hPc hDc hKc
                  refine lv_goto (tgt := 342) hx hb dX12_take_260 (by decide) ?_
                  refine z_backQ hQQ ?_
                  obtain ⟨hP9, hD9⟩ := z_sub2 (ws' := [(h0, .inr (12, [.ref a_te, h0_1, h0_2, h0_3, h0_4, h0_5, h0_6, h0_7, h0_8, h0_9, h0_10, h0_11, h0_12, h0_13, h0_14, h0_15, h0_16, h0_17, h0_18, h0_19, h0_20, h0_21, h0_22, h0_23, h0_24, h0_25, h0_26, .ref a_wd, .int mf, .int mfp, .int mst, .int n_h0_next_160, .int 3, .int n_h0_which_161, .int v_4, h0_35, h0_36, h0_37, h0_38, h0_39, h0_40, h0_41, h0_42, h0_43, h0_44, h0_45, h0_46, h0_47, h0_48, h0_49, h0_50, h0_51, h0_52, h0_53, h0_54, h0_55, h0_56, h0_57, h0_58, h0_59, h0_60, h0_61, h0_62, h0_63, h0_64, h0_65, h0_66, h0_67, h0_68, h0_69])), (a_te, .inl (ca_te, 700, .inl fa_te)), (a_wd, .inl (ca_wd, 115, .inl fa_wd))]) hP hD [1, 2, 0] (by decide) rfl
                  have hK9 := hK.sub (tys' := []) [] rfl
                  refine W.widen (k := 0) (n := 0) (Nat.le_of_ble_eq_true rfl) (Nat.le_of_ble_eq_true rfl) ?_
                  exact W.vret hx hb hr (fun t ht hW => ⟨⟨(), rfl, trivial, ⟨n_h0_next_160, 3, n_h0_which_161, v_4, hp_162, (by decide), hF_5, (show mnx.toInt ≤ n_h0_next_160.toInt ∧ n_h0_next_160.toInt ≤ mst.toInt by omega), (show (3 : Int) ≤ 8 * (n_h0_next_160.toInt - mnx.toInt) by omega), (show v_4.toInt ≤ n_h0_next_160.toInt by omega), (show z_tk8 (3 : Int) n_h0_next_160.toInt v_4.toInt from fun h9 => by omega), (show z_tkw n_h0_which_161.toInt (3 : Int) from fun h9 h8 h7 => by omega), by rw [ht]; exact hP9, va_K.moved hW.alike hK9, hD9⟩⟩, hS.F ht⟩) hS.2.2 dX12_take_342
                · have hw_154 : ¬ (v_4.toInt < mst.toInt ∧ 48 ≤ (fa_te v_4.toNatClampNeg).toInt ∧ (fa_te v_4.toNatClampNeg).toInt ≤ 57) := hw_154
                  refine lv_if_eq (tgt := 263) hx hb dX12_take_248 (by decide) (fun _ => ?_) (fun c_165 => absurd (by decide) c_165)
                  refine lv_aload_n hx hb dX12_take_263 rfl (lv_at hl 0 rfl) ?_
                  refine va_get (D := (dC, dI)) (ci := 12) (v := .ref a_te) (C := RX12) (T := TX12) (N := 70) hx hb hts hiX12 hown hK hP 0 rfl rfl 0 (by decide) w__fieldLink_RX12_7_ShellHeapModel_tape_I_ (fun _ h9 => h9) rfl dX12_take_264 ?_
                  refine lv_aload_n hx hb dX12_take_267 rfl (lv_at hl 0 rfl) ?_
                  refine va_get (D := (dC, dI)) (ci := 12) (v := .int v_4) (C := RX12) (T := TX12) (N := 70) hx hb hts hiX12 hown hK hP 0 rfl rfl 31 (by decide) w__fieldLink_RX12_207_ShellHeapModel_next_I_ (fun _ h9 => h9) rfl dX12_take_268 ?_
                  refine va_iald hx hb hK hP 1 0 rfl rfl (z_vpin (by omega) (by omega)) dX12_take_271 ?_
                  refine lv_topi (fun z_166 ez_166 => ?_)
                  have kz_166 : ((0 : Int) ≤ (z_166).toInt ∧ (z_166).toInt ≤ (255 : Int)) := by rw [ez_166]; exact hI_a_te _
                  refine lv_istore_n (lv' := [(2, .int z_166), (0, .ref h0), (1, .int 0)]) hx hb dX12_take_272 rfl hl (by decide) rfl (fun ls hl => ?_)
                  refine lv_aload_n hx hb dX12_take_273 rfl (lv_at hl 1 rfl) ?_
                  refine lv_dup hx hb dX12_take_274 rfl ?_
                  refine va_get (D := (dC, dI)) (ci := 12) (v := .int v_4) (C := RX12) (T := TX12) (N := 70) hx hb hts hiX12 hown hK hP 0 rfl rfl 31 (by decide) w__fieldLink_RX12_207_ShellHeapModel_next_I_ (fun _ h9 => h9) rfl dX12_take_275 ?_
                  refine lv_iconst (v := 1) hx hb dX12_take_278 (by decide) ?_
                  refine lv_iadd hx hb dX12_take_279 ?_
                  refine lv_topi (fun z_167 ez_167 => ?_)
                  have kz_167 : (z_167).toInt = (v_4).toInt + (1 : Int) := by rw [ez_167]; exact z_add (a := (v_4).toInt) (b := (1 : Int)) rfl rfl (z_al hF_5.1 (by decide)) (z_ah hF_5.2 (by decide))
                  refine va_put (D := (dC, dI)) (ci := 12) (v := .int z_167) (ty := .int) (C := RX12) (T := TX12) (N := 70) hx hb hts hiX12 tyX12 tyX12_ok nmX12 hown hK hP hD hS 0 rfl rfl 31 (by decide) w__fieldLink_RX12_207_ShellHeapModel_next_I_ (fun _ h9 => h9) rfl (by decide +kernel) rfl rfl (Nat.le_of_ble_eq_true rfl) dX12_take_280 (fun H_168 locs hP hD hS => ?_)
                  obtain ⟨hP, hD⟩ := z_s_0_31 hP hD
                  refine lv_aload_n hx hb dX12_take_283 rfl (lv_at hl 1 rfl) ?_
                  refine lv_aload_n hx hb dX12_take_284 rfl (lv_at hl 1 rfl) ?_
                  refine lv_iload_n hx hb dX12_take_285 rfl (lv_at hl 0 rfl) ?_
                  obtain ⟨hPc, hDc⟩ := z_sub2 (ws' := [(h0, .inr (12, [.ref a_te, h0_1, h0_2, h0_3, h0_4, h0_5, h0_6, h0_7, h0_8, h0_9, h0_10, h0_11, h0_12, h0_13, h0_14, h0_15, h0_16, h0_17, h0_18, h0_19, h0_20, h0_21, h0_22, h0_23, h0_24, h0_25, h0_26, .ref a_wd, .int mf, .int mfp, .int mst, .int z_167, .int mkd, .int mwh, .int v_4, h0_35, h0_36, h0_37, h0_38, h0_39, h0_40, h0_41, h0_42, h0_43, h0_44, h0_45, h0_46, h0_47, h0_48, h0_49, h0_50, h0_51, h0_52, h0_53, h0_54, h0_55, h0_56, h0_57, h0_58, h0_59, h0_60, h0_61, h0_62, h0_63, h0_64, h0_65, h0_66, h0_67, h0_68, h0_69])), (a_te, .inl (ca_te, 700, .inl fa_te))]) hP hD [0, 1] (by decide) rfl
                  have hKc := hK.sub (tys' := [(ca_te, .int)]) [0] rfl
                  have hFc := va_free (ws := []) (wc := []) (z_D0 _) hS hA [] rfl
                  refine va_calli (va_runV (As := [.int z_166]) (rest := [.ref h0]) ⟨hx, hb, hml, hown, hts⟩ (s_X12_signOf l dC dI H_168.size h0 z_166 a_te h0_1 h0_2 h0_3 h0_4 h0_5 h0_6 h0_7 h0_8 h0_9 h0_10 h0_11 h0_12 h0_13 h0_14 h0_15 h0_16 h0_17 h0_18 h0_19 h0_20 h0_21 h0_22 h0_23 h0_24 h0_25 h0_26 a_wd mf mfp mst z_167 mkd mwh v_4 h0_35 h0_36 h0_37 h0_38 h0_39 h0_40 h0_41 h0_42 h0_43 h0_44 h0_45 h0_46 h0_47 h0_48 h0_49 h0_50 h0_51 h0_52 h0_53 h0_54 h0_55 h0_56 h0_57 h0_58 h0_59 h0_60 h0_61 h0_62 h0_63 h0_64 h0_65 h0_66 h0_67 h0_68 h0_69 ca_te fa_te hB_mst (by first | omega | decide) hB_mkd hF_5 kz_166 hI_a_te) (cwV 1 hts gw_s_X12_take_r_s_X12_signOf_233 rfl rfl rfl (by decide +kernel) ⟨Nat.le_of_ble_eq_true rfl, Nat.le_of_ble_eq_true rfl⟩) ⟨z_blind, va_recv hKc hPc (ci := 12) (q0 := 0) rfl rfl, z_pre hPc hKc hDc⟩ rfl rfl hl.1 rfl (lv_room (Nat.le_of_ble_eq_true rfl)) dX12_take_286 ⟨Nat.le_of_ble_eq_true rfl, Nat.le_of_ble_eq_true rfl⟩) hS (fun q _ h => hFc q h) hFc (fun r_170 u t H_169 locs ht hvm hw_171 hB hz1 hk1 hS => ?_)
                  replace hP := z_pure hP hk1
                  clear hPc hDc hKc
                  refine va_put (D := (dC, dI)) (ci := 12) (v := .int r_170) (ty := .int) (C := RX12) (T := TX12) (N := 70) hx hb hts hiX12 tyX12 tyX12_ok nmX12 hown hK hP hD hS 0 rfl rfl 33 (by decide) w__fieldLink_RX12_214_ShellHeapModel_which_I_ (fun _ h9 => h9) rfl (by decide +kernel) rfl rfl (Nat.le_of_ble_eq_true rfl) dX12_take_289 (fun H_172 locs hP hD hS => ?_)
                  obtain ⟨hP, hD⟩ := z_s_0_33 hP hD
                  refine lv_aload_n hx hb dX12_take_292 rfl (lv_at hl 1 rfl) ?_
                  refine lv_aload_n hx hb dX12_take_293 rfl (lv_at hl 1 rfl) ?_
                  refine va_get (D := (dC, dI)) (ci := 12) (v := .int r_170) (C := RX12) (T := TX12) (N := 70) hx hb hts hiX12 hown hK hP 0 rfl rfl 33 (by decide) w__fieldLink_RX12_214_ShellHeapModel_which_I_ (fun _ h9 => h9) rfl dX12_take_294 ?_
                  refine lv_if_ge (tgt := 304) hx hb dX12_take_297 (by decide) (fun c_173 => ?_) (fun c_173 => ?_)
                  · have k_174 : (0 : Int) ≤ (r_170).toInt := z_le c_173
                    refine lv_iconst (v := 4) hx hb dX12_take_304 (by decide) ?_
                    refine va_put (D := (dC, dI)) (ci := 12) (v := .int 4) (ty := .int) (C := RX12) (T := TX12) (N := 70) hx hb hts hiX12 tyX12 tyX12_ok nmX12 hown hK hP hD hS 0 rfl rfl 32 (by decide) w__fieldLink_RX12_221_ShellHeapModel_kindNow_I_ (fun _ h9 => h9) rfl (by decide +kernel) rfl rfl (Nat.le_of_ble_eq_true rfl) dX12_take_305 (fun H_175 locs hP hD hS => ?_)
                    obtain ⟨hP, hD⟩ := z_s_0_32 hP hD
                    refine lv_aload_n hx hb dX12_take_308 rfl (lv_at hl 1 rfl) ?_
                    refine va_get (D := (dC, dI)) (ci := 12) (v := .int r_170) (C := RX12) (T := TX12) (N := 70) hx hb hts hiX12 hown hK hP 0 rfl rfl 33 (by decide) w__fieldLink_RX12_214_ShellHeapModel_which_I_ (fun _ h9 => h9) rfl dX12_take_309 ?_
                    refine lv_iconst (v := 2) hx hb dX12_take_312 (by decide) ?_
                    refine lv_icmp_eq (tgt := 332) hx hb dX12_take_313 (by decide) (fun c_176 => ?_) (fun c_176 => ?_)
                    · have k_177 : (r_170).toInt = (2 : Int) := z_eq c_176
                      obtain rfl : r_170 = 2 := z_eq' (show (r_170).toInt = (2 : Int) by omega)
                      refine lv_aload_n hx hb dX12_take_332 rfl (lv_at hl 1 rfl) ?_
                      refine lv_dup hx hb dX12_take_333 rfl ?_
                      refine va_get (D := (dC, dI)) (ci := 12) (v := .int z_167) (C := RX12) (T := TX12) (N := 70) hx hb hts hiX12 hown hK hP 0 rfl rfl 31 (by decide) w__fieldLink_RX12_207_ShellHeapModel_next_I_ (fun _ h9 => h9) rfl dX12_take_334 ?_
                      refine lv_iconst (v := 1) hx hb dX12_take_337 (by decide) ?_
                      refine lv_iadd hx hb dX12_take_338 ?_
                      refine lv_topi (fun z_179 ez_179 => ?_)
                      have kz_179 : (z_179).toInt = (z_167).toInt + (1 : Int) := by rw [ez_179]; exact z_add (a := (z_167).toInt) (b := (1 : Int)) rfl rfl (by omega) (by omega)
                      refine va_put (D := (dC, dI)) (ci := 12) (v := .int z_179) (ty := .int) (C := RX12) (T := TX12) (N := 70) hx hb hts hiX12 tyX12 tyX12_ok nmX12 hown hK hP hD hS 0 rfl rfl 31 (by decide) w__fieldLink_RX12_207_ShellHeapModel_next_I_ (fun _ h9 => h9) rfl (by decide +kernel) rfl rfl (Nat.le_of_ble_eq_true rfl) dX12_take_339 (fun H_180 locs hP hD hS => ?_)
                      obtain ⟨hP, hD⟩ := z_s_0_31 hP hD
                      refine z_backQ hQQ ?_
                      have hP9 := hP
                      have hD9 := hD
                      have hK9 := hK.sub (tys' := []) [] rfl
                      refine W.widen (k := 0) (n := 0) (Nat.le_of_ble_eq_true rfl) (Nat.le_of_ble_eq_true rfl) ?_
                      exact W.vret hx hb hr (fun t ht hW => ⟨⟨(), rfl, trivial, ⟨z_179, 4, 2, v_4, (by first | omega | decide), (by decide), hF_5, (show mnx.toInt ≤ z_179.toInt ∧ z_179.toInt ≤ mst.toInt by omega), (show (4 : Int) ≤ 8 * (z_179.toInt - mnx.toInt) by omega), (show v_4.toInt ≤ z_179.toInt by omega), (show z_tk8 (4 : Int) z_179.toInt v_4.toInt from fun h9 => by omega), (show z_tkw (2 : Int) (4 : Int) from fun h9 h8 h7 => by omega), by rw [ht]; exact hP9, va_K.moved hW.alike hK9, hD9⟩⟩, hS.F ht⟩) hS.2.2 dX12_take_342
                    · have k_181 : (r_170).toInt ≠ (2 : Int) := z_ne c_176
                      refine lv_aload_n hx hb dX12_take_316 rfl (lv_at hl 1 rfl) ?_
                      refine va_get (D := (dC, dI)) (ci := 12) (v := .int r_170) (C := RX12) (T := TX12) (N := 70) hx hb hts hiX12 hown hK hP 0 rfl rfl 33 (by decide) w__fieldLink_RX12_214_ShellHeapModel_which_I_ (fun _ h9 => h9) rfl dX12_take_317 ?_
                      refine lv_iconst (v := 4) hx hb dX12_take_320 (by decide) ?_
                      refine lv_icmp_eq (tgt := 332) hx hb dX12_take_321 (by decide) (fun c_182 => ?_) (fun c_182 => ?_)
                      · have k_183 : (r_170).toInt = (4 : Int) := z_eq c_182
                        obtain rfl : r_170 = 4 := z_eq' (show (r_170).toInt = (4 : Int) by omega)
                        refine lv_aload_n hx hb dX12_take_332 rfl (lv_at hl 1 rfl) ?_
                        refine lv_dup hx hb dX12_take_333 rfl ?_
                        refine va_get (D := (dC, dI)) (ci := 12) (v := .int z_167) (C := RX12) (T := TX12) (N := 70) hx hb hts hiX12 hown hK hP 0 rfl rfl 31 (by decide) w__fieldLink_RX12_207_ShellHeapModel_next_I_ (fun _ h9 => h9) rfl dX12_take_334 ?_
                        refine lv_iconst (v := 1) hx hb dX12_take_337 (by decide) ?_
                        refine lv_iadd hx hb dX12_take_338 ?_
                        refine lv_topi (fun z_185 ez_185 => ?_)
                        have kz_185 : (z_185).toInt = (z_167).toInt + (1 : Int) := by rw [ez_185]; exact z_add (a := (z_167).toInt) (b := (1 : Int)) rfl rfl (by omega) (by omega)
                        refine va_put (D := (dC, dI)) (ci := 12) (v := .int z_185) (ty := .int) (C := RX12) (T := TX12) (N := 70) hx hb hts hiX12 tyX12 tyX12_ok nmX12 hown hK hP hD hS 0 rfl rfl 31 (by decide) w__fieldLink_RX12_207_ShellHeapModel_next_I_ (fun _ h9 => h9) rfl (by decide +kernel) rfl rfl (Nat.le_of_ble_eq_true rfl) dX12_take_339 (fun H_186 locs hP hD hS => ?_)
                        obtain ⟨hP, hD⟩ := z_s_0_31 hP hD
                        refine z_backQ hQQ ?_
                        have hP9 := hP
                        have hD9 := hD
                        have hK9 := hK.sub (tys' := []) [] rfl
                        refine W.widen (k := 0) (n := 0) (Nat.le_of_ble_eq_true rfl) (Nat.le_of_ble_eq_true rfl) ?_
                        exact W.vret hx hb hr (fun t ht hW => ⟨⟨(), rfl, trivial, ⟨z_185, 4, 4, v_4, (by first | omega | decide), (by decide), hF_5, (show mnx.toInt ≤ z_185.toInt ∧ z_185.toInt ≤ mst.toInt by omega), (show (4 : Int) ≤ 8 * (z_185.toInt - mnx.toInt) by omega), (show v_4.toInt ≤ z_185.toInt by omega), (show z_tk8 (4 : Int) z_185.toInt v_4.toInt from fun h9 => by omega), (show z_tkw (4 : Int) (4 : Int) from fun h9 h8 h7 => by omega), by rw [ht]; exact hP9, va_K.moved hW.alike hK9, hD9⟩⟩, hS.F ht⟩) hS.2.2 dX12_take_342
                      · have k_187 : (r_170).toInt ≠ (4 : Int) := z_ne c_182
                        refine lv_aload_n hx hb dX12_take_324 rfl (lv_at hl 1 rfl) ?_
                        refine va_get (D := (dC, dI)) (ci := 12) (v := .int r_170) (C := RX12) (T := TX12) (N := 70) hx hb hts hiX12 hown hK hP 0 rfl rfl 33 (by decide) w__fieldLink_RX12_214_ShellHeapModel_which_I_ (fun _ h9 => h9) rfl dX12_take_325 ?_
                        refine lv_iconst (v := 5) hx hb dX12_take_328 (by decide) ?_
                        refine lv_icmp_ne (tgt := 342) hx hb dX12_take_329 (by decide) (fun c_188 => ?_) (fun c_188 => ?_)
                        · have k_189 : (r_170).toInt ≠ (5 : Int) := z_ne c_188
                          refine z_backQ hQQ ?_
                          have hP9 := hP
                          have hD9 := hD
                          have hK9 := hK.sub (tys' := []) [] rfl
                          refine W.widen (k := 0) (n := 0) (Nat.le_of_ble_eq_true rfl) (Nat.le_of_ble_eq_true rfl) ?_
                          exact W.vret hx hb hr (fun t ht hW => ⟨⟨(), rfl, trivial, ⟨z_167, 4, r_170, v_4, (by first | omega | decide), (by decide), hF_5, (show mnx.toInt ≤ z_167.toInt ∧ z_167.toInt ≤ mst.toInt by omega), (show (4 : Int) ≤ 8 * (z_167.toInt - mnx.toInt) by omega), (show v_4.toInt ≤ z_167.toInt by omega), (show z_tk8 (4 : Int) z_167.toInt v_4.toInt from fun h9 => by omega), (show z_tkw r_170.toInt (4 : Int) from fun h9 h8 h7 => by omega), by rw [ht]; exact hP9, va_K.moved hW.alike hK9, hD9⟩⟩, hS.F ht⟩) hS.2.2 dX12_take_342
                        · have k_190 : (r_170).toInt = (5 : Int) := z_eq c_188
                          obtain rfl : r_170 = 5 := z_eq' (show (r_170).toInt = (5 : Int) by omega)
                          refine lv_aload_n hx hb dX12_take_332 rfl (lv_at hl 1 rfl) ?_
                          refine lv_dup hx hb dX12_take_333 rfl ?_
                          refine va_get (D := (dC, dI)) (ci := 12) (v := .int z_167) (C := RX12) (T := TX12) (N := 70) hx hb hts hiX12 hown hK hP 0 rfl rfl 31 (by decide) w__fieldLink_RX12_207_ShellHeapModel_next_I_ (fun _ h9 => h9) rfl dX12_take_334 ?_
                          refine lv_iconst (v := 1) hx hb dX12_take_337 (by decide) ?_
                          refine lv_iadd hx hb dX12_take_338 ?_
                          refine lv_topi (fun z_192 ez_192 => ?_)
                          have kz_192 : (z_192).toInt = (z_167).toInt + (1 : Int) := by rw [ez_192]; exact z_add (a := (z_167).toInt) (b := (1 : Int)) rfl rfl (by omega) (by omega)
                          refine va_put (D := (dC, dI)) (ci := 12) (v := .int z_192) (ty := .int) (C := RX12) (T := TX12) (N := 70) hx hb hts hiX12 tyX12 tyX12_ok nmX12 hown hK hP hD hS 0 rfl rfl 31 (by decide) w__fieldLink_RX12_207_ShellHeapModel_next_I_ (fun _ h9 => h9) rfl (by decide +kernel) rfl rfl (Nat.le_of_ble_eq_true rfl) dX12_take_339 (fun H_193 locs hP hD hS => ?_)
                          obtain ⟨hP, hD⟩ := z_s_0_31 hP hD
                          refine z_backQ hQQ ?_
                          have hP9 := hP
                          have hD9 := hD
                          have hK9 := hK.sub (tys' := []) [] rfl
                          refine W.widen (k := 0) (n := 0) (Nat.le_of_ble_eq_true rfl) (Nat.le_of_ble_eq_true rfl) ?_
                          exact W.vret hx hb hr (fun t ht hW => ⟨⟨(), rfl, trivial, ⟨z_192, 4, 5, v_4, (by first | omega | decide), (by decide), hF_5, (show mnx.toInt ≤ z_192.toInt ∧ z_192.toInt ≤ mst.toInt by omega), (show (4 : Int) ≤ 8 * (z_192.toInt - mnx.toInt) by omega), (show v_4.toInt ≤ z_192.toInt by omega), (show z_tk8 (4 : Int) z_192.toInt v_4.toInt from fun h9 => by omega), (show z_tkw (5 : Int) (4 : Int) from fun h9 h8 h7 => by omega), by rw [ht]; exact hP9, va_K.moved hW.alike hK9, hD9⟩⟩, hS.F ht⟩) hS.2.2 dX12_take_342
                  · have k_194 : (0 : Int) > (r_170).toInt := z_nle c_173
                    obtain rfl : r_170 = (-1) := z_eq' (show (r_170).toInt = (-1 : Int) by omega)
                    refine lv_iconst (v := 5) hx hb dX12_take_300 (by decide) ?_
                    refine lv_goto (tgt := 305) hx hb dX12_take_301 (by decide) ?_
                    refine va_put (D := (dC, dI)) (ci := 12) (v := .int 5) (ty := .int) (C := RX12) (T := TX12) (N := 70) hx hb hts hiX12 tyX12 tyX12_ok nmX12 hown hK hP hD hS 0 rfl rfl 32 (by decide) w__fieldLink_RX12_221_ShellHeapModel_kindNow_I_ (fun _ h9 => h9) rfl (by decide +kernel) rfl rfl (Nat.le_of_ble_eq_true rfl) dX12_take_305 (fun H_196 locs hP hD hS => ?_)
                    obtain ⟨hP, hD⟩ := z_s_0_32 hP hD
                    refine lv_aload_n hx hb dX12_take_308 rfl (lv_at hl 1 rfl) ?_
                    refine va_get (D := (dC, dI)) (ci := 12) (v := .int (-1)) (C := RX12) (T := TX12) (N := 70) hx hb hts hiX12 hown hK hP 0 rfl rfl 33 (by decide) w__fieldLink_RX12_214_ShellHeapModel_which_I_ (fun _ h9 => h9) rfl dX12_take_309 ?_
                    refine lv_iconst (v := 2) hx hb dX12_take_312 (by decide) ?_
                    refine lv_icmp_eq (tgt := 332) hx hb dX12_take_313 (by decide) (fun c_197 => absurd c_197 (by decide)) (fun _ => ?_)
                    refine lv_aload_n hx hb dX12_take_316 rfl (lv_at hl 1 rfl) ?_
                    refine va_get (D := (dC, dI)) (ci := 12) (v := .int (-1)) (C := RX12) (T := TX12) (N := 70) hx hb hts hiX12 hown hK hP 0 rfl rfl 33 (by decide) w__fieldLink_RX12_214_ShellHeapModel_which_I_ (fun _ h9 => h9) rfl dX12_take_317 ?_
                    refine lv_iconst (v := 4) hx hb dX12_take_320 (by decide) ?_
                    refine lv_icmp_eq (tgt := 332) hx hb dX12_take_321 (by decide) (fun c_198 => absurd c_198 (by decide)) (fun _ => ?_)
                    refine lv_aload_n hx hb dX12_take_324 rfl (lv_at hl 1 rfl) ?_
                    refine va_get (D := (dC, dI)) (ci := 12) (v := .int (-1)) (C := RX12) (T := TX12) (N := 70) hx hb hts hiX12 hown hK hP 0 rfl rfl 33 (by decide) w__fieldLink_RX12_214_ShellHeapModel_which_I_ (fun _ h9 => h9) rfl dX12_take_325 ?_
                    refine lv_iconst (v := 5) hx hb dX12_take_328 (by decide) ?_
                    refine lv_icmp_ne (tgt := 342) hx hb dX12_take_329 (by decide) (fun _ => ?_) (fun c_199 => absurd c_199 (by decide))
                    refine z_backQ hQQ ?_
                    have hP9 := hP
                    have hD9 := hD
                    have hK9 := hK.sub (tys' := []) [] rfl
                    refine W.widen (k := 0) (n := 0) (Nat.le_of_ble_eq_true rfl) (Nat.le_of_ble_eq_true rfl) ?_
                    exact W.vret hx hb hr (fun t ht hW => ⟨⟨(), rfl, trivial, ⟨z_167, 5, (-1), v_4, (by first | omega | decide), (by decide), hF_5, (show mnx.toInt ≤ z_167.toInt ∧ z_167.toInt ≤ mst.toInt by omega), (show (5 : Int) ≤ 8 * (z_167.toInt - mnx.toInt) by omega), (show v_4.toInt ≤ z_167.toInt by omega), (show z_tk8 (5 : Int) z_167.toInt v_4.toInt from fun h9 => by omega), (show z_tkw (-1 : Int) (5 : Int) from fun h9 h8 h7 => by omega), by rw [ht]; exact hP9, va_K.moved hW.alike hK9, hD9⟩⟩, hS.F ht⟩) hS.2.2 dX12_take_342
            · have k_200 : (v_4).toInt = (mst).toInt := z_eq c_112
              refine lv_aload_n hx hb dX12_take_71 rfl (lv_at hl 0 rfl) ?_
              refine lv_iconst (v := 0) hx hb dX12_take_72 (by decide) ?_
              refine va_put (D := (dC, dI)) (ci := 12) (v := .int 0) (ty := .int) (C := RX12) (T := TX12) (N := 70) hx hb hts hiX12 tyX12 tyX12_ok nmX12 hown hK hP hD hS 0 rfl rfl 32 (by decide) w__fieldLink_RX12_221_ShellHeapModel_kindNow_I_ (fun _ h9 => h9) rfl (by decide +kernel) rfl rfl (Nat.le_of_ble_eq_true rfl) dX12_take_73 (fun H_201 locs hP hD hS => ?_)
              obtain ⟨hP, hD⟩ := z_s_0_32 hP hD
              refine lv_goto (tgt := 342) hx hb dX12_take_76 (by decide) ?_
              refine z_backQ hQQ ?_
              have hP9 := hP
              have hD9 := hD
              have hK9 := hK.sub (tys' := []) [] rfl
              refine W.widen (k := 0) (n := 0) (Nat.le_of_ble_eq_true rfl) (Nat.le_of_ble_eq_true rfl) ?_
              exact W.vret hx hb hr (fun t ht hW => ⟨⟨(), rfl, trivial, ⟨v_4, 0, mwh, v_4, hF_5, (by decide), hF_5, (show mnx.toInt ≤ v_4.toInt ∧ v_4.toInt ≤ mst.toInt by omega), (show (0 : Int) ≤ 8 * (v_4.toInt - mnx.toInt) by omega), (show v_4.toInt ≤ v_4.toInt by omega), (show z_tk8 (0 : Int) v_4.toInt v_4.toInt from fun h9 => by omega), (show z_tkw mwh.toInt (0 : Int) from fun h9 h8 h7 => by omega), by rw [ht]; exact hP9, va_K.moved hW.alike hK9, hD9⟩⟩, hS.F ht⟩) hS.2.2 dX12_take_342
          · have k_202 : (z_108).toInt = (32 : Int) := z_eq c_109
            obtain rfl : z_108 = 32 := z_eq' (show (z_108).toInt = (32 : Int) by omega)
            refine lv_aload_n hx hb dX12_take_39 rfl (lv_at hl 0 rfl) ?_
            refine lv_dup hx hb dX12_take_40 rfl ?_
            refine va_get (D := (dC, dI)) (ci := 12) (v := .int v_4) (C := RX12) (T := TX12) (N := 70) hx hb hts hiX12 hown hK hP 0 rfl rfl 31 (by decide) w__fieldLink_RX12_207_ShellHeapModel_next_I_ (fun _ h9 => h9) rfl dX12_take_41 ?_
            refine lv_iconst (v := 1) hx hb dX12_take_44 (by decide) ?_
            refine lv_iadd hx hb dX12_take_45 ?_
            refine lv_topi (fun z_204 ez_204 => ?_)
            have kz_204 : (z_204).toInt = (v_4).toInt + (1 : Int) := by rw [ez_204]; exact z_add (a := (v_4).toInt) (b := (1 : Int)) rfl rfl (z_al hF_5.1 (by decide)) (z_ah hF_5.2 (by decide))
            refine va_put (D := (dC, dI)) (ci := 12) (v := .int z_204) (ty := .int) (C := RX12) (T := TX12) (N := 70) hx hb hts hiX12 tyX12 tyX12_ok nmX12 hown hK hP hD hS 0 rfl rfl 31 (by decide) w__fieldLink_RX12_207_ShellHeapModel_next_I_ (fun _ h9 => h9) rfl (by decide +kernel) rfl rfl (Nat.le_of_ble_eq_true rfl) dX12_take_46 (fun H_205 locs hP hD hS => ?_)
            obtain ⟨hP, hD⟩ := z_s_0_31 hP hD
            refine lv_goto (tgt := 0) hx hb dX12_take_49 (by decide) ?_
            exact ih_3 z_204 _ _ _ (show (701 - (z_204).toInt).toNat < n_2 by omega) (show ((0 : Int) ≤ (z_204).toInt ∧ (z_204).toInt ≤ (700 : Int)) by omega) (show (mnx).toInt ≤ (z_204).toInt ∧ (z_204).toInt ≤ (mst).toInt by omega) hP hD hS (lv_sub hl [0, 1] rfl)
  exact loop_1 _ mnx _ _ _ (Nat.lt_succ_self _) (show ((0 : Int) ≤ (mnx).toInt ∧ (mnx).toInt ≤ (700 : Int)) by omega) (show (mnx).toInt ≤ (mnx).toInt ∧ (mnx).toInt ≤ (mst).toInt by omega) hP hD hS hl
